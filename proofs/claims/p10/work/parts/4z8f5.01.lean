/-! the least costs: the reference's search -/
def Br (line : Nat → Nat → Int32) (left : Nat → Int32) (tons : Int32) (l : Nat) (w : Int32) : Prop := line l 6 = 0 ∧ ¬ ((line l 2 >>> (w &&& 31)) &&& 1) = 0 ∧ ¬ left l < tons
def Ed (L : Nat) (line : Nat → Nat → Int32) (changes coins left : Nat → Int32) (tons : Int32) (u v : Nat) (c : Int) : Prop :=
  (∃ l w : Nat, l < L ∧ w < 3 ∧ Br line left tons l (Int32.ofNat w) ∧ c = (line l 3 * coins w).toInt ∧ ((u = 3 * (line l 0).toNatClampNeg + w ∧ v = 3 * (line l 1).toNatClampNeg + w) ∨ (u = 3 * (line l 1).toNatClampNeg + w ∧ v = 3 * (line l 0).toNatClampNeg + w))) ∨
  (∃ p w w' : Nat, p < 12 ∧ w < 3 ∧ w' < 3 ∧ u = 3 * p + w ∧ v = 3 * p + w' ∧ c = (changes p).toInt)
def Wk (D : Nat → Nat → Int → Prop) (G : Nat → Prop) : Nat → Nat → Int → Prop
  | 0, u, c => G u ∧ c = 0
  | k + 1, u, c => ∃ v d, D u v d ∧ Wk D G k v (c - d)
def At (D : Nat → Nat → Int → Prop) (G : Nat → Prop) (far : Nat → Int32) : Prop := (∀ u, u < 36 → G u → far u = 0) ∧ ∀ u, u < 36 → (far u).toInt < 1000000000 → ∃ k, Wk D G k u (far u).toInt
def S36 (f : Nat → Int32) : Nat := ((List.range 36).map (fun i => (f i).toNatClampNeg)).sum
theorem S36_lt {f : Nat → Int32} {u : Nat} {x : Int32} (hu : u < 36) (hx : x.toNatClampNeg < (f u).toNatClampNeg) : S36 (va_up f u x) < S36 f := by
  refine sum_lt (q := u) _ (List.mem_range.mpr hu) (fun k _ => ?_) ?_
  · show (va_up f u x k).toNatClampNeg ≤ (f k).toNatClampNeg
    by_cases hk : k = u
    · subst hk; rw [va_up_self]; omega
    · rw [va_up_ne _ _ hk]; exact Nat.le_refl _
  · show (va_up f u x u).toNatClampNeg < (f u).toNatClampNeg
    rw [va_up_self]; exact hx
theorem S36_n {f : Nat → Int32} (h : AI 0 1000000000 f) : S36 f ≤ 36000000000 := by
  have key : ∀ l : List Nat, (l.map (fun i => (f i).toNatClampNeg)).sum ≤ l.length * 1000000000 := by
    intro l
    induction l with
    | nil => simp
    | cons a t ih =>
      simp only [List.map_cons, List.sum_cons, List.length_cons]
      have a1 := i32_cl (h a).1
      have a2 := Int32.le_iff_toInt_le.mp (h a).2
      have z : (1000000000 : Int32).toInt = 1000000000 := by decide
      rw [z] at a2
      have a3 : (f a).toNatClampNeg ≤ 1000000000 := by omega
      rw [Nat.add_mul]
      omega
  have := key (List.range 36)
  rw [List.length_range] at this
  unfold S36
  omega
theorem rlx0 {D : Nat → Nat → Int → Prop} {G : Nat → Prop} {far : Nat → Int32} {u v : Nat} {x c : Int32} (hA : AI 0 1000000000 far) (hAt : At D G far) (hu : u < 36) (hv : v < 36) (hE : D u v c.toInt) (hc : 0 ≤ c ∧ c ≤ 1000) (hx : x = far v + c) (hlt : ¬ far u ≤ x) : AI 0 1000000000 (va_up far u x) ∧ At D G (va_up far u x) ∧ S36 (va_up far u x) < S36 far := by
  have z : (1000000000 : Int32).toInt = 1000000000 := by decide
  have z0 : (0 : Int32).toInt = 0 := by decide
  have z1 : (1000 : Int32).toInt = 1000 := by decide
  have av := i32_b (hA v)
  have au := i32_b (hA u)
  have ac := i32_b hc
  rw [z0, z] at av au
  rw [z0, z1] at ac
  have ex : x.toInt = (far v).toInt + c.toInt := by rw [hx]; exact i32_add (by omega) (by omega)
  have hl := Int32.lt_iff_toInt_lt.mp (Int32.not_le.mp hlt)
  have x0 : 0 ≤ x := Int32.le_iff_toInt_le.mpr (by rw [ex, z0]; omega)
  have x1 : x ≤ 1000000000 := Int32.le_iff_toInt_le.mpr (by rw [z]; omega)
  refine ⟨hA.up ⟨x0, x1⟩, ⟨fun w hw hg => ?_, fun w hw hf => ?_⟩, S36_lt hu ?_⟩
  · by_cases hwu : w = u
    · subst hwu
      rw [hAt.1 w hw hg] at hlt
      exact absurd x0 hlt
    · rw [va_up_ne _ _ hwu]
      exact hAt.1 w hw hg
  · by_cases hwu : w = u
    · subst hwu
      rw [va_up_self] at hf ⊢
      obtain ⟨k, hk⟩ := hAt.2 v hv (by omega)
      exact ⟨k + 1, v, c.toInt, hE, by rw [ex]; have e : (far v).toInt + c.toInt - c.toInt = (far v).toInt := by omega
                                       rw [e]; exact hk⟩
    · rw [va_up_ne _ _ hwu] at hf ⊢
      exact hAt.2 w hw hf
  · have a := i32_cl x0
    have b := i32_cl (hA u).1
    omega
/-- a pass over f0: unchanged, or the sum has become less -/
def Jf (D : Nat → Nat → Int → Prop) (G : Nat → Prop) (f0 : Nat → Int32) (less : Int32) (far : Nat → Int32) : Prop := AI 0 1000000000 far ∧ At D G far ∧ ((less = 0 ∧ far = f0) ∨ (less = 1 ∧ S36 far < S36 f0))
theorem Jf.rlx {D : Nat → Nat → Int → Prop} {G : Nat → Prop} {f0 far : Nat → Int32} {less : Int32} {u v : Nat} {x c : Int32} (h : Jf D G f0 less far) (hu : u < 36) (hv : v < 36) (hE : D u v c.toInt) (hc : 0 ≤ c ∧ c ≤ 1000) (hx : x = far v + c) (hlt : ¬ far u ≤ x) : Jf D G f0 1 (va_up far u x) := by
  obtain ⟨a, b, c'⟩ := h
  obtain ⟨d, e, f⟩ := rlx0 a b hu hv hE hc hx hlt
  refine ⟨d, e, Or.inr ⟨rfl, ?_⟩⟩
  rcases c' with ⟨_, rfl⟩ | ⟨_, c'⟩
  · exact f
  · omega
/-- no step makes it less -/
def OKl (line : Nat → Nat → Int32) (coins left : Nat → Int32) (tons : Int32) (f : Nat → Int32) (l w : Nat) : Prop := Br line left tons l (Int32.ofNat w) → f (3 * (line l 0).toNatClampNeg + w) ≤ f (3 * (line l 1).toNatClampNeg + w) + line l 3 * coins w ∧ f (3 * (line l 1).toNatClampNeg + w) ≤ f (3 * (line l 0).toNatClampNeg + w) + line l 3 * coins w
def OKc (changes : Nat → Int32) (f : Nat → Int32) (m w : Nat) : Prop := f m ≤ f (m / 3 * 3 + w) + changes (m / 3)
theorem ix3 {p w : Int32} (hp : 0 ≤ p ∧ p ≤ 11) (hw : 0 ≤ w ∧ w < 3) : (0 ≤ 3 * p + w ∧ 3 * p + w < 36) ∧ (3 * p + w).toNatClampNeg = 3 * p.toNatClampNeg + w.toNatClampNeg := by
  refine ⟨by grind, ?_⟩
  have := ixm (p := 3) (m := p) (c := w) (by decide) (by grind) (by grind)
  rw [this]
  rfl
theorem w_of {w : Int32} (hw : 0 ≤ w ∧ w < 3) : Int32.ofNat w.toNatClampNeg = w ∧ w.toNatClampNeg < 3 := ⟨Int32.ofNat_toNatClampNeg w hw.1, i32_lt (M := 3) rfl hw⟩
theorem p_of {p : Int32} (hp : 0 ≤ p ∧ p ≤ 11) : p.toNatClampNeg < 12 := i32_lt (M := 12) rfl (by grind)
theorem mc_rng {a b : Int32} (ha : 0 ≤ a ∧ a ≤ 60) (hb : 0 ≤ b ∧ b ≤ 9) : 0 ≤ a * b ∧ a * b ≤ 1000 := by
  have x := i32_b ha
  have y := i32_b hb
  have z0 : (0 : Int32).toInt = 0 := by decide
  have z60 : (60 : Int32).toInt = 60 := by decide
  have z9 : (9 : Int32).toInt = 9 := by decide
  have z1 : (1000 : Int32).toInt = 1000 := by decide
  rw [z0, z60] at x
  rw [z0, z9] at y
  obtain ⟨e, h1, h2⟩ := mul_rng x y (by decide) (by decide)
  exact ⟨Int32.le_iff_toInt_le.mpr (by rw [e, z0]; exact h1), Int32.le_iff_toInt_le.mpr (by rw [e, z1]; omega)⟩
theorem s_bears {x0_shelf x0_rowSort x0_rowSize : (Nat → Int32)} {x0_rows : (Nat → Nat → Int64)} {x0_moved : (Nat → Int64)} {x0_shown x0_tape : (Nat → Int32)} {x0_tapeSize : Int32} {x0_refused : (Nat → Int32)} {x0_lines : Int32} {x0_line : (Nat → Nat → Int32)} {x0_changes x0_coins : (Nat → Int32)} {x0_goods : Int32} {x0_good : (Nat → Nat → Int32)} {x0_works : Int32} {x0_work : (Nat → Nat → Int32)} {x0_years x0_gone x0_spent x0_at x0_token x0_from : Int32} {x0_figures : Int64} {x0_fault : Int32} {x0_numbers : (Nat → Int32)} {x0_statements : Int32} {x0_left x0_far : (Nat → Int32)} {x0_tons : Int32} {x0_way : (Nat → Int32)} {x0_steps : Int32} {x0_met : Int64} {x0_queue x0_totals : (Nat → Int32)} {p1 p2 : Int32} (h_x0_line : LnM x0_line) (hp : 0 ≤ p1 ∧ p1 ≤ 19) : Sf (fX7_bears (x0_shelf, x0_rowSort, x0_rowSize, x0_rows, x0_moved, x0_shown, x0_tape, x0_tapeSize, x0_refused, x0_lines, x0_line, x0_changes, x0_coins, x0_goods, x0_good, x0_works, x0_work, x0_years, x0_gone, x0_spent, x0_at, x0_token, x0_from, x0_figures, x0_fault, x0_numbers, x0_statements, x0_left, x0_far, x0_tons, x0_way, x0_steps, x0_met, x0_queue, x0_totals) p1 p2) (fun r => (r = 1 ∧ Br x0_line x0_left x0_tons p1.toNatClampNeg p2) ∨ (r = 0 ∧ ¬ Br x0_line x0_left x0_tons p1.toNatClampNeg p2)) := by
  unfold fX7_bears
  dsimp only [u35]
  have hi : 0 ≤ p1 ∧ p1 < 20 := by grind
  refine Sf.ckb 20 rfl hi (fun q1 e1 _ => ?_)
  subst e1
  refine Sf.rdl 6 rfl rfl (fun v2 e2 => ?_)
  refine Sf.ite (fun h2 => ?_) (fun h2 => Sf.ok (Or.inr ⟨rfl, fun h => h2 (e2.trans h.1)⟩))
  refine Sf.ckb 20 rfl hi (fun q3 e3 _ => ?_)
  subst e3
  refine Sf.rdl 2 rfl rfl (fun v4 e4 => ?_)
  refine Sf.ite (fun h4 => Sf.ok (Or.inr ⟨rfl, fun h => h.2.1 (by rw [← e4]; exact h4)⟩)) (fun h4 => ?_)
  refine Sf.rdb 20 rfl hi (fun v5 e5 => ?_)
  refine Sf.ite (fun h5 => Sf.ok (Or.inr ⟨rfl, fun h => h.2.2 (by rw [← e5]; exact h5)⟩)) (fun h5 => Sf.ok (Or.inl ⟨rfl, e2 ▸ h2, by rw [← e4]; exact h4, by rw [← e5]; exact h5⟩))
theorem T_s61 {P0 : Prop} {G : Nat → Prop} {f0 : Nat → Int32} {p2 : Int32} {x0_shelf x0_rowSort x0_rowSize : (Nat → Int32)} {x0_rows : (Nat → Nat → Int64)} {x0_moved : (Nat → Int64)} {x0_shown x0_tape : (Nat → Int32)} {x0_tapeSize : Int32} {x0_refused : (Nat → Int32)} {x0_lines : Int32} {x0_line : (Nat → Nat → Int32)} {x0_changes x0_coins : (Nat → Int32)} {x0_goods : Int32} {x0_good : (Nat → Nat → Int32)} {x0_works : Int32} {x0_work : (Nat → Nat → Int32)} {x0_years x0_gone x0_spent x0_at x0_token x0_from : Int32} {x0_figures : Int64} {x0_fault : Int32} {x0_numbers : (Nat → Int32)} {x0_statements : Int32} {x0_left x0_way : (Nat → Int32)} {x0_steps : Int32} {x0_met : Int64} {x0_queue x0_totals : (Nat → Int32)} {z13 z39 z40 : Int32} {z41 : (Nat → Int32)} (h_lines : 0 ≤ x0_lines ∧ x0_lines ≤ 20) (h_x0_line : LnM x0_line) (h_coins : AI 0 9 x0_coins) (hz : 0 ≤ z13 ∧ z13 < x0_lines) (hJ : Jf (Ed x0_lines.toNatClampNeg x0_line x0_changes x0_coins x0_left p2) G f0 z39 z41) (h40 : 0 ≤ z40) (hK : z39 = 0 → P0 ∧ ∀ w : Nat, w < z40.toNatClampNeg → OKl x0_line x0_coins x0_left p2 f0 z13.toNatClampNeg w) :
    Sf (fX7_findFar_s61 p2 x0_shelf x0_rowSort x0_rowSize x0_rows x0_moved x0_shown x0_tape x0_tapeSize x0_refused x0_lines x0_line x0_changes x0_coins x0_goods x0_good x0_works x0_work x0_years x0_gone x0_spent x0_at x0_token x0_from x0_figures x0_fault x0_numbers x0_statements x0_left x0_way x0_steps x0_met x0_queue x0_totals z13 z39 z40 z41) (LQ (u3 (fun (z39 : Int32) (z40 : Int32) (z41 : Nat → Int32) => Jf (Ed x0_lines.toNatClampNeg x0_line x0_changes x0_coins x0_left p2) G f0 z39 z41 ∧ 0 ≤ z40 ∧ (z39 = 0 → P0 ∧ ∀ w : Nat, w < z40.toNatClampNeg → OKl x0_line x0_coins x0_left p2 f0 z13.toNatClampNeg w))) (u3 (fun (z39 : Int32) (z40 : Int32) (z41 : Nat → Int32) => muUp z40)) (muUp z40) (fun e => Jf (Ed x0_lines.toNatClampNeg x0_line x0_changes x0_coins x0_left p2) G f0 e.1 e.2 ∧ (e.1 = 0 → P0 ∧ ∀ w : Nat, w < 3 → OKl x0_line x0_coins x0_left p2 f0 z13.toNatClampNeg w))) := by
  unfold fX7_findFar_s61
  refine Sf.ite (fun h => Sf.inr ⟨hJ, fun h0 => ⟨(hK h0).1, fun w hw => (hK h0).2 w ?_⟩⟩) (fun h => ?_)
  · have a := Int32.le_iff_toInt_le.mp h
    have b := i32_cl h40
    have z3 : (3 : Int32).toInt = 3 := by decide
    rw [z3] at a
    omega
  have hw : 0 ≤ z40 ∧ z40 < 3 := ⟨h40, Int32.not_le.mp h⟩
  obtain ⟨ew, lw⟩ := w_of hw
  have h41 : 0 ≤ z40 + 1 := by grind
  have n41 : (z40 + 1).toNatClampNeg = z40.toNatClampNeg + 1 := by
    have := ixm (p := z40) (m := 1) (c := 1) (by grind) (by decide) (by decide)
    have e1 : z40 * 1 = z40 := by grind
    rw [e1] at this
    rw [this]
    have e2 : (1 : Int32).toNatClampNeg = 1 := rfl
    rw [e2, Nat.mul_one]
  have hz19 : 0 ≤ z13 ∧ z13 ≤ 19 := by grind
  have hzL : z13.toNatClampNeg < x0_lines.toNatClampNeg := by
    have a := Int32.lt_iff_toInt_lt.mp hz.2
    have b := i32_cl hz.1
    have c := i32_cl h_lines.1
    omega
  have nxt : ∀ {l : Int32} {g : Nat → Int32}, Jf (Ed x0_lines.toNatClampNeg x0_line x0_changes x0_coins x0_left p2) G f0 l g → (l = 0 → P0 ∧ ∀ w : Nat, w < z40.toNatClampNeg → OKl x0_line x0_coins x0_left p2 f0 z13.toNatClampNeg w) → (l = 0 → OKl x0_line x0_coins x0_left p2 f0 z13.toNatClampNeg z40.toNatClampNeg) → Sf (some (.inl (l, z40 + 1, g) : (Int32 × Int32 × (Nat → Int32)) ⊕ (Int32 × (Nat → Int32)))) (LQ (u3 (fun (z39 : Int32) (z40 : Int32) (z41 : Nat → Int32) => Jf (Ed x0_lines.toNatClampNeg x0_line x0_changes x0_coins x0_left p2) G f0 z39 z41 ∧ 0 ≤ z40 ∧ (z39 = 0 → P0 ∧ ∀ w : Nat, w < z40.toNatClampNeg → OKl x0_line x0_coins x0_left p2 f0 z13.toNatClampNeg w))) (u3 (fun (z39 : Int32) (z40 : Int32) (z41 : Nat → Int32) => muUp z40)) (muUp z40) (fun e => Jf (Ed x0_lines.toNatClampNeg x0_line x0_changes x0_coins x0_left p2) G f0 e.1 e.2 ∧ (e.1 = 0 → P0 ∧ ∀ w : Nat, w < 3 → OKl x0_line x0_coins x0_left p2 f0 z13.toNatClampNeg w))) := by
    intro l g j k1 k2
    refine Sf.inl ⟨j, h41, fun h0 => ⟨(k1 h0).1, fun w hlt => ?_⟩⟩ (muUp_lt h)
    rw [n41] at hlt
    by_cases hx : w = z40.toNatClampNeg
    · subst hx; exact k2 h0
    · exact (k1 h0).2 w (by omega)
  refine Sf.bind (s_bears h_x0_line hz19) (fun v45 h45 => ?_)
  refine Sf.ite (fun h0 => ?_) (fun h0 => ?_)
  · refine nxt hJ hK (fun _ hb => absurd hb ?_)
    rw [ew]
    rcases h45 with h45 | h45
    · rw [h0] at h45; exact absurd h45.1 (by decide)
    · exact h45.2
  have hB : Br x0_line x0_left p2 z13.toNatClampNeg z40 := by
    rcases h45 with h45 | h45
    · exact h45.2
    · exact absurd h45.1 h0
  have hi : 0 ≤ z13 ∧ z13 < 20 := by grind
  refine Sf.ckb 20 rfl hi (fun q47 e47 _ => ?_)
  refine Sf.rdl 0 rfl rfl (fun v48 e48 => ?_)
  refine Sf.ckb 20 rfl hi (fun q49 e49 _ => ?_)
  refine Sf.rdl 1 rfl rfl (fun v50 e50 => ?_)
  refine Sf.ckb 20 rfl hi (fun q51 e51 _ => ?_)
  refine Sf.rdl 3 rfl rfl (fun v52 e52 => ?_)
  subst e47 e49 e51
  have b48 : 0 ≤ v48 ∧ v48 ≤ 11 := by rw [e48]; exact h_x0_line _ 0
  have b50 : 0 ≤ v50 ∧ v50 ≤ 11 := by rw [e50]; exact h_x0_line _ 1
  have b52 : 0 ≤ v52 ∧ v52 ≤ 60 := by rw [e52]; exact h_x0_line _ 3
  refine Sf.rdI 3 rfl h_coins hw (fun v53 b53 e53 => ?_)
  have bc := mc_rng b52 b53
  obtain ⟨i48, n48⟩ := ix3 b48 hw
  obtain ⟨i50, n50⟩ := ix3 b50 hw
  have l48 := p_of b48
  have l50 := p_of b50
  have ec : v52 * v53 = x0_line z13.toNatClampNeg 3 * x0_coins z40.toNatClampNeg := by rw [e52, e53]
  have hE1 : (Ed x0_lines.toNatClampNeg x0_line x0_changes x0_coins x0_left p2) (3 * v48.toNatClampNeg + z40.toNatClampNeg) (3 * v50.toNatClampNeg + z40.toNatClampNeg) (v52 * v53).toInt := by
    refine Or.inl ⟨z13.toNatClampNeg, z40.toNatClampNeg, hzL, lw, by rw [ew]; exact hB, by rw [ec], Or.inl ⟨by rw [e48], by rw [e50]⟩⟩
  have hE2 : (Ed x0_lines.toNatClampNeg x0_line x0_changes x0_coins x0_left p2) (3 * v50.toNatClampNeg + z40.toNatClampNeg) (3 * v48.toNatClampNeg + z40.toNatClampNeg) (v52 * v53).toInt := by
    refine Or.inl ⟨z13.toNatClampNeg, z40.toNatClampNeg, hzL, lw, by rw [ew]; exact hB, by rw [ec], Or.inr ⟨by rw [e50], by rw [e48]⟩⟩
  have hu48 : 3 * v48.toNatClampNeg + z40.toNatClampNeg < 36 := by omega
  have hu50 : 3 * v50.toNatClampNeg + z40.toNatClampNeg < 36 := by omega
  refine Sf.rdb 36 rfl i50 (fun v54 e54 => ?_)
  refine Sf.rdb 36 rfl i48 (fun v55 e55 => ?_)
  rw [n50] at e54
  rw [n48] at e55
  have second : ∀ {l : Int32} {g : Nat → Int32}, Jf (Ed x0_lines.toNatClampNeg x0_line x0_changes x0_coins x0_left p2) G f0 l g → (l = 0 → (z39 = 0 ∧ g (3 * v48.toNatClampNeg + z40.toNatClampNeg) ≤ g (3 * v50.toNatClampNeg + z40.toNatClampNeg) + v52 * v53)) → Sf (fX7_findFar_j168 z40 v48 v50 v52 v53 g l) (LQ (u3 (fun (z39 : Int32) (z40 : Int32) (z41 : Nat → Int32) => Jf (Ed x0_lines.toNatClampNeg x0_line x0_changes x0_coins x0_left p2) G f0 z39 z41 ∧ 0 ≤ z40 ∧ (z39 = 0 → P0 ∧ ∀ w : Nat, w < z40.toNatClampNeg → OKl x0_line x0_coins x0_left p2 f0 z13.toNatClampNeg w))) (u3 (fun (z39 : Int32) (z40 : Int32) (z41 : Nat → Int32) => muUp z40)) (muUp z40) (fun e => Jf (Ed x0_lines.toNatClampNeg x0_line x0_changes x0_coins x0_left p2) G f0 e.1 e.2 ∧ (e.1 = 0 → P0 ∧ ∀ w : Nat, w < 3 → OKl x0_line x0_coins x0_left p2 f0 z13.toNatClampNeg w))) := by
    intro l g j k
    unfold fX7_findFar_j168
    refine Sf.rdb 36 rfl i48 (fun v58 e58 => ?_)
    refine Sf.rdb 36 rfl i50 (fun v59 e59 => ?_)
    rw [n48] at e58
    rw [n50] at e59
    refine Sf.ite (fun hle => ?_) (fun hle => ?_)
    · refine nxt j (fun h0 => hK (k h0).1) (fun h0 _ => ?_)
      have hg : g = f0 := by
        rcases j.2.2 with jj | jj
        · exact jj.2
        · rw [h0] at jj; exact absurd jj.1 (by decide)
      have k2 := (k h0).2
      rw [e58, e59] at hle
      rw [ec, e48, e50] at k2 hle
      rw [hg] at k2 hle
      exact ⟨k2, hle⟩
    · refine Sf.rdb 36 rfl i48 (fun v60 e60 => ?_)
      rw [n48] at e60
      refine Sf.wrb 36 rfl i50 (fun f61 e61 => ?_)
      rw [n50] at e61
      rw [e61]
      refine nxt (j.rlx hu50 hu48 hE2 bc (by rw [e60]) (by rw [e60, ← e58, ← e59]; exact hle)) (fun h0 => absurd h0 (by decide)) (fun h0 => absurd h0 (by decide))
  refine Sf.ite (fun hle => ?_) (fun hle => ?_)
  · exact second hJ (fun h0 => ⟨h0, by rw [← e54, ← e55]; exact hle⟩)
  · refine Sf.rdb 36 rfl i50 (fun v62 e62 => ?_)
    rw [n50] at e62
    refine Sf.wrb 36 rfl i48 (fun f63 e63 => ?_)
    rw [n48] at e63
    rw [e63]
    exact second (hJ.rlx hu48 hu50 hE1 bc (by rw [e62]) (by rw [e62, ← e54, ← e55]; exact hle)) (fun h0 => absurd h0 (by decide))

theorem ix10 {p lc v : Int32} {X : Prop} (h : (v = 1 ∧ 10 ≤ p ∧ p ≤ (10 + lc) - 1) ∨ (v = 0 ∧ X)) (hv : ¬ v = 0) (hl : 0 ≤ lc ∧ lc ≤ 20) : 0 ≤ p - 10 ∧ p - 10 < 20 := by
  rcases h with ⟨_, h1, h2⟩ | ⟨h, _⟩
  · have h3 : (10 + lc) - 1 ≤ 29 := by clear h1 h2; grind
    have h4 : p ≤ 29 := Int32.le_trans h2 h3
    clear h2 h3 hl hv
    grind
  · exact absurd h hv
theorem cpa {i n : Int32} (h : (0 ≤ i ∧ i ≤ 40) ∧ (0 ≤ n ∧ n ≤ 40) ∧ i + n ≤ 40) : i.toInt + n.toInt ≤ ((40 : Nat) : Int) := by
  have a := i32_b h.1
  have b := i32_b h.2.1
  have c := Int32.le_iff_toInt_le.mp h.2.2
  have z : (0 : Int32).toInt = 0 := by decide
  have z4 : (40 : Int32).toInt = 40 := by decide
  rw [z, z4] at a b
  rw [i32_add (by omega) (by omega), z4] at c
  omega
def muDe (z : Int32) : Nat := (z.toInt + 1).toNat
theorem muDe_lt0 {z : Int32} (h : ¬ z < 0) : muDe (z - 1) < muDe z := by
  have h1 := i32_nn (Int32.not_lt.mp h)
  have h4 : z.toInt < 2147483648 := Int32.toInt_lt z
  have z1 : (1 : Int32).toInt = 1 := by decide
  have e : (z - 1).toInt = z.toInt - 1 := by
    rw [i32_sub (by omega) (by omega), z1]
  unfold muDe
  omega
theorem muDe_lta {z : Int32} (h : ¬ z < 0) : muDe (z + (-1)) < muDe z := by
  have h1 := i32_nn (Int32.not_lt.mp h)
  have h4 : z.toInt < 2147483648 := Int32.toInt_lt z
  have z1 : (-1 : Int32).toInt = -1 := by decide
  have e : (z + (-1)).toInt = z.toInt - 1 := by
    rw [i32_add (by omega) (by omega), z1]
    omega
  unfold muDe
  omega
theorem muDe_n {z : Int32} {n : Nat} (hn : 1000000000000 ≤ n) : muDe z < n := by
  have h3 : z.toInt < 2147483648 := Int32.toInt_lt z
  unfold muDe
  omega
theorem sX1_ofLine {x0_lineCount x0_goodsCount x0_workCount x0_years : Int32} {x0_lines x0_goods x0_works x0_change x0_coin x0_knownFree : Nat → Int32} {x0_isKnown p1 p2 : Int32} (h : LnOk x0_lines) (hp : 0 ≤ p1 ∧ p1 ≤ 19) (hc : 0 ≤ p2 ∧ p2 < 7) : Sf (fX1_ofLine (x0_lineCount, x0_goodsCount, x0_workCount, x0_years, x0_lines, x0_goods, x0_works, x0_change, x0_coin, x0_knownFree, x0_isKnown) p1 p2) (fun _ => True) := (s_ofLine h hp hc).mono (fun _ _ => trivial)
theorem sX1_ofGoods {x0_lineCount x0_goodsCount x0_workCount x0_years : Int32} {x0_lines x0_goods x0_works x0_change x0_coin x0_knownFree : Nat → Int32} {x0_isKnown p1 p2 : Int32} (h : GdOk x0_goods) (hp : 0 ≤ p1 ∧ p1 ≤ 7) (hc : 0 ≤ p2 ∧ p2 < 3) : Sf (fX1_ofGoods (x0_lineCount, x0_goodsCount, x0_workCount, x0_years, x0_lines, x0_goods, x0_works, x0_change, x0_coin, x0_knownFree, x0_isKnown) p1 p2) (fun _ => True) := (s_ofGoods h hp hc).mono (fun _ _ => trivial)
theorem sX1_ofWork {x0_lineCount x0_goodsCount x0_workCount x0_years : Int32} {x0_lines x0_goods x0_works x0_change x0_coin x0_knownFree : Nat → Int32} {x0_isKnown p1 p2 : Int32} (h : WkOk x0_works) (hp : 0 ≤ p1 ∧ p1 ≤ 6) (hc : 0 ≤ p2 ∧ p2 < 5) : Sf (fX1_ofWork (x0_lineCount, x0_goodsCount, x0_workCount, x0_years, x0_lines, x0_goods, x0_works, x0_change, x0_coin, x0_knownFree, x0_isKnown) p1 p2) (fun _ => True) := (s_ofWork h hp hc).mono (fun _ _ => trivial)
theorem u2_def {A0 : Type} {A1 : Type} {B : Type} (f : A0 → A1 → B) (s : A0 × A1) : u2 f s = f s.1 s.2 := rfl
theorem u3_def {A0 : Type} {A1 : Type} {A2 : Type} {B : Type} (f : A0 → A1 → A2 → B) (s : A0 × A1 × A2) : u3 f s = f s.1 s.2.1 s.2.2 := rfl
theorem u4_def {A0 : Type} {A1 : Type} {A2 : Type} {A3 : Type} {B : Type} (f : A0 → A1 → A2 → A3 → B) (s : A0 × A1 × A2 × A3) : u4 f s = f s.1 s.2.1 s.2.2.1 s.2.2.2 := rfl
theorem u5_def {A0 : Type} {A1 : Type} {A2 : Type} {A3 : Type} {A4 : Type} {B : Type} (f : A0 → A1 → A2 → A3 → A4 → B) (s : A0 × A1 × A2 × A3 × A4) : u5 f s = f s.1 s.2.1 s.2.2.1 s.2.2.2.1 s.2.2.2.2 := rfl

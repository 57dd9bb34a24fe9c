/-! the class's land: its rows -/
def BI (B : Nat → Int32) (m : Nat) (f : Nat → Int32) : Prop := ∀ j : Nat, 0 ≤ f j ∧ f j ≤ B (j % m)
def lnB : Nat → Int32 := fun k => ([11, 11, 7, 60, 999, 5, 1] : List Int32).getD k 0
def gdB : Nat → Int32 := fun k => ([11, 11, 99] : List Int32).getD k 0
def wkB : Nat → Int32 := fun k => ([5, 19, 99, 9999, 1] : List Int32).getD k 0
def WkR (K a b : Int32) : Prop := (K = 4 ∨ K = 5 → a ≤ 11 ∧ b ≤ 11) ∧ (K = 1 ∨ K = 2 → b ≤ 2) ∧ (K = 3 → a ≤ 11)
def LnOk (f : Nat → Int32) : Prop := BI lnB 7 f
def GdOk (f : Nat → Int32) : Prop := BI gdB 3 f
def WkOk (f : Nat → Int32) : Prop := BI wkB 5 f ∧ ∀ k : Nat, WkR (f (k * 5)) (f (k * 5 + 1)) (f (k * 5 + 2))
theorem BI.up {B : Nat → Int32} {m : Nat} {f : Nat → Int32} {i : Nat} {x : Int32} (h : BI B m f) (hx : 0 ≤ x ∧ x ≤ B (i % m)) : BI B m (va_up f i x) := by
  intro k
  unfold va_up
  by_cases hk : k = i
  · rw [if_pos hk, hk]; exact hx
  · rw [if_neg hk]; exact h k
theorem BI.cpy {B : Nat → Int32} {m : Nat} {f g : Nat → Int32} {c : Nat} (h : BI B m f) (h2 : BI B m g) : BI B m (va_cpy f g 0 0 c) := by
  intro k
  unfold va_cpy
  by_cases hk : 0 ≤ k ∧ k < 0 + c
  · rw [if_pos hk]
    have := h k
    simpa using this
  · rw [if_neg hk]; exact h2 k
theorem md_of {p m c : Nat} (h : c < m) : (p * m + c) % m = c := by
  rw [Nat.mul_comm, Nat.mul_add_mod, Nat.mod_eq_of_lt h]
theorem Sf.rdB {β : Type} {N m : Nat} {f : Nat → Int32} {p Mm c : Int32} {k : Int32 → Option β} {Q : β → Prop} {B : Nat → Int32} (M : Int32) (hM : M.toInt = (N : Int)) (hm : Mm.toNatClampNeg = m) (hMm : 0 ≤ Mm ∧ Mm ≤ 1000) (hf : BI B m f) (hp : 0 ≤ p ∧ p ≤ 1000) (hc : 0 ≤ c ∧ c < Mm) (hi : 0 ≤ p * Mm + c ∧ p * Mm + c < M) (hk : ∀ v, (0 ≤ v ∧ v ≤ B c.toNatClampNeg) → v = f (p.toNatClampNeg * m + c.toNatClampNeg) → Sf (k v) Q) : Sf ((rd N f (p * Mm + c)).bind k) Q := by
  refine Sf.rdb M hM hi (fun v hv => ?_)
  have hc' : 0 ≤ c ∧ c ≤ 1000 := by grind
  have e := ixm hp hMm hc'
  rw [e, hm] at hv
  have hcm : c.toNatClampNeg < m := by
    have h1 := i32_cl hc.1
    have h2 := i32_cl hMm.1
    have h3 := Int32.lt_iff_toInt_lt.mp hc.2
    omega
  refine hk v ?_ hv
  have := hf (p.toNatClampNeg * m + c.toNatClampNeg)
  rw [md_of hcm] at this
  rw [hv]
  exact this
theorem Sf.wrB {β : Type} {N m : Nat} {f : Nat → Int32} {p Mm c x : Int32} {k : (Nat → Int32) → Option β} {Q : β → Prop} {B : Nat → Int32} (M : Int32) (hM : M.toInt = (N : Int)) (hm : Mm.toNatClampNeg = m) (hMm : 0 ≤ Mm ∧ Mm ≤ 1000) (hf : BI B m f) (hp : 0 ≤ p ∧ p ≤ 1000) (hc : 0 ≤ c ∧ c < Mm) (hi : 0 ≤ p * Mm + c ∧ p * Mm + c < M) (hx : 0 ≤ x ∧ x ≤ B c.toNatClampNeg) (hk : ∀ g, BI B m g → g = va_up f (p.toNatClampNeg * m + c.toNatClampNeg) x → Sf (k g) Q) : Sf ((wr N f (p * Mm + c) x).bind k) Q := by
  refine Sf.wrb M hM hi (fun g hg => ?_)
  have hc' : 0 ≤ c ∧ c ≤ 1000 := by grind
  have e := ixm hp hMm hc'
  rw [e, hm] at hg
  have hcm : c.toNatClampNeg < m := by
    have h1 := i32_cl hc.1
    have h2 := i32_cl hMm.1
    have h3 := Int32.lt_iff_toInt_lt.mp hc.2
    omega
  refine hk g ?_ hg
  rw [hg]
  refine hf.up ?_
  rw [md_of hcm]
  exact hx
theorem s_ofLine {x0_lineCount x0_goodsCount x0_workCount x0_years : Int32} {x0_lines x0_goods x0_works x0_change x0_coin x0_knownFree : Nat → Int32} {x0_isKnown p1 p2 : Int32} (h : LnOk x0_lines) (hp : 0 ≤ p1 ∧ p1 ≤ 19) (hc : 0 ≤ p2 ∧ p2 < 7) : Sf (fX1_ofLine (x0_lineCount, x0_goodsCount, x0_workCount, x0_years, x0_lines, x0_goods, x0_works, x0_change, x0_coin, x0_knownFree, x0_isKnown) p1 p2) (fun r => (0 ≤ r ∧ r ≤ lnB p2.toNatClampNeg) ∧ r = x0_lines (p1.toNatClampNeg * 7 + p2.toNatClampNeg)) := by
  unfold fX1_ofLine
  exact Sf.rdB (B := lnB) (m := 7) 140 rfl rfl (by decide) h (by grind) hc (by grind) (fun v h1 h2 => Sf.ok ⟨h1, h2⟩)
theorem s_ofGoods {x0_lineCount x0_goodsCount x0_workCount x0_years : Int32} {x0_lines x0_goods x0_works x0_change x0_coin x0_knownFree : Nat → Int32} {x0_isKnown p1 p2 : Int32} (h : GdOk x0_goods) (hp : 0 ≤ p1 ∧ p1 ≤ 7) (hc : 0 ≤ p2 ∧ p2 < 3) : Sf (fX1_ofGoods (x0_lineCount, x0_goodsCount, x0_workCount, x0_years, x0_lines, x0_goods, x0_works, x0_change, x0_coin, x0_knownFree, x0_isKnown) p1 p2) (fun r => (0 ≤ r ∧ r ≤ gdB p2.toNatClampNeg) ∧ r = x0_goods (p1.toNatClampNeg * 3 + p2.toNatClampNeg)) := by
  unfold fX1_ofGoods
  exact Sf.rdB (B := gdB) (m := 3) 24 rfl rfl (by decide) h (by grind) hc (by grind) (fun v h1 h2 => Sf.ok ⟨h1, h2⟩)
theorem s_ofWork {x0_lineCount x0_goodsCount x0_workCount x0_years : Int32} {x0_lines x0_goods x0_works x0_change x0_coin x0_knownFree : Nat → Int32} {x0_isKnown p1 p2 : Int32} (h : WkOk x0_works) (hp : 0 ≤ p1 ∧ p1 ≤ 6) (hc : 0 ≤ p2 ∧ p2 < 5) : Sf (fX1_ofWork (x0_lineCount, x0_goodsCount, x0_workCount, x0_years, x0_lines, x0_goods, x0_works, x0_change, x0_coin, x0_knownFree, x0_isKnown) p1 p2) (fun r => (0 ≤ r ∧ r ≤ wkB p2.toNatClampNeg) ∧ r = x0_works (p1.toNatClampNeg * 5 + p2.toNatClampNeg)) := by
  unfold fX1_ofWork
  exact Sf.rdB (B := wkB) (m := 5) 35 rfl rfl (by decide) h.1 (by grind) hc (by grind) (fun v h1 h2 => Sf.ok ⟨h1, h2⟩)
theorem sX6_within {p0 p1 p2 : Int32} : Sf (fX6_within p0 p1 p2) (fun r => (r = 1 ∧ p1 ≤ p0 ∧ p0 ≤ p2) ∨ (r = 0 ∧ (p0 < p1 ∨ p2 < p0))) := by
  unfold fX6_within
  refine Sf.ite (fun h => Sf.ok (Or.inr ⟨rfl, Or.inl h⟩)) (fun h => Sf.ite (fun h2 => Sf.ok (Or.inr ⟨rfl, Or.inr h2⟩)) (fun h2 => Sf.ok (Or.inl ⟨rfl, by grind, by grind⟩)))
theorem fill_step {m : Nat} (x : Int32) (hm : m ≤ 1000) : ∀ (n : Nat) (z : Int32) (f : Nat → Int32), 0 ≤ z → muUp z < n → Sf (lp (u2 (fJ7_fill_53178_s5 m x)) n (z, f)) (fun r => ∀ k : Nat, r k = if z.toNatClampNeg ≤ k ∧ k < m then x else f k) := by
  intro n
  induction n with
  | zero => intro z f _ h; exact absurd h (Nat.not_lt_zero _)
  | succ n ih =>
    intro z f hz hn
    have hmi : (Int32.ofNat m).toInt = (m : Int) := Int32.toInt_ofNat_of_lt (by omega)
    by_cases hc : Int32.ofNat m ≤ z
    · have e : lp (u2 (fJ7_fill_53178_s5 m x)) (n + 1) (z, f) = some f := by
        simp only [lp, u2, fJ7_fill_53178_s5, if_pos hc]
      rw [e]
      refine Sf.ok (fun k => ?_)
      have h1 := Int32.le_iff_toInt_le.mp hc
      have h2 := i32_cl hz
      rw [if_neg]
      omega
    · have hlt : z < Int32.ofNat m := Int32.not_le.mp hc
      have hw : wr m f z x = some (va_up f z.toNatClampNeg x) := if_pos (inb_ok hmi ⟨hz, hlt⟩)
      have e : lp (u2 (fJ7_fill_53178_s5 m x)) (n + 1) (z, f) = lp (u2 (fJ7_fill_53178_s5 m x)) n (z + 1, va_up f z.toNatClampNeg x) := by
        simp only [lp, u2, fJ7_fill_53178_s5, if_neg hc, hw, Option.bind]
      rw [e]
      have h1 := Int32.lt_iff_toInt_lt.mp hlt
      have h2 := i32_cl hz
      have hz1 : (z + 1).toInt = z.toInt + 1 := by
        have := i32_nn hz
        simp [Int32.toInt_add, Int.bmod]
        omega
      have hz0 : 0 ≤ z + 1 := Int32.le_iff_toInt_le.mpr (by rw [hz1]; have := i32_nn hz; simp; omega)
      have h3 := i32_cl hz0
      refine (ih (z + 1) (va_up f z.toNatClampNeg x) hz0 (by have := muUp_lt hc; omega)).mono (fun r hr k => ?_)
      rw [hr k]
      unfold va_up
      by_cases hk : k = z.toNatClampNeg
      · subst hk
        rw [if_neg (by omega), if_pos rfl, if_pos (by omega)]
      · rw [if_neg hk]
        by_cases hk2 : (z + 1).toNatClampNeg ≤ k ∧ k < m
        · rw [if_pos hk2, if_pos (by omega)]
        · rw [if_neg hk2, if_neg (by omega)]
theorem sJ7_fill {n m : Nat} {f : Nat → Int32} {x : Int32} (hn : 1000000000000 ≤ n) (hm : m ≤ 1000) : Sf (fJ7_fill_53178 n m f x) (fun r => ∀ k : Nat, r k = if k < m then x else f k) := by
  unfold fJ7_fill_53178
  refine Sf.bind (fill_step x hm n 0 f (by decide) (muUp_n hn)) (fun r hr => Sf.ok (fun k => ?_))
  rw [hr k]
  have : (0 : Int32).toNatClampNeg = 0 := rfl
  rw [this]
  simp
theorem AI.fillr {lo hi x : Int32} {f r : Nat → Int32} {m : Nat} (hr : ∀ k : Nat, r k = if k < m then x else f k) (h : AI lo hi f) (hx : lo ≤ x ∧ x ≤ hi) : AI lo hi r := by
  intro k
  rw [hr k]
  by_cases hk : k < m
  · rw [if_pos hk]; exact hx
  · rw [if_neg hk]; exact h k
theorem cp_rng {c m : Int32} {M C N : Int} (hm : m.toInt = M) (hM : 0 ≤ M) (h : 0 ≤ c.toInt ∧ c.toInt ≤ C) (hC : C * M ≤ N) (hN : N < 2147483648) : 0 ≤ c * m ∧ (0 : Int32).toInt + (c * m).toInt ≤ N := by
  have := mul_rng (P := C) (M := M) h (m := m) ⟨by omega, by omega⟩ (by omega) hM
  have z : (0 : Int32).toInt = 0 := by decide
  rw [z]
  refine ⟨Int32.le_iff_toInt_le.mpr ?_, ?_⟩
  · rw [this.1, z]; exact this.2.1
  · rw [this.1]; omega
theorem i32_b {x : Int32} {lo hi : Int32} (h : lo ≤ x ∧ x ≤ hi) : lo.toInt ≤ x.toInt ∧ x.toInt ≤ hi.toInt := ⟨Int32.le_iff_toInt_le.mp h.1, Int32.le_iff_toInt_le.mp h.2⟩
theorem WkOk.cpy {f g : Nat → Int32} {c : Nat} (h : WkOk f) (h2 : WkOk g) : WkOk (va_cpy f g 0 0 (c * 5)) := by
  refine ⟨h.1.cpy h2.1, fun k => ?_⟩
  unfold va_cpy
  simp only [Nat.zero_add, Nat.sub_zero, Nat.zero_le, true_and]
  by_cases hk : k < c
  · rw [if_pos (by omega), if_pos (by omega), if_pos (by omega)]
    exact h.2 k
  · rw [if_neg (by omega), if_neg (by omega), if_neg (by omega)]
    exact h2.2 k
theorem sX1_take {x0_lineCount x0_goodsCount x0_workCount x0_years : Int32} {x0_lines x0_goods x0_works x0_change x0_coin x0_knownFree : Nat → Int32} {x0_isKnown : Int32} {x1_lineCount x1_goodsCount x1_workCount x1_years : Int32} {x1_lines x1_goods x1_works x1_change x1_coin x1_knownFree : Nat → Int32} {x1_isKnown : Int32}
    (a1 : LnOk x0_lines) (a2 : GdOk x0_goods) (a3 : WkOk x0_works) (a4 : AI 0 99 x0_change) (a5 : AI 0 9 x0_coin) (b0 : 0 ≤ x1_lineCount ∧ x1_lineCount ≤ 20) (b1 : 0 ≤ x1_goodsCount ∧ x1_goodsCount ≤ 8) (b2 : 0 ≤ x1_workCount ∧ x1_workCount ≤ 7) (b3 : 1 ≤ x1_years ∧ x1_years ≤ 30) (c1 : LnOk x1_lines) (c2 : GdOk x1_goods) (c3 : WkOk x1_works) (c4 : AI 0 99 x1_change) (c5 : AI 0 9 x1_coin) :
    Sf (fX1_take (x0_lineCount, x0_goodsCount, x0_workCount, x0_years, x0_lines, x0_goods, x0_works, x0_change, x0_coin, x0_knownFree, x0_isKnown) (x1_lineCount, x1_goodsCount, x1_workCount, x1_years, x1_lines, x1_goods, x1_works, x1_change, x1_coin, x1_knownFree, x1_isKnown)) (fun r => (0 ≤ r.1 ∧ r.1 ≤ 20) ∧ (0 ≤ r.2.1 ∧ r.2.1 ≤ 8) ∧ (0 ≤ r.2.2.1 ∧ r.2.2.1 ≤ 7) ∧ (1 ≤ r.2.2.2.1 ∧ r.2.2.2.1 ≤ 30) ∧ LnOk r.2.2.2.2.1 ∧ GdOk r.2.2.2.2.2.1 ∧ WkOk r.2.2.2.2.2.2.1 ∧ AI 0 99 r.2.2.2.2.2.2.2.1 ∧ AI 0 9 r.2.2.2.2.2.2.2.2.1) := by
  unfold fX1_take
  have d0 := cp_rng (m := 7) (M := 7) (C := 20) (N := 140) rfl (by decide) (i32_b b0) (by decide) (by decide)
  have d1 := cp_rng (m := 3) (M := 3) (C := 8) (N := 24) rfl (by decide) (i32_b b1) (by decide) (by decide)
  have d2 := cp_rng (m := 5) (M := 5) (C := 7) (N := 35) rfl (by decide) (i32_b b2) (by decide) (by decide)
  refine Sf.cpyb ⟨by decide, by decide, d0.1⟩ d0.2 d0.2 (fun f1 e1 => ?_)
  refine Sf.cpyb ⟨by decide, by decide, d1.1⟩ d1.2 d1.2 (fun f2 e2 => ?_)
  refine Sf.cpyb ⟨by decide, by decide, d2.1⟩ d2.2 d2.2 (fun f3 e3 => ?_)
  refine Sf.cpyb (by decide) (by decide) (by decide) (fun f4 e4 => ?_)
  refine Sf.cpyb (by decide) (by decide) (by decide) (fun f5 e5 => ?_)
  have z : (0 : Int32).toNatClampNeg = 0 := rfl
  have w5 : (x1_workCount * 5).toNatClampNeg = x1_workCount.toNatClampNeg * 5 := by
    have := ixm (p := x1_workCount) (m := 5) (c := 0) (by grind) (by decide) (by decide)
    rw [z] at this
    simpa using this
  rw [z] at e1 e2 e3 e4 e5
  rw [w5] at e3
  refine Sf.ok ⟨b0, b1, b2, b3, ?_, ?_, ?_, ?_, ?_⟩
  · rw [e1]; exact BI.cpy c1 a1
  · rw [e2]; exact BI.cpy c2 a2
  · rw [e3]; exact WkOk.cpy c3 a3
  · rw [e4]; exact AI.cpy c4 a4
  · rw [e5]; exact AI.cpy c5 a5
theorem sX1_addLine {x0_lineCount x0_goodsCount x0_workCount x0_years : Int32} {x0_lines x0_goods x0_works x0_change x0_coin x0_knownFree : Nat → Int32} {x0_isKnown p1 p2 p3 p4 p5 p6 : Int32} (b0 : 0 ≤ x0_lineCount ∧ x0_lineCount ≤ 20) (h : LnOk x0_lines) (h1 : 0 ≤ p1 ∧ p1 ≤ 11) (h2 : 0 ≤ p2 ∧ p2 ≤ 11) (h3 : 0 ≤ p3 ∧ p3 ≤ 7) (h4 : 0 ≤ p4 ∧ p4 ≤ 60) (h5 : 0 ≤ p5 ∧ p5 ≤ 999) (h6 : 0 ≤ p6 ∧ p6 ≤ 5) :
    Sf (fX1_addLine (x0_lineCount, x0_goodsCount, x0_workCount, x0_years, x0_lines, x0_goods, x0_works, x0_change, x0_coin, x0_knownFree, x0_isKnown) p1 p2 p3 p4 p5 p6) (fun r => (0 ≤ r.1 ∧ r.1 ≤ 20) ∧ LnOk r.2.1) := by
  unfold fX1_addLine
  refine Sf.ite (fun hc => ?_) (fun hc => Sf.ok ⟨b0, h⟩)
  have hp : 0 ≤ x0_lineCount ∧ x0_lineCount ≤ 1000 := by grind
  refine Sf.wrB (B := lnB) (m := 7) 140 rfl rfl (by decide) h hp (by decide) (by grind) h1 (fun f1 g1 _ => ?_)
  refine Sf.wrB (B := lnB) (m := 7) 140 rfl rfl (by decide) g1 hp (by decide) (by grind) h2 (fun f2 g2 _ => ?_)
  refine Sf.wrB (B := lnB) (m := 7) 140 rfl rfl (by decide) g2 hp (by decide) (by grind) h3 (fun f3 g3 _ => ?_)
  refine Sf.wrB (B := lnB) (m := 7) 140 rfl rfl (by decide) g3 hp (by decide) (by grind) h4 (fun f4 g4 _ => ?_)
  refine Sf.wrB (B := lnB) (m := 7) 140 rfl rfl (by decide) g4 hp (by decide) (by grind) h5 (fun f5 g5 _ => ?_)
  refine Sf.wrB (B := lnB) (m := 7) 140 rfl rfl (by decide) g5 hp (by decide) (by grind) h6 (fun f6 g6 _ => ?_)
  refine Sf.wrB (B := lnB) (m := 7) 140 rfl rfl (by decide) g6 hp (by decide) (by grind) (by decide) (fun f7 g7 _ => ?_)
  exact Sf.ok ⟨by grind, g7⟩
theorem sX1_addGoods {x0_lineCount x0_goodsCount x0_workCount x0_years : Int32} {x0_lines x0_goods x0_works x0_change x0_coin x0_knownFree : Nat → Int32} {x0_isKnown p1 p2 p3 : Int32} (b0 : 0 ≤ x0_goodsCount ∧ x0_goodsCount ≤ 8) (h : GdOk x0_goods) (h1 : 0 ≤ p1 ∧ p1 ≤ 11) (h2 : 0 ≤ p2 ∧ p2 ≤ 11) (h3 : 0 ≤ p3 ∧ p3 ≤ 99) :
    Sf (fX1_addGoods (x0_lineCount, x0_goodsCount, x0_workCount, x0_years, x0_lines, x0_goods, x0_works, x0_change, x0_coin, x0_knownFree, x0_isKnown) p1 p2 p3) (fun r => (0 ≤ r.1 ∧ r.1 ≤ 8) ∧ GdOk r.2.1) := by
  unfold fX1_addGoods
  refine Sf.ite (fun hc => ?_) (fun hc => Sf.ok ⟨b0, h⟩)
  have hp : 0 ≤ x0_goodsCount ∧ x0_goodsCount ≤ 1000 := by grind
  refine Sf.wrB (B := gdB) (m := 3) 24 rfl rfl (by decide) h hp (by decide) (by grind) h1 (fun f1 g1 _ => ?_)
  refine Sf.wrB (B := gdB) (m := 3) 24 rfl rfl (by decide) g1 hp (by decide) (by grind) h2 (fun f2 g2 _ => ?_)
  refine Sf.wrB (B := gdB) (m := 3) 24 rfl rfl (by decide) g2 hp (by decide) (by grind) h3 (fun f3 g3 _ => ?_)
  exact Sf.ok ⟨by grind, g3⟩
theorem sX1_addWork {x0_lineCount x0_goodsCount x0_workCount x0_years : Int32} {x0_lines x0_goods x0_works x0_change x0_coin x0_knownFree : Nat → Int32} {x0_isKnown p1 p2 p3 p4 : Int32} (b0 : 0 ≤ x0_workCount ∧ x0_workCount ≤ 7) (h : WkOk x0_works) (h1 : 0 ≤ p1 ∧ p1 ≤ 5) (h2 : 0 ≤ p2 ∧ p2 ≤ 19) (h3 : 0 ≤ p3 ∧ p3 ≤ 99) (h4 : 0 ≤ p4 ∧ p4 ≤ 9999) (h5 : WkR p1 p2 p3) :
    Sf (fX1_addWork (x0_lineCount, x0_goodsCount, x0_workCount, x0_years, x0_lines, x0_goods, x0_works, x0_change, x0_coin, x0_knownFree, x0_isKnown) p1 p2 p3 p4) (fun r => (0 ≤ r.1 ∧ r.1 ≤ 7) ∧ WkOk r.2.1) := by
  unfold fX1_addWork
  refine Sf.ite (fun hc => ?_) (fun hc => Sf.ok ⟨b0, h⟩)
  have hp : 0 ≤ x0_workCount ∧ x0_workCount ≤ 1000 := by grind
  refine Sf.wrB (B := wkB) (m := 5) 35 rfl rfl (by decide) h.1 hp (by decide) (by grind) h1 (fun f1 g1 e1 => ?_)
  refine Sf.wrB (B := wkB) (m := 5) 35 rfl rfl (by decide) g1 hp (by decide) (by grind) h2 (fun f2 g2 e2 => ?_)
  refine Sf.wrB (B := wkB) (m := 5) 35 rfl rfl (by decide) g2 hp (by decide) (by grind) h3 (fun f3 g3 e3 => ?_)
  refine Sf.wrB (B := wkB) (m := 5) 35 rfl rfl (by decide) g3 hp (by decide) (by grind) h4 (fun f4 g4 e4 => ?_)
  refine Sf.wrB (B := wkB) (m := 5) 35 rfl rfl (by decide) g4 hp (by decide) (by grind) (by decide) (fun f5 g5 e5 => ?_)
  refine Sf.ok ⟨by grind, g5, fun k => ?_⟩
  have z0 : (0 : Int32).toNatClampNeg = 0 := rfl
  have z1 : (1 : Int32).toNatClampNeg = 1 := rfl
  have z2 : (2 : Int32).toNatClampNeg = 2 := rfl
  have z3 : (3 : Int32).toNatClampNeg = 3 := rfl
  have z4 : (4 : Int32).toNatClampNeg = 4 := rfl
  rw [z0] at e1; rw [z1] at e2; rw [z2] at e3; rw [z3] at e4; rw [z4] at e5
  generalize x0_workCount.toNatClampNeg = W at e1 e2 e3 e4 e5
  have hk := h.2 k
  subst e5 e4 e3 e2 e1
  show WkR (va_up _ _ _ _) (va_up _ _ _ _) (va_up _ _ _ _)
  unfold va_up
  by_cases hw : k = W
  · subst hw
    rw [if_neg (by omega), if_neg (by omega), if_neg (by omega), if_neg (by omega), if_pos (by omega), if_neg (by omega), if_neg (by omega), if_neg (by omega), if_pos (by omega), if_neg (by omega), if_neg (by omega), if_pos (by omega)]
    exact h5
  · rw [if_neg (by omega), if_neg (by omega), if_neg (by omega), if_neg (by omega), if_neg (by omega), if_neg (by omega), if_neg (by omega), if_neg (by omega), if_neg (by omega), if_neg (by omega), if_neg (by omega), if_neg (by omega), if_neg (by omega), if_neg (by omega), if_neg (by omega)]
    exact hk
theorem sX1_putWidths {x0_lineCount x0_goodsCount x0_workCount x0_years : Int32} {x0_lines x0_goods x0_works x0_change x0_coin x0_knownFree : Nat → Int32} {x0_isKnown p1 p2 : Int32} (b0 : 0 ≤ x0_lineCount ∧ x0_lineCount ≤ 20) (h : LnOk x0_lines) (h2 : 0 ≤ p2 ∧ p2 ≤ 7) :
    Sf (fX1_putWidths (x0_lineCount, x0_goodsCount, x0_workCount, x0_years, x0_lines, x0_goods, x0_works, x0_change, x0_coin, x0_knownFree, x0_isKnown) p1 p2) (fun r => LnOk r.1) := by
  unfold fX1_putWidths
  refine Sf.ite (fun hc => Sf.ok h) (fun hc => Sf.ite (fun hc2 => Sf.ok h) (fun hc2 => ?_))
  exact Sf.wrB (B := lnB) (m := 7) 140 rfl rfl (by decide) h (by grind) (by decide) (by grind) h2 (fun f1 g1 _ => Sf.ok g1)
theorem sX1_putWashed {x0_lineCount x0_goodsCount x0_workCount x0_years : Int32} {x0_lines x0_goods x0_works x0_change x0_coin x0_knownFree : Nat → Int32} {x0_isKnown p1 p2 : Int32} (b0 : 0 ≤ x0_lineCount ∧ x0_lineCount ≤ 20) (h : LnOk x0_lines) (h2 : 0 ≤ p2 ∧ p2 ≤ 1) :
    Sf (fX1_putWashed (x0_lineCount, x0_goodsCount, x0_workCount, x0_years, x0_lines, x0_goods, x0_works, x0_change, x0_coin, x0_knownFree, x0_isKnown) p1 p2) (fun r => LnOk r.1) := by
  unfold fX1_putWashed
  refine Sf.ite (fun hc => Sf.ok h) (fun hc => Sf.ite (fun hc2 => Sf.ok h) (fun hc2 => ?_))
  exact Sf.wrB (B := lnB) (m := 7) 140 rfl rfl (by decide) h (by grind) (by decide) (by grind) h2 (fun f1 g1 _ => Sf.ok g1)
theorem sh_w {b : Int32} (h : 0 ≤ b ∧ b ≤ 2) : 0 ≤ (1 : Int32) <<< (b &&& 31) ∧ (1 : Int32) <<< (b &&& 31) ≤ 7 := by
  have : b = 0 ∨ b = 1 ∨ b = 2 := by grind
  rcases this with rfl | rfl | rfl <;> decide
theorem or_w {v b : Int32} (h : 0 ≤ v ∧ v ≤ 7) (h2 : 0 ≤ b ∧ b ≤ 2) : 0 ≤ v ||| ((1 : Int32) <<< (b &&& 31)) ∧ v ||| ((1 : Int32) <<< (b &&& 31)) ≤ 7 := by
  have : b = 0 ∨ b = 1 ∨ b = 2 := by grind
  have : v = 0 ∨ v = 1 ∨ v = 2 ∨ v = 3 ∨ v = 4 ∨ v = 5 ∨ v = 6 ∨ v = 7 := by grind
  rcases this with rfl | rfl | rfl | rfl | rfl | rfl | rfl | rfl <;> rcases ‹b = 0 ∨ b = 1 ∨ b = 2› with rfl | rfl | rfl <;> decide
theorem sX1_perform {x0_lineCount x0_goodsCount x0_workCount x0_years : Int32} {x0_lines x0_goods x0_works x0_change x0_coin x0_knownFree : Nat → Int32} {x0_isKnown p1 : Int32} (b0 : 0 ≤ x0_lineCount ∧ x0_lineCount ≤ 20) (b2 : 0 ≤ x0_workCount ∧ x0_workCount ≤ 7) (h : LnOk x0_lines) (hw : WkOk x0_works) (hch : AI 0 99 x0_change) :
    Sf (fX1_perform (x0_lineCount, x0_goodsCount, x0_workCount, x0_years, x0_lines, x0_goods, x0_works, x0_change, x0_coin, x0_knownFree, x0_isKnown) p1) (fun r => (0 ≤ r.1 ∧ r.1 ≤ 20) ∧ LnOk r.2.1 ∧ AI 0 99 r.2.2.1) := by
  unfold fX1_perform
  refine Sf.bind (P := fun v => v ≠ 0 → 0 ≤ p1 ∧ p1 ≤ 6) ?_ (fun v1 hv1 => ?_)
  · unfold fX1_hasWork
    refine Sf.bind sX6_within (fun v h1 => Sf.zbb (by grind) (fun r hr => Sf.ok (fun h2 => by grind)))
  refine Sf.ite (fun hc => Sf.ok ⟨b0, h, hch⟩) (fun hc => ?_)
  have hp := hv1 hc
  refine Sf.bind (s_ofWork hw hp (by decide)) (fun a ha => ?_)
  refine Sf.bind (s_ofWork hw hp (by decide)) (fun b hb => ?_)
  refine Sf.bind (s_ofWork hw hp (by decide)) (fun K hK => ?_)
  obtain ⟨ha1, ha2⟩ : (0 ≤ a ∧ a ≤ 19) ∧ a = x0_works (p1.toNatClampNeg * 5 + 1) := ha
  obtain ⟨hb1, hb2⟩ : (0 ≤ b ∧ b ≤ 99) ∧ b = x0_works (p1.toNatClampNeg * 5 + 2) := hb
  obtain ⟨hK1, hK2⟩ : (0 ≤ K ∧ K ≤ 5) ∧ K = x0_works (p1.toNatClampNeg * 5 + 0) := hK
  have hR : WkR K a b := by
    have := hw.2 p1.toNatClampNeg
    rw [Nat.add_zero] at hK2
    rw [← ha2, ← hb2, ← hK2] at this
    exact this
  obtain ⟨r1, r2, r3⟩ := hR
  refine Sf.ite (fun h1 => ?_) (fun h1 => Sf.ite (fun h2 => ?_) (fun h2 => Sf.ite (fun h3 => ?_) (fun h3 => Sf.ite (fun h4 => ?_) (fun h4 => Sf.ite (fun h5 => ?_) (fun h5 => Sf.ok ⟨b0, h, hch⟩)))))
  · refine Sf.bind (sX1_putWidths b0 h (sh_w ⟨hb1.1, r2 (Or.inl h1)⟩)) ?_
    rintro ⟨g9, g10⟩ h9
    exact Sf.ok ⟨b0, h9, hch⟩
  · refine Sf.bind (P := fun v => v ≠ 0 → 0 ≤ a ∧ a ≤ 19) ?_ (fun v12 hv12 => ?_)
    · unfold fX1_hasLine
      refine Sf.bind sX6_within (fun v h1 => Sf.zbb (by grind) (fun r hr => Sf.ok (fun h2 => by grind)))
    refine Sf.ite (fun hc => Sf.ok ⟨b0, h, hch⟩) (fun hc => ?_)
    refine Sf.bind (s_ofLine h (hv12 hc) (by decide)) (fun v14 h14 => ?_)
    have h14' : 0 ≤ v14 ∧ v14 ≤ 7 := h14.1
    refine Sf.bind (sX1_putWidths b0 h (or_w h14' ⟨hb1.1, r2 (Or.inr h2)⟩)) ?_
    rintro ⟨g9, g10⟩ h9
    exact Sf.ok ⟨b0, h9, hch⟩
  · refine Sf.bind (P := fun r => AI 0 99 r.1) ?_ ?_
    · unfold fX1_putChange
      refine Sf.ite (fun hc => Sf.ok hch) (fun hc => Sf.ite (fun hc2 => Sf.ok hch) (fun hc2 => ?_))
      exact Sf.wrI 12 rfl hch (by grind) hb1 (fun f1 g1 _ => Sf.ok g1)
    · rintro ⟨g19, g20⟩ h9
      exact Sf.ok ⟨b0, h, h9⟩
  · refine Sf.bind (sX1_addLine b0 h ⟨ha1.1, (r1 (Or.inl h4)).1⟩ ⟨hb1.1, (r1 (Or.inl h4)).2⟩ (by decide) (by decide) (by decide) (by decide)) ?_
    rintro ⟨g22, g23, g24⟩ h9
    exact Sf.ok ⟨h9.1, h9.2, hch⟩
  · refine Sf.bind (sX1_addLine b0 h ⟨ha1.1, (r1 (Or.inr h5)).1⟩ ⟨hb1.1, (r1 (Or.inr h5)).2⟩ (by decide) (by decide) (by decide) (by decide)) ?_
    rintro ⟨g22, g23, g24⟩ h9
    exact Sf.ok ⟨h9.1, h9.2, hch⟩
theorem sX1_performForGood {x0_lineCount x0_goodsCount x0_workCount x0_years : Int32} {x0_lines x0_goods x0_works x0_change x0_coin x0_knownFree : Nat → Int32} {x0_isKnown p1 : Int32} (b0 : 0 ≤ x0_lineCount ∧ x0_lineCount ≤ 20) (b2 : 0 ≤ x0_workCount ∧ x0_workCount ≤ 7) (h : LnOk x0_lines) (hw : WkOk x0_works) (hch : AI 0 99 x0_change) :
    Sf (fX1_performForGood (x0_lineCount, x0_goodsCount, x0_workCount, x0_years, x0_lines, x0_goods, x0_works, x0_change, x0_coin, x0_knownFree, x0_isKnown) p1) (fun r => (0 ≤ r.1 ∧ r.1 ≤ 20) ∧ LnOk r.2.1 ∧ WkOk r.2.2.1 ∧ AI 0 99 r.2.2.2.1) := by
  unfold fX1_performForGood
  refine Sf.bind (P := fun v => v ≠ 0 → 0 ≤ p1 ∧ p1 ≤ 6) ?_ (fun v1 hv1 => ?_)
  · unfold fX1_hasWork
    refine Sf.bind sX6_within (fun v h1 => Sf.zbb (by grind) (fun r hr => Sf.ok (fun h2 => by grind)))
  refine Sf.ite (fun hc => Sf.ok ⟨b0, h, hw, hch⟩) (fun hc => ?_)
  have hp := hv1 hc
  refine Sf.bind (sX1_perform b0 b2 h hw hch) ?_
  rintro ⟨g3, g4, g5, g6⟩ ⟨e3, e4, e5⟩
  refine Sf.wrB (B := wkB) (m := 5) 35 rfl rfl (by decide) hw.1 (by grind) (by decide) (by grind) (by decide) (fun f8 g8 e8 => ?_)
  refine Sf.ok ⟨e3, e4, ⟨g8, fun k => ?_⟩, e5⟩
  have hk := hw.2 k
  have z4 : (4 : Int32).toNatClampNeg = 4 := rfl
  rw [z4] at e8
  subst e8
  show WkR (va_up _ _ _ _) (va_up _ _ _ _) (va_up _ _ _ _)
  unfold va_up
  rw [if_neg (by omega), if_neg (by omega), if_neg (by omega)]
  exact hk

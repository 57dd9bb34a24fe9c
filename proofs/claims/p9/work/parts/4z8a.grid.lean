/-! the reference's rows -/
def RI (B : Nat → Int32) (f : Nat → Int32) : Prop := ∀ c : Nat, 0 ≤ f c ∧ f c ≤ B c
def GI (B : Nat → Int32) (f : Nat → Nat → Int32) : Prop := ∀ q : Nat, RI B (f q)
def LnM (f : Nat → Nat → Int32) : Prop := GI lnB f
def GdM (f : Nat → Nat → Int32) : Prop := GI gdB f
def WkRm (K a b : Int32) : Prop := (K = 1 ∨ K = 2 → b ≤ 2) ∧ (K = 3 → a ≤ 11) ∧ (K = 1 ∨ K = 2 ∨ K = 3 ∨ (a ≤ 11 ∧ b ≤ 11))
def WkB (f : Nat → Nat → Int32) : Prop := GI wkB f
def WkM (f : Nat → Nat → Int32) : Prop := WkB f ∧ ∀ q : Nat, q < 7 → WkRm (f q 0) (f q 1) (f q 2)
theorem RI.up {B : Nat → Int32} {f : Nat → Int32} {c : Nat} {x : Int32} (h : RI B f) (hx : 0 ≤ x ∧ x ≤ B c) : RI B (va_up f c x) := by
  intro k
  unfold va_up
  by_cases hk : k = c
  · rw [if_pos hk, hk]; exact hx
  · rw [if_neg hk]; exact h k
theorem GI.up {B : Nat → Int32} {f : Nat → Nat → Int32} {q : Nat} {r : Nat → Int32} (h : GI B f) (hr : RI B r) : GI B (va_up f q r) := by
  intro k
  unfold va_up
  by_cases hk : k = q
  · rw [if_pos hk]; exact hr
  · rw [if_neg hk]; exact h k
theorem WkM.up {f : Nat → Nat → Int32} {q : Nat} {r : Nat → Int32} (h : WkM f) (hr : RI wkB r) (hR : WkRm (r 0) (r 1) (r 2)) : WkM (va_up f q r) := by
  refine ⟨GI.up h.1 hr, fun k hk7 => ?_⟩
  unfold va_up
  by_cases hk : k = q
  · rw [if_pos hk]; exact hR
  · rw [if_neg hk]; exact h.2 k hk7
theorem va_up_up {α : Type} (f : Nat → α) (k : Nat) (a b : α) : va_up (va_up f k a) k b = va_up f k b := by
  funext j
  unfold va_up
  by_cases h : j = k
  · rw [if_pos h, if_pos h]
  · rw [if_neg h, if_neg h, if_neg h]
theorem ofNat_i {m : Nat} (hm : m ≤ 1000) : (Int32.ofNat m).toInt = (m : Int) := Int32.toInt_ofNat_of_lt (by omega)
theorem i32_up {z : Int32} {m : Nat} (hm : m ≤ 1000) (hz : 0 ≤ z) (hc : ¬ Int32.ofNat m ≤ z) : (0 ≤ z ∧ z < Int32.ofNat m) ∧ 0 ≤ z + 1 ∧ (z + 1).toNatClampNeg = z.toNatClampNeg + 1 ∧ z.toNatClampNeg < m := by
  have hlt : z < Int32.ofNat m := Int32.not_le.mp hc
  have h1 := Int32.lt_iff_toInt_lt.mp hlt
  rw [ofNat_i hm] at h1
  have h2 := i32_cl hz
  have h0 := i32_nn hz
  have z1 : (1 : Int32).toInt = 1 := by decide
  have hz1 : (z + 1).toInt = z.toInt + 1 := by rw [i32_add (by omega) (by omega), z1]
  have z0 : (0 : Int32).toInt = 0 := by decide
  have hz0 : 0 ≤ z + 1 := Int32.le_iff_toInt_le.mpr (by rw [hz1, z0]; omega)
  have h3 := i32_cl hz0
  exact ⟨⟨hz, hlt⟩, hz0, by omega, by omega⟩
theorem over_step {m : Nat} (p0 : Nat → Int32) (hm : m ≤ 1000) : ∀ (n : Nat) (z : Int32) (f : Nat → Int32), 0 ≤ z → muUp z < n → Sf (lp (u2 (fX7_over_s2 m p0 m)) n (z, f)) (fun r => ∀ k : Nat, r k = if z.toNatClampNeg ≤ k ∧ k < m then p0 k else f k) := by
  intro n
  induction n with
  | zero => intro z f _ h; exact absurd h (Nat.not_lt_zero _)
  | succ n ih =>
    intro z f hz hn
    by_cases hc : Int32.ofNat m ≤ z
    · have e : lp (u2 (fX7_over_s2 m p0 m)) (n + 1) (z, f) = some f := by
        simp only [lp, u2, fX7_over_s2, if_pos hc]
      rw [e]
      refine Sf.ok (fun k => ?_)
      have h1 := Int32.le_iff_toInt_le.mp hc
      rw [ofNat_i hm] at h1
      have h2 := i32_cl hz
      rw [if_neg]
      omega
    · obtain ⟨hi, hz0, h3, h4⟩ := i32_up hm hz hc
      have hr : rd m p0 z = some (p0 z.toNatClampNeg) := if_pos (inb_ok (ofNat_i hm) hi)
      have hw : wr m f z (p0 z.toNatClampNeg) = some (va_up f z.toNatClampNeg (p0 z.toNatClampNeg)) := if_pos (inb_ok (ofNat_i hm) hi)
      have e : lp (u2 (fX7_over_s2 m p0 m)) (n + 1) (z, f) = lp (u2 (fX7_over_s2 m p0 m)) n (z + 1, va_up f z.toNatClampNeg (p0 z.toNatClampNeg)) := by
        simp only [lp, u2, fX7_over_s2, if_neg hc, hr, hw, Option.bind]
      rw [e]
      refine (ih (z + 1) _ hz0 (by have := muUp_lt hc; omega)).mono (fun r hr k => ?_)
      rw [hr k, h3]
      unfold va_up
      by_cases hk : k = z.toNatClampNeg
      · subst hk
        rw [if_neg (by omega), if_pos rfl, if_pos (by omega)]
      · rw [if_neg hk]
        by_cases hk2 : z.toNatClampNeg + 1 ≤ k ∧ k < m
        · rw [if_pos hk2, if_pos (by omega)]
        · rw [if_neg hk2, if_neg (by omega)]
theorem s_over {n m : Nat} {p0 p1 : Nat → Int32} (hn : 1000000000000 ≤ n) (hm : m ≤ 1000) : Sf (fX7_over n m p0 m p1) (fun r => ∀ k : Nat, r k = if k < m then p0 k else p1 k) := by
  unfold fX7_over
  refine Sf.bind (over_step p0 hm n 0 p1 (by decide) (muUp_n hn)) (fun r hr => Sf.ok (fun k => ?_))
  rw [hr k]
  have : (0 : Int32).toNatClampNeg = 0 := rfl
  rw [this]
  simp
theorem overAll_step {N m w : Nat} (p0 : Nat → Nat → Int32) (hN : 1000000000000 ≤ N) (hm : m ≤ 1000) (hw : w ≤ 1000) : ∀ (n : Nat) (z : Int32) (f : Nat → Nat → Int32), 0 ≤ z → muUp z < n → Sf (lp (u2 (fX7_overAll_s2 N m w p0 m w)) n (z, f)) (fun r => ∀ k c : Nat, r k c = if z.toNatClampNeg ≤ k ∧ k < m then (if c < w then p0 k c else f k c) else f k c) := by
  intro n
  induction n with
  | zero => intro z f _ h; exact absurd h (Nat.not_lt_zero _)
  | succ n ih =>
    intro z f hz hn
    by_cases hc : Int32.ofNat m ≤ z
    · have e : lp (u2 (fX7_overAll_s2 N m w p0 m w)) (n + 1) (z, f) = some f := by
        simp only [lp, u2, fX7_overAll_s2, if_pos hc]
      rw [e]
      refine Sf.ok (fun k c => ?_)
      have h1 := Int32.le_iff_toInt_le.mp hc
      rw [ofNat_i hm] at h1
      have h2 := i32_cl hz
      rw [if_neg]
      omega
    · obtain ⟨hi, hz0, h3, h4⟩ := i32_up hm hz hc
      have hk : ck z m = some z.toNatClampNeg := if_pos (inb_ok (ofNat_i hm) hi)
      obtain ⟨g, eg, hg⟩ := s_over (p0 := p0 z.toNatClampNeg) (p1 := f z.toNatClampNeg) hN hw
      have e : lp (u2 (fX7_overAll_s2 N m w p0 m w)) (n + 1) (z, f) = lp (u2 (fX7_overAll_s2 N m w p0 m w)) n (z + 1, va_up f z.toNatClampNeg g) := by
        simp only [lp, u2, fX7_overAll_s2, if_neg hc, hk, eg, Option.bind]
      rw [e]
      refine (ih (z + 1) _ hz0 (by have := muUp_lt hc; omega)).mono (fun r hr k c => ?_)
      rw [hr k c, h3]
      unfold va_up
      by_cases hk : k = z.toNatClampNeg
      · subst hk
        rw [if_neg (show ¬ (z.toNatClampNeg + 1 ≤ z.toNatClampNeg ∧ z.toNatClampNeg < m) by omega), if_pos rfl, if_pos (show z.toNatClampNeg ≤ z.toNatClampNeg ∧ z.toNatClampNeg < m by omega)]
        exact hg c
      · rw [if_neg hk]
        by_cases hk2 : z.toNatClampNeg + 1 ≤ k ∧ k < m
        · rw [if_pos hk2, if_pos (show z.toNatClampNeg ≤ k ∧ k < m by omega)]
        · rw [if_neg hk2, if_neg (show ¬ (z.toNatClampNeg ≤ k ∧ k < m) by omega)]
theorem s_overAll {n m w : Nat} {p0 p1 : Nat → Nat → Int32} (hn : 1000000000000 ≤ n) (hm : m ≤ 1000) (hw : w ≤ 1000) : Sf (fX7_overAll n m w p0 m w p1) (fun r => ∀ k c : Nat, r k c = if k < m ∧ c < w then p0 k c else p1 k c) := by
  unfold fX7_overAll
  refine Sf.bind (overAll_step p0 hn hm hw n 0 p1 (by decide) (muUp_n hn)) (fun r hr => Sf.ok (fun k c => ?_))
  rw [hr k c]
  have : (0 : Int32).toNatClampNeg = 0 := rfl
  rw [this]
  by_cases h1 : k < m
  · rw [if_pos ⟨Nat.zero_le _, h1⟩]
    by_cases h2 : c < w
    · rw [if_pos h2, if_pos ⟨h1, h2⟩]
    · rw [if_neg h2, if_neg (fun h => h2 h.2)]
  · rw [if_neg (fun h => h1 h.2), if_neg (fun h => h1 h.1)]
theorem GI.over {B : Nat → Int32} {f g r : Nat → Nat → Int32} {m w : Nat} (hr : ∀ k c : Nat, r k c = if k < m ∧ c < w then f k c else g k c) (h : GI B f) (h2 : GI B g) : GI B r := by
  intro k c
  rw [hr k c]
  by_cases hk : k < m ∧ c < w
  · rw [if_pos hk]; exact h k c
  · rw [if_neg hk]; exact h2 k c
theorem AI.over {lo hi : Int32} {f g r : Nat → Int32} {m : Nat} (hr : ∀ k : Nat, r k = if k < m then f k else g k) (h : AI lo hi f) (h2 : AI lo hi g) : AI lo hi r := by
  intro k
  rw [hr k]
  by_cases hk : k < m
  · rw [if_pos hk]; exact h k
  · rw [if_neg hk]; exact h2 k
theorem WkM.over {f g r : Nat → Nat → Int32} (hr : ∀ k c : Nat, r k c = if k < 7 ∧ c < 5 then f k c else g k c) (h : WkM f) (h2 : WkB g) : WkM r := by
  refine ⟨GI.over hr h.1 h2, fun q hq => ?_⟩
  rw [hr q 0, hr q 1, hr q 2, if_pos ⟨hq, by omega⟩, if_pos ⟨hq, by omega⟩, if_pos ⟨hq, by omega⟩]
  exact h.2 q hq
def rdMu (ts a t : Int32) : Nat := 2 * (ts.toInt - a.toInt).toNat + (if t = 3 then 1 else 0)
theorem rdMu_lt {ts a t a' t' : Int32} (h3 : t = 3) (h : a ≤ a') (h1 : a' ≤ ts) (hp : t' ≠ 3 ∨ a < a') : rdMu ts a' t' < rdMu ts a t := by
  unfold rdMu
  have i := Int32.le_iff_toInt_le.mp h
  have j := Int32.le_iff_toInt_le.mp h1
  rw [if_pos h3]
  by_cases ht : t' = 3
  · rw [if_pos ht]
    rcases hp with hp | hp
    · exact absurd ht hp
    · have k := Int32.lt_iff_toInt_lt.mp hp
      omega
  · rw [if_neg ht]
    omega
theorem rdMu_n {ts a t : Int32} {n : Nat} (hn : 1000000000000 ≤ n) : rdMu ts a t < n := by
  unfold rdMu
  have h1 : ts.toInt < 2147483648 := Int32.toInt_lt ts
  have h2 : -2147483648 ≤ a.toInt := Int32.le_toInt a
  by_cases ht : t = 3
  · rw [if_pos ht]; omega
  · rw [if_neg ht]; omega
theorem md3 {x : Int32} (h : 0 ≤ x ∧ x ≤ 35) : 0 ≤ x - x / 3 * 3 ∧ x - x / 3 * 3 < 3 := by
  obtain ⟨_, _, h3, h4⟩ := dv3 h
  generalize x / 3 * 3 = y at h3 h4
  have a := i32_b h
  have b := Int32.le_iff_toInt_le.mp h3
  have z0 : (0 : Int32).toInt = 0 := by decide
  have z2 : (2 : Int32).toInt = 2 := by decide
  have z3 : (3 : Int32).toInt = 3 := by decide
  have z35 : (35 : Int32).toInt = 35 := by decide
  rw [z0, z35] at a
  have hy : -2147483648 ≤ y.toInt := Int32.le_toInt y
  have c := Int32.le_iff_toInt_le.mp h4
  rw [i32_add (by rw [z2]; omega) (by rw [z2]; omega), z2] at c
  have e : (x - y).toInt = x.toInt - y.toInt := i32_sub (by omega) (by omega)
  exact ⟨Int32.le_iff_toInt_le.mpr (by rw [e, z0]; omega), Int32.lt_iff_toInt_lt.mpr (by rw [e, z3]; omega)⟩
theorem st8 {y x : Int32} (hy : 0 ≤ y ∧ y ≤ 11) (h : 0 ≤ x ∧ x ≤ 35) : 0 ≤ 3 * y + (x - x / 3 * 3) ∧ 3 * y + (x - x / 3 * 3) ≤ 35 := by
  have m := md3 h
  generalize x - x / 3 * 3 = d at m
  clear h
  grind

/-! the reference's rows -/
def RI (B : Nat → Int32) (f : Nat → Int32) : Prop := ∀ c : Nat, 0 ≤ f c ∧ f c ≤ B c
def GI (B : Nat → Int32) (f : Nat → Nat → Int32) : Prop := ∀ q : Nat, RI B (f q)
def LnM (f : Nat → Nat → Int32) : Prop := GI lnB f
def GdM (f : Nat → Nat → Int32) : Prop := GI gdB f
def WkRm (K a b : Int32) : Prop := (K = 1 ∨ K = 2 → b ≤ 2) ∧ (K = 3 → a ≤ 11) ∧ (K = 1 ∨ K = 2 ∨ K = 3 ∨ (a ≤ 11 ∧ b ≤ 11))
def WkB (f : Nat → Nat → Int32) : Prop := GI wkB f
def WkM (f : Nat → Nat → Int32) : Prop := WkB f ∧ ∀ q : Nat, WkRm (f q 0) (f q 1) (f q 2)
theorem RI.up {B : Nat → Int32} {f : Nat → Int32} {c : Nat} {x : Int32} (h : RI B f) (hx : 0 ≤ x ∧ x ≤ B c) : RI B (va_up f c x) := by
  intro k
  unfold va_up
  by_cases hk : k = c
  · rw [if_pos hk, hk]; exact hx
  · rw [if_neg hk]; exact h k
theorem GI.up {B : Nat → Int32} {f : Nat → Nat → Int32} {q : Nat} {r : Nat → Int32} (h : GI B f) (hr : RI B r) : GI B (va_up f q r) := by
  intro k
  unfold va_up
  by_cases hk : k = q
  · rw [if_pos hk]; exact hr
  · rw [if_neg hk]; exact h k
theorem WkM.up {f : Nat → Nat → Int32} {q : Nat} {r : Nat → Int32} (h : WkM f) (hr : RI wkB r) (hR : WkRm (r 0) (r 1) (r 2)) : WkM (va_up f q r) := by
  refine ⟨GI.up h.1 hr, fun k => ?_⟩
  unfold va_up
  by_cases hk : k = q
  · rw [if_pos hk]; exact hR
  · rw [if_neg hk]; exact h.2 k
theorem va_up_up {α : Type} (f : Nat → α) (k : Nat) (a b : α) : va_up (va_up f k a) k b = va_up f k b := by
  funext j
  unfold va_up
  by_cases h : j = k
  · rw [if_pos h, if_pos h]
  · rw [if_neg h, if_neg h, if_neg h]

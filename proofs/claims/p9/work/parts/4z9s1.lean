/-! least costs, once more: what a bounded search comes to -/
def FxD (D : Nat → Nat → Int → Prop) (f : Nat → Int32) : Prop := ∀ u v c, D u v c → (f u).toInt ≤ (f v).toInt + c
theorem Wk.le {D : Nat → Nat → Int → Prop} {G : Nat → Prop} {f : Nat → Int32} (hF : FxD D f) (hG : ∀ u, G u → f u = 0) : ∀ (k u : Nat) (c : Int), Wk D G k u c → (f u).toInt ≤ c := by
  intro k
  induction k with
  | zero =>
    intro u c h
    obtain ⟨h1, h2⟩ := h
    rw [hG u h1, h2]
    decide
  | succ k ih =>
    intro u c h
    obtain ⟨v, d, h1, h2⟩ := h
    have a := ih v _ h2
    have b := hF u v d h1
    omega
/-- how many of the nodes have it -/
def cn (P : Nat → Prop) [inst : DecidablePred P] : Nat := ((List.range 36).map (fun v => if P v then 1 else 0)).sum
theorem cn_le (P : Nat → Prop) [inst : DecidablePred P] : cn P ≤ 36 := by
  unfold cn
  refine Nat.le_trans (sum_le1 (fun k => ?_) _) (by simp)
  split <;> omega
theorem cn_lt {P Q : Nat → Prop} [inst : DecidablePred P] [inst2 : DecidablePred Q] (h : ∀ v, v < 36 → P v → Q v) {x : Nat} (hx : x < 36) (hP : ¬ P x) (hQ : Q x) : cn P < cn Q := by
  unfold cn
  refine sum_lt (q := x) _ (List.mem_range.mpr hx) (fun k hk => ?_) ?_
  · have hk := List.mem_range.mp hk
    by_cases hp : P k
    · rw [if_pos hp, if_pos (h k hk hp)]; exact Nat.le_refl 1
    · rw [if_neg hp]; exact Nat.zero_le _
  · rw [if_neg hP, if_pos hQ]; exact Nat.zero_lt_one
theorem cn_pos {P : Nat → Prop} [inst : DecidablePred P] {x : Nat} (hx : x < 36) (hP : P x) : 1 ≤ cn P := by
  have h : cn (fun _ => False) < cn P := cn_lt (fun _ _ h => h.elim) hx (fun h => h) hP
  omega
/-- on a walk to the goal, from a node that hasn't it to a goal that has: a step over the border -/
theorem Wk.cross {D : Nat → Nat → Int → Prop} {G : Nat → Prop} {Q : Nat → Prop} (hG : ∀ u, G u → Q u) : ∀ (k u : Nat) (c : Int), Wk D G k u c → ¬ Q u → ∃ x y d, D x y d ∧ ¬ Q x ∧ Q y := by
  intro k
  induction k with
  | zero => intro u c h hq; exact absurd (hG u h.1) hq
  | succ k ih =>
    intro u c h hq
    obtain ⟨v, d, h1, h2⟩ := h
    by_cases hv : Q v
    · exact ⟨u, v, d, h1, hq, hv⟩
    · exact ih v _ h2 hv
/-- costs of what can be come to stay small: each step costs at most 999, and there are 36 nodes -/
theorem far_small {D : Nat → Nat → Int → Prop} {G : Nat → Prop} {f : Nat → Int32} (hF : FxD D f) (hD : ∀ u v c, D u v c → u < 36 ∧ v < 36 ∧ c ≤ 999) (hG : ∀ u, G u → f u = 0) {g0 : Nat} (hg : g0 < 36) (hg0 : G g0) : ∀ (j k u : Nat) (c : Int), Wk D G k u c → (999 * j + 1 : Int) ≤ (f u).toInt → j + 1 ≤ cn (fun v => (f v).toInt < 999 * j + 1) := by
  intro j
  induction j with
  | zero =>
    intro k u c h hu
    refine cn_pos hg ?_
    rw [hG g0 hg0]
    decide
  | succ j ih =>
    intro k u c h hu
    have hz : ∀ x, G x → (f x).toInt < 999 * (j + 1 : Nat) + 1 := by
      intro x hx
      rw [hG x hx]
      show (0 : Int) < _
      omega
    obtain ⟨x, y, d, h1, h2, h3⟩ := Wk.cross (Q := fun v => (f v).toInt < 999 * (j + 1 : Nat) + 1) hz k u c h (by show ¬ _; omega)
    obtain ⟨hx, hy, hd⟩ := hD x y d h1
    have hxy := hF x y d h1
    have h3 : (f y).toInt < 999 * (j + 1 : Nat) + 1 := h3
    have h2 : ¬ (f x).toInt < 999 * (j + 1 : Nat) + 1 := h2
    have q := ih k u c h (by omega)
    have r := cn_lt (P := fun v => (f v).toInt < 999 * (j : Int) + 1) (Q := fun v => (f v).toInt < 999 * ((j + 1 : Nat) : Int) + 1) (fun v _ hv => by show _; have hv : (f v).toInt < 999 * (j : Int) + 1 := hv; omega) hy (by show ¬ _; omega) h3
    omega
theorem far_bound {D : Nat → Nat → Int → Prop} {G : Nat → Prop} {f : Nat → Int32} (hF : FxD D f) (hD : ∀ u v c, D u v c → u < 36 ∧ v < 36 ∧ c ≤ 999) (hG : ∀ u, G u → f u = 0) {g0 : Nat} (hg : g0 < 36) (hg0 : G g0) {k u : Nat} {c : Int} (h : Wk D G k u c) : (f u).toInt ≤ 35964 := by
  refine Int.not_lt.mp fun hn => ?_
  have q := far_small hF hD hG hg hg0 36 k u c h (by omega)
  have r := cn_le (fun v => (f v).toInt < 999 * (36 : Nat) + 1)
  omega
/-- one pass: nothing grows, nothing falls below T, and each step is reckoned with what stood there before -/
def Pass (D : Nat → Nat → Int → Prop) (T A A' : Nat → Int32) : Prop := (∀ v, v < 36 → (T v).toInt ≤ (A' v).toInt ∧ (A' v).toInt ≤ (A v).toInt) ∧ ∀ u v c, D u v c → (A' u).toInt ≤ (A v).toInt + c
theorem Wk.tight {D : Nat → Nat → Int → Prop} {G : Nat → Prop} {T : Nat → Int32} (hF : FxD D T) (hG : ∀ u, G u → T u = 0) {Q : Nat → Prop} (hQ : ∀ u, G u → Q u) : ∀ (k u : Nat), Wk D G k u (T u).toInt → ¬ Q u → ∃ x y d, D x y d ∧ ¬ Q x ∧ Q y ∧ (T x).toInt = (T y).toInt + d := by
  intro k
  induction k with
  | zero => intro u h hq; exact absurd (hQ u h.1) hq
  | succ k ih =>
    intro u h hq
    obtain ⟨v, d, h1, h2⟩ := h
    have a := Wk.le hF hG k v _ h2
    have b := hF u v d h1
    have e : (T u).toInt = (T v).toInt + d := by omega
    by_cases hv : Q v
    · exact ⟨u, v, d, h1, hq, hv, e⟩
    · refine ih v ?_ hv
      have e2 : (T v).toInt = (T u).toInt - d := by omega
      rw [e2]; exact h2
theorem Pass.more {D : Nat → Nat → Int → Prop} {G : Nat → Prop} {T A A' : Nat → Int32} (hD : ∀ u v c, D u v c → u < 36 ∧ v < 36 ∧ c ≤ 999) (hF : FxD D T) (hG : ∀ u, G u → T u = 0) (hA : ∀ u, G u → A u = 0) (hT : ∀ u, u < 36 → (T u).toInt < 1000000 → ∃ k, Wk D G k u (T u).toInt) (hA1 : ∀ u, u < 36 → (A u).toInt ≤ 1000000) (hA0 : ∀ u, u < 36 → (T u).toInt ≤ (A u).toInt) (h : Pass D T A A') {u : Nat} (hu : u < 36) (hne : (A u).toInt ≠ (T u).toInt) : cn (fun v => (A v).toInt = (T v).toInt) < cn (fun v => (A' v).toInt = (T v).toInt) := by
  have h1 := hA1 u hu
  have h0 := hA0 u hu
  obtain ⟨k, hk⟩ := hT u hu (by omega)
  obtain ⟨x, y, d, hd, hx, hy, e⟩ := Wk.tight hF hG (Q := fun v => (A v).toInt = (T v).toInt) (fun v hv => by show _ = _; rw [hA v hv, hG v hv]) k u hk hne
  obtain ⟨hx36, hy36, _⟩ := hD x y d hd
  have hy : (A y).toInt = (T y).toInt := hy
  refine cn_lt (fun v hv hq => ?_) hx36 hx ?_
  · have hq : (A v).toInt = (T v).toInt := hq
    have := h.1 v hv
    show (A' v).toInt = (T v).toInt
    omega
  · have a := h.2 x y d hd
    have b := h.1 x hx36
    show (A' x).toInt = (T x).toInt
    omega

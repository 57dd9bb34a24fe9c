section
/-! least costs, once more: what a bounded search comes to -/
def FxD (D : Nat → Nat → Int → Prop) (f : Nat → Int32) : Prop := ∀ u v c, D u v c → (f u).toInt ≤ (f v).toInt + c
theorem Wk.le {D : Nat → Nat → Int → Prop} {G : Nat → Prop} {f : Nat → Int32} (hF : FxD D f) (hG : ∀ u, G u → f u = 0) : ∀ (k u : Nat) (c : Int), Wk D G k u c → (f u).toInt ≤ c := by
  intro k
  induction k with
  | zero =>
    intro u c h
    obtain ⟨h1, h2⟩ := h
    rw [hG u h1, h2]
    decide
  | succ k ih =>
    intro u c h
    obtain ⟨v, d, h1, h2⟩ := h
    have a := ih v _ h2
    have b := hF u v d h1
    omega
/-- how many of the nodes have it -/
def cn (P : Nat → Prop) [inst : DecidablePred P] : Nat := ((List.range 36).map (fun v => if P v then 1 else 0)).sum
theorem cn_le (P : Nat → Prop) [inst : DecidablePred P] : cn P ≤ 36 := by
  unfold cn
  refine Nat.le_trans (sum_le1 (fun k => ?_) _) (by simp)
  split <;> omega
theorem cn_lt {P Q : Nat → Prop} [inst : DecidablePred P] [inst2 : DecidablePred Q] (h : ∀ v, v < 36 → P v → Q v) {x : Nat} (hx : x < 36) (hP : ¬ P x) (hQ : Q x) : cn P < cn Q := by
  unfold cn
  refine sum_lt (q := x) _ (List.mem_range.mpr hx) (fun k hk => ?_) ?_
  · have hk := List.mem_range.mp hk
    by_cases hp : P k
    · rw [if_pos hp, if_pos (h k hk hp)]; exact Nat.le_refl 1
    · rw [if_neg hp]; exact Nat.zero_le _
  · rw [if_neg hP, if_pos hQ]; exact Nat.zero_lt_one
theorem cn_pos {P : Nat → Prop} [inst : DecidablePred P] {x : Nat} (hx : x < 36) (hP : P x) : 1 ≤ cn P := by
  have h : cn (fun _ => False) < cn P := cn_lt (fun _ _ h => h.elim) hx (fun h => h) hP
  omega
/-- on a walk to the goal, from a node that hasn't it to a goal that has: a step over the border -/
theorem Wk.cross {D : Nat → Nat → Int → Prop} {G : Nat → Prop} {Q : Nat → Prop} (hG : ∀ u, G u → Q u) : ∀ (k u : Nat) (c : Int), Wk D G k u c → ¬ Q u → ∃ x y d, D x y d ∧ ¬ Q x ∧ Q y := by
  intro k
  induction k with
  | zero => intro u c h hq; exact absurd (hG u h.1) hq
  | succ k ih =>
    intro u c h hq
    obtain ⟨v, d, h1, h2⟩ := h
    by_cases hv : Q v
    · exact ⟨u, v, d, h1, hq, hv⟩
    · exact ih v _ h2 hv
/-- costs of what can be come to stay small: each step costs at most 999, and there are 36 nodes -/
theorem far_small {D : Nat → Nat → Int → Prop} {G : Nat → Prop} {f : Nat → Int32} (hF : FxD D f) (hD : ∀ u v c, D u v c → u < 36 ∧ v < 36 ∧ c ≤ 999) (hG : ∀ u, G u → f u = 0) {g0 : Nat} (hg : g0 < 36) (hg0 : G g0) : ∀ (j k u : Nat) (c : Int), Wk D G k u c → (999 * j + 1 : Int) ≤ (f u).toInt → j + 1 ≤ cn (fun v => (f v).toInt < 999 * j + 1) := by
  intro j
  induction j with
  | zero =>
    intro k u c h hu
    refine cn_pos hg ?_
    rw [hG g0 hg0]
    decide
  | succ j ih =>
    intro k u c h hu
    have hz : ∀ x, G x → (f x).toInt < 999 * (j + 1 : Nat) + 1 := by
      intro x hx
      rw [hG x hx]
      show (0 : Int) < _
      omega
    obtain ⟨x, y, d, h1, h2, h3⟩ := Wk.cross (Q := fun v => (f v).toInt < 999 * (j + 1 : Nat) + 1) hz k u c h (by show ¬ _; omega)
    obtain ⟨hx, hy, hd⟩ := hD x y d h1
    have hxy := hF x y d h1
    have h3 : (f y).toInt < 999 * (j + 1 : Nat) + 1 := h3
    have h2 : ¬ (f x).toInt < 999 * (j + 1 : Nat) + 1 := h2
    have q := ih k u c h (by omega)
    have r := cn_lt (P := fun v => (f v).toInt < 999 * (j : Int) + 1) (Q := fun v => (f v).toInt < 999 * ((j + 1 : Nat) : Int) + 1) (fun v _ hv => by show _; have hv : (f v).toInt < 999 * (j : Int) + 1 := hv; omega) hy (by show ¬ _; omega) h3
    omega
theorem far_bound {D : Nat → Nat → Int → Prop} {G : Nat → Prop} {f : Nat → Int32} (hF : FxD D f) (hD : ∀ u v c, D u v c → u < 36 ∧ v < 36 ∧ c ≤ 999) (hG : ∀ u, G u → f u = 0) {g0 : Nat} (hg : g0 < 36) (hg0 : G g0) {k u : Nat} {c : Int} (h : Wk D G k u c) : (f u).toInt ≤ 35964 := by
  refine Int.not_lt.mp fun hn => ?_
  have q := far_small hF hD hG hg hg0 36 k u c h (by omega)
  have r := cn_le (fun v => (f v).toInt < 999 * (36 : Nat) + 1)
  omega
/-- one pass: nothing grows, nothing falls below T, and each step is reckoned with what stood there before -/
def Pass (D : Nat → Nat → Int → Prop) (T A A' : Nat → Int32) : Prop := (∀ v, v < 36 → (T v).toInt ≤ (A' v).toInt ∧ (A' v).toInt ≤ (A v).toInt) ∧ ∀ u v c, D u v c → (A' u).toInt ≤ (A v).toInt + c
theorem Wk.tight {D : Nat → Nat → Int → Prop} {G : Nat → Prop} {T : Nat → Int32} (hF : FxD D T) (hG : ∀ u, G u → T u = 0) {Q : Nat → Prop} (hQ : ∀ u, G u → Q u) : ∀ (k u : Nat), Wk D G k u (T u).toInt → ¬ Q u → ∃ x y d, D x y d ∧ ¬ Q x ∧ Q y ∧ (T x).toInt = (T y).toInt + d := by
  intro k
  induction k with
  | zero => intro u h hq; exact absurd (hQ u h.1) hq
  | succ k ih =>
    intro u h hq
    obtain ⟨v, d, h1, h2⟩ := h
    have a := Wk.le hF hG k v _ h2
    have b := hF u v d h1
    have e : (T u).toInt = (T v).toInt + d := by omega
    by_cases hv : Q v
    · exact ⟨u, v, d, h1, hq, hv, e⟩
    · refine ih v ?_ hv
      have e2 : (T v).toInt = (T u).toInt - d := by omega
      rw [e2]; exact h2
theorem Pass.more {D : Nat → Nat → Int → Prop} {G : Nat → Prop} {T A A' : Nat → Int32} (hD : ∀ u v c, D u v c → u < 36 ∧ v < 36 ∧ c ≤ 999) (hF : FxD D T) (hG : ∀ u, G u → T u = 0) (hA : ∀ u, G u → A u = 0) (hT : ∀ u, u < 36 → (T u).toInt < 1000000 → ∃ k, Wk D G k u (T u).toInt) (hA1 : ∀ u, u < 36 → (A u).toInt ≤ 1000000) (hA0 : ∀ u, u < 36 → (T u).toInt ≤ (A u).toInt) (h : Pass D T A A') {u : Nat} (hu : u < 36) (hne : (A u).toInt ≠ (T u).toInt) : cn (fun v => (A v).toInt = (T v).toInt) < cn (fun v => (A' v).toInt = (T v).toInt) := by
  have h1 := hA1 u hu
  have h0 := hA0 u hu
  obtain ⟨k, hk⟩ := hT u hu (by omega)
  obtain ⟨x, y, d, hd, hx, hy, e⟩ := Wk.tight hF hG (Q := fun v => (A v).toInt = (T v).toInt) (fun v hv => by show _ = _; rw [hA v hv, hG v hv]) k u hk hne
  obtain ⟨hx36, hy36, _⟩ := hD x y d hd
  have hy : (A y).toInt = (T y).toInt := hy
  refine cn_lt (fun v hv hq => ?_) hx36 hx ?_
  · have hq : (A v).toInt = (T v).toInt := hq
    have := h.1 v hv
    show (A' v).toInt = (T v).toInt
    omega
  · have a := h.2 x y d hd
    have b := h.1 x hx36
    show (A' x).toInt = (T x).toInt
    omega
end
section
/-! the class's search: a pass over the lines -/
def A6 (A : Nat → Int32) : Prop := ∀ v : Nat, v < 36 → 0 ≤ A v ∧ A v ≤ 1000000
theorem A6.up {A : Nat → Int32} {i : Nat} {x : Int32} (h : A6 A) (hx : 0 ≤ x ∧ x ≤ 1000000) : A6 (va_up A i x) := by
  intro v hv
  by_cases hvi : v = i
  · subst hvi; rw [va_up_self]; exact hx
  · rw [va_up_ne _ _ hvi]; exact h v hv
def NL (eA eB eC T A0 : Nat → Int32) (z2 z3 : Int32) (A : Nat → Int32) : Prop :=
  (z2 = 0 ∨ z2 = 1) ∧ 0 ≤ z3 ∧ A6 A ∧ (∀ v, v < 36 → (T v).toInt ≤ (A v).toInt ∧ (A v).toInt ≤ (A0 v).toInt) ∧
  (∀ e, e < z3.toNatClampNeg → (A (eB e).toNatClampNeg).toInt ≤ (A0 (eA e).toNatClampNeg).toInt + (eC e).toInt ∧ (A (eA e).toNatClampNeg).toInt ≤ (A0 (eB e).toNatClampNeg).toInt + (eC e).toInt) ∧
  (z2 = 0 → A = A0)
theorem NL.rlx {eA eB eC T A0 A : Nat → Int32} {z2 z3 x c : Int32} {i j : Nat} (h : NL eA eB eC T A0 z2 z3 A) (hi : i < 36) (hj : j < 36) (hc : 0 ≤ c ∧ c ≤ 1000) (hT : (T i).toInt ≤ (T j).toInt + c.toInt) (hx : x = A j + c) (hlt : ¬ A i ≤ x) (hz0 : 0 ≤ z3 + 1) (hz : (z3 + 1).toNatClampNeg = z3.toNatClampNeg + 1) (hce : eC z3.toNatClampNeg = c) (hij : ((eA z3.toNatClampNeg).toNatClampNeg = i ∧ (eB z3.toNatClampNeg).toNatClampNeg = j) ∨ ((eB z3.toNatClampNeg).toNatClampNeg = i ∧ (eA z3.toNatClampNeg).toNatClampNeg = j)) : NL eA eB eC T A0 1 (z3 + 1) (va_up A i x) := by
  obtain ⟨h1, h2, h3, h4, h5, h6⟩ := h
  have z0 : (0 : Int32).toInt = 0 := by decide
  have zm : (1000000 : Int32).toInt = 1000000 := by decide
  have z1 : (1000 : Int32).toInt = 1000 := by decide
  have aj := i32_b (h3 j hj)
  have ai := i32_b (h3 i hi)
  have ac := i32_b hc
  rw [z0, zm] at aj ai
  rw [z0, z1] at ac
  have ex : x.toInt = (A j).toInt + c.toInt := by rw [hx]; exact i32_add (by omega) (by omega)
  have hl := Int32.lt_iff_toInt_lt.mp (Int32.not_le.mp hlt)
  have hne : j ≠ i := by intro e; subst e; omega
  have x0 : 0 ≤ x := Int32.le_iff_toInt_le.mpr (by rw [ex, z0]; omega)
  have x1 : x ≤ 1000000 := Int32.le_iff_toInt_le.mpr (by rw [zm]; omega)
  have hu : ∀ v : Nat, (va_up A i x v).toInt ≤ (A v).toInt := by
    intro v
    by_cases hv : v = i
    · subst hv; rw [va_up_self]; omega
    · rw [va_up_ne _ _ hv]; exact Int.le_refl _
  have ti := h4 i hi
  have tj := h4 j hj
  refine ⟨Or.inr rfl, hz0, A6.up h3 ⟨x0, x1⟩, fun v hv => ?_, fun e he => ?_, fun h => absurd h (by decide)⟩
  · by_cases hvi : v = i
    · subst hvi; rw [va_up_self]; omega
    · rw [va_up_ne _ _ hvi]; exact h4 v hv
  · rw [hz] at he
    by_cases hlt2 : e < z3.toNatClampNeg
    · have q := h5 e hlt2
      have qa := hu (eB e).toNatClampNeg
      have qb := hu (eA e).toNatClampNeg
      omega
    · have ee : e = z3.toNatClampNeg := by omega
      subst ee
      rw [hce]
      rcases hij with ⟨ha, hb⟩ | ⟨hb, ha⟩
      · rw [ha, hb, va_up_self, va_up_ne _ _ hne]; omega
      · rw [ha, hb, va_up_self, va_up_ne _ _ hne]; omega
def NLq (eA eB eC T A0 : Nat → Int32) (ec : Nat) (r : Int32 × (Nat → Int32)) : Prop :=
  (r.1 = 0 ∨ r.1 = 1) ∧ A6 r.2 ∧ (∀ v, v < 36 → (T v).toInt ≤ (r.2 v).toInt ∧ (r.2 v).toInt ≤ (A0 v).toInt) ∧
  (∀ e, e < ec → (r.2 (eB e).toNatClampNeg).toInt ≤ (A0 (eA e).toNatClampNeg).toInt + (eC e).toInt ∧ (r.2 (eA e).toNatClampNeg).toInt ≤ (A0 (eB e).toNatClampNeg).toInt + (eC e).toInt) ∧
  (r.1 = 0 → r.2 = A0)
theorem NLs {eA eB eC T A0 z4 : Nat → Int32} {ec z2 z3 : Int32} (hA : AI 0 35 eA) (hB : AI 0 35 eB) (hec : 0 ≤ ec ∧ ec ≤ 60) (hC : ∀ e, e < ec.toNatClampNeg → 0 ≤ eC e ∧ eC e ≤ 1000) (hT : ∀ e, e < ec.toNatClampNeg → (T (eA e).toNatClampNeg).toInt ≤ (T (eB e).toNatClampNeg).toInt + (eC e).toInt ∧ (T (eB e).toNatClampNeg).toInt ≤ (T (eA e).toNatClampNeg).toInt + (eC e).toInt) (h : NL eA eB eC T A0 z2 z3 z4) : Sf (fX5_nearByLines_s4 eA eB eC ec z2 z3 z4) (LQ (u3 (NL eA eB eC T A0)) (u3 (fun z2 z3 z4 => muUp z3)) (muUp z3) (NLq eA eB eC T A0 ec.toNatClampNeg)) := by
  have hh := h
  obtain ⟨h1, h2, h3, h4, h5, h6⟩ := hh
  unfold fX5_nearByLines_s4
  refine Sf.ite (fun hc1 => ?_) (fun hc1 => ?_)
  · refine Sf.inr ⟨h1, h3, h4, fun e he => h5 e ?_, h6⟩
    have a := i32_cl h2
    have b := i32_cl hec.1
    have c := Int32.le_iff_toInt_le.mp hc1
    omega
  · obtain ⟨p0, p1, p2⟩ := up1 h2 (Int32.le_trans hec.2 (by decide)) hc1
    have he0 : z3.toNatClampNeg < ec.toNatClampNeg := by
      have a := i32_cl h2
      have b := i32_cl hec.1
      have c := Int32.lt_iff_toInt_lt.mp p2
      omega
    have hi : 0 ≤ z3 ∧ z3 < 60 := ⟨h2, Int32.lt_of_lt_of_le p2 hec.2⟩
    refine Sf.rdb 60 rfl hi (fun v9 e9 => ?_)
    refine Sf.rdb 60 rfl hi (fun v10 e10 => ?_)
    refine Sf.rdb 60 rfl hi (fun v11 e11 => ?_)
    have b9 : 0 ≤ v9 ∧ v9 ≤ 35 := by rw [e9]; exact hA _
    have b10 : 0 ≤ v10 ∧ v10 ≤ 35 := by rw [e10]; exact hB _
    have b11 : 0 ≤ v11 ∧ v11 ≤ 1000 := by rw [e11]; exact hC _ he0
    have i9 : 0 ≤ v9 ∧ v9 < 36 := ⟨b9.1, Int32.lt_of_le_of_lt b9.2 (by decide)⟩
    have i10 : 0 ≤ v10 ∧ v10 < 36 := ⟨b10.1, Int32.lt_of_le_of_lt b10.2 (by decide)⟩
    have n9 : v9.toNatClampNeg < 36 := i32_lt (M := 36) rfl i9
    have n10 : v10.toNatClampNeg < 36 := i32_lt (M := 36) rfl i10
    have t := hT _ he0
    rw [← e9, ← e10, ← e11] at t
    refine Sf.rdb 36 rfl i9 (fun v12 e12 => ?_)
    refine Sf.rdb 36 rfl i10 (fun v13 e13 => ?_)
    refine Sf.ite (fun hc2 => ?_) (fun hc2 => ?_)
    · refine Sf.rdb 36 rfl i10 (fun v14 e14 => ?_)
      refine Sf.rdb 36 rfl i9 (fun v15 e15 => ?_)
      refine Sf.ite (fun hc5 => ?_) (fun hc5 => ?_)
      · refine Sf.inl (show NL eA eB eC T A0 z2 (z3 + 1) z4 from ?_) (muUp_lt hc1)
        refine ⟨h1, p0, h3, h4, fun e he => ?_, h6⟩
        rw [p1] at he
        by_cases hl : e < z3.toNatClampNeg
        · exact h5 e hl
        · have ee : e = z3.toNatClampNeg := by omega
          subst ee
          rw [← e9, ← e10, ← e11]
          have z0 : (0 : Int32).toInt = 0 := by decide
          have zm : (1000000 : Int32).toInt = 1000000 := by decide
          have z1 : (1000 : Int32).toInt = 1000 := by decide
          have a12 := i32_b (h3 v9.toNatClampNeg n9)
          have a13 := i32_b (h3 v10.toNatClampNeg n10)
          have a11 := i32_b b11
          rw [z0, zm] at a12 a13
          rw [z0, z1] at a11
          rw [e13, e12] at hc2
          rw [e14, e15] at hc5
          have q1 := Int32.le_iff_toInt_le.mp hc2
          have q2 := Int32.le_iff_toInt_le.mp hc5
          rw [i32_add (by omega) (by omega)] at q1 q2
          have r9 := h4 _ n9
          have r10 := h4 _ n10
          omega
      · refine Sf.rdb 36 rfl i10 (fun v16 e16 => ?_)
        refine Sf.wrb 36 rfl i9 (fun f17 e17 => ?_)
        refine Sf.inl ?_ (muUp_lt hc1)
        rw [e17]
        refine NL.rlx h n9 n10 b11 t.1 (by rw [e16]) ?_ p0 p1 e11.symm (Or.inl ⟨by rw [e9], by rw [e10]⟩)
        rw [e16, ← e14, ← e15]
        exact hc5
    · refine Sf.rdb 36 rfl i9 (fun v18 e18 => ?_)
      refine Sf.wrb 36 rfl i10 (fun f19 e19 => ?_)
      refine Sf.inl ?_ (muUp_lt hc1)
      rw [e19]
      refine NL.rlx h n10 n9 b11 t.2 (by rw [e18]) ?_ p0 p1 e11.symm (Or.inr ⟨by rw [e10], by rw [e9]⟩)
      rw [e18, ← e12, ← e13]
      exact hc2
theorem NLf {n : Nat} {eA eB eC eL chg T A0 st nd op : Nat → Int32} {sc oc ec am : Int32} {sn : Int64} (hn : 1000000000000 ≤ n) (hA : AI 0 35 eA) (hB : AI 0 35 eB) (hec : 0 ≤ ec ∧ ec ≤ 60) (hC : ∀ e, e < ec.toNatClampNeg → 0 ≤ eC e ∧ eC e ≤ 1000) (hT : ∀ e, e < ec.toNatClampNeg → (T (eA e).toNatClampNeg).toInt ≤ (T (eB e).toNatClampNeg).toInt + (eC e).toInt ∧ (T (eB e).toNatClampNeg).toInt ≤ (T (eA e).toNatClampNeg).toInt + (eC e).toInt) (h0 : A6 A0) (hT0 : ∀ v, v < 36 → (T v).toInt ≤ (A0 v).toInt) : Sf (fX5_nearByLines n (eA, eB, eC, eL, chg, A0, st, nd, sc, op, oc, sn, ec, am)) (NLq eA eB eC T A0 ec.toNatClampNeg) := by
  unfold fX5_nearByLines
  dsimp only [u14]
  refine Sf.bind (Sf.loop3 (NL eA eB eC T A0) (fun z2 z3 z4 => muUp z3) (fun z2 z3 z4 h => NLs hA hB hec hC hT h) (show NL eA eB eC T A0 0 0 A0 from ⟨Or.inl rfl, Int32.le_refl 0, h0, fun v hv => ⟨hT0 v hv, Int.le_refl _⟩, fun e he => absurd he (Nat.not_lt_zero e), fun _ => rfl⟩) (muUp_n hn)) ?_
  rintro ⟨w6, w7⟩ hr
  dsimp only [u2]
  refine Sf.zbb hr.1 (fun v8 e8 => ?_)
  rw [e8]
  exact Sf.ok hr
end
section
/-! the class's search: a pass over the changes -/
def C12 (chg : Nat → Int32) : Prop := ∀ p : Nat, p < 12 → 0 ≤ chg p ∧ chg p ≤ 99
theorem ix3' {p w : Int32} (hp : 0 ≤ p ∧ p ≤ 11) (hw : 0 ≤ w ∧ w < 3) : (0 ≤ p * 3 + w ∧ p * 3 + w < 36) ∧ (p * 3 + w).toNatClampNeg = 3 * p.toNatClampNeg + w.toNatClampNeg := by
  rw [Int32.mul_comm p 3]
  exact ix3 hp hw
theorem c3 {z : Int32} (h0 : 0 ≤ z) (h : 3 ≤ z) {w : Nat} (hw : w < 3) : w < z.toNatClampNeg := by
  have a := i32_cl h0
  have b := Int32.le_iff_toInt_le.mp h
  have e : (3 : Int32).toInt = 3 := by decide
  omega
def NM (A : Nat → Int32) (p : Nat) (z8 z9 : Int32) : Prop := 0 ≤ z9 ∧ (∀ w : Nat, w < z9.toNatClampNeg → z8 ≤ A (3 * p + w)) ∧ ∃ w : Nat, w < 3 ∧ z8 = A (3 * p + w)
theorem NC1 {n : Nat} {z2 v6 : Int32} {A : Nat → Int32} (hn : 1000000000000 ≤ n) (hp : 0 ≤ z2 ∧ z2 ≤ 11) (e6 : v6 = A (3 * z2.toNatClampNeg + 0)) : Sf (lp (u2 (fX5_nearByChanges_s22 z2 A)) n (v6, 1)) (fun r => (∀ w : Nat, w < 3 → r ≤ A (3 * z2.toNatClampNeg + w)) ∧ ∃ w : Nat, w < 3 ∧ r = A (3 * z2.toNatClampNeg + w)) := by
  refine Sf.loop2 (NM A z2.toNatClampNeg) (fun z8 z9 => muUp z9) (fun z8 z9 h => ?_) (show NM A z2.toNatClampNeg v6 1 from ⟨by decide, fun w hw => ?_, 0, by decide, e6⟩) (muUp_n hn)
  · obtain ⟨h9, hl, hx⟩ := h
    unfold fX5_nearByChanges_s22
    refine Sf.ite (fun hc => ?_) (fun hc => ?_)
    · exact Sf.inr ⟨fun w hw => hl w (c3 h9 hc hw), hx⟩
    · obtain ⟨p0, p1, p2⟩ := up1 h9 (by decide) hc
      obtain ⟨hi, he⟩ := ix3' hp ⟨h9, p2⟩
      refine Sf.rdb 36 rfl hi (fun v20 e20 => ?_)
      rw [he] at e20
      refine Sf.ite (fun hc2 => ?_) (fun hc2 => ?_)
      · refine Sf.inl (show NM A z2.toNatClampNeg z8 (z9 + 1) from ⟨p0, fun w hw => ?_, hx⟩) (muUp_lt hc)
        rw [p1] at hw
        by_cases hlt : w < z9.toNatClampNeg
        · exact hl w hlt
        · have ew : w = z9.toNatClampNeg := by omega
          subst ew
          rw [← e20]
          exact hc2
      · refine Sf.rdb 36 rfl hi (fun v21 e21 => ?_)
        rw [he] at e21
        refine Sf.inl (show NM A z2.toNatClampNeg v21 (z9 + 1) from ⟨p0, fun w hw => ?_, z9.toNatClampNeg, (w_of ⟨h9, p2⟩).2, e21⟩) (muUp_lt hc)
        rw [p1] at hw
        have hle : v21 ≤ z8 := by rw [e21, ← e20]; exact Int32.le_of_lt (Int32.not_le.mp hc2)
        by_cases hlt : w < z9.toNatClampNeg
        · exact Int32.le_trans hle (hl w hlt)
        · have ew : w = z9.toNatClampNeg := by omega
          subst ew
          rw [e21]
          exact Int32.le_refl _
  · have e1 : (1 : Int32).toNatClampNeg = 1 := by decide
    have hw : w < (1 : Int32).toNatClampNeg := hw
    have ew : w = 0 := by omega
    subst ew
    rw [e6]
    exact Int32.le_refl _
/-- within a place: what is more than x becomes x -/
def NI (T B : Nat → Int32) (p : Nat) (m x : Int32) (z : Int32) (A : Nat → Int32) : Prop :=
  0 ≤ z ∧ A6 A ∧ (∀ v, v < 36 → (T v).toInt ≤ (A v).toInt ∧ (A v).toInt ≤ (B v).toInt) ∧ (∀ w : Nat, w < z.toNatClampNeg → w < 3 → A (3 * p + w) ≤ x) ∧ (∀ v, v < 36 → v / 3 ≠ p → A v = B v) ∧ ∀ w : Nat, w < 3 → m ≤ A (3 * p + w)
theorem NC2 {n : Nat} {T B : Nat → Int32} {z2 m c x : Int32} (hn : 1000000000000 ≤ n) (hp : 0 ≤ z2 ∧ z2 ≤ 11) (hx : x = m + c) (hx0 : 0 ≤ x ∧ x ≤ 1100000) (hm : m ≤ x) (hB : A6 B) (hTB : ∀ v, v < 36 → (T v).toInt ≤ (B v).toInt) (hTx : ∀ w : Nat, w < 3 → (T (3 * z2.toNatClampNeg + w)).toInt ≤ x.toInt) (hmB : ∀ w : Nat, w < 3 → m ≤ B (3 * z2.toNatClampNeg + w)) : Sf (lp (u2 (fX5_nearByChanges_s70 z2 m c)) n (0, B)) (fun A => A6 A ∧ (∀ v, v < 36 → (T v).toInt ≤ (A v).toInt ∧ (A v).toInt ≤ (B v).toInt) ∧ (∀ w : Nat, w < 3 → A (3 * z2.toNatClampNeg + w) ≤ x) ∧ (∀ v, v < 36 → v / 3 ≠ z2.toNatClampNeg → A v = B v) ∧ ∀ w : Nat, w < 3 → m ≤ A (3 * z2.toNatClampNeg + w)) := by
  refine Sf.loop2 (NI T B z2.toNatClampNeg m x) (fun z14 z15 => muUp z14) (fun z14 A h => ?_) (show NI T B z2.toNatClampNeg m x 0 B from ⟨Int32.le_refl 0, hB, fun v hv => ⟨hTB v hv, Int.le_refl _⟩, fun w hw => absurd hw (Nat.not_lt_zero w), fun v _ _ => rfl, hmB⟩) (muUp_n hn)
  obtain ⟨h0, h1, h2, h3, h4, h5⟩ := h
  unfold fX5_nearByChanges_s70
  refine Sf.ite (fun hc => ?_) (fun hc => ?_)
  · exact Sf.inr ⟨h1, h2, fun w hw => h3 w (c3 h0 hc hw) hw, h4, h5⟩
  · obtain ⟨p0, p1, p2⟩ := up1 h0 (by decide) hc
    obtain ⟨hi, he⟩ := ix3' hp ⟨h0, p2⟩
    have hw3 : z14.toNatClampNeg < 3 := (w_of ⟨h0, p2⟩).2
    have hp12 := p_of hp
    refine Sf.rdb 36 rfl hi (fun v18 e18 => ?_)
    rw [he] at e18
    rw [← hx]
    refine Sf.ite (fun hc2 => ?_) (fun hc2 => ?_)
    · refine Sf.inl (show NI T B z2.toNatClampNeg m x (z14 + 1) A from ⟨p0, h1, h2, fun w hw hw2 => ?_, h4, h5⟩) (muUp_lt hc)
      rw [p1] at hw
      by_cases hlt : w < z14.toNatClampNeg
      · exact h3 w hlt hw2
      · have ew : w = z14.toNatClampNeg := by omega
        subst ew
        rw [← e18]
        exact hc2
    · refine Sf.wrb 36 rfl hi (fun f19 e19 => ?_)
      rw [he] at e19
      subst e19
      have hl := Int32.lt_iff_toInt_lt.mp (Int32.not_le.mp hc2)
      rw [e18] at hl
      have hx1 : x ≤ 1000000 := by
        have a := i32_b (h1 (3 * z2.toNatClampNeg + z14.toNatClampNeg) (by omega))
        exact Int32.le_iff_toInt_le.mpr (by omega)
      refine Sf.inl (show NI T B z2.toNatClampNeg m x (z14 + 1) (va_up A (3 * z2.toNatClampNeg + z14.toNatClampNeg) x) from ⟨p0, A6.up h1 ⟨hx0.1, hx1⟩, fun v hv => ?_, fun w hw hw2 => ?_, fun v hv hne => ?_, fun w hw => ?_⟩) (muUp_lt hc)
      · by_cases hvi : v = 3 * z2.toNatClampNeg + z14.toNatClampNeg
        · subst hvi
          rw [va_up_self]
          have a := hTx z14.toNatClampNeg hw3
          have b := h2 _ hv
          omega
        · rw [va_up_ne _ _ hvi]
          exact h2 v hv
      · by_cases hvi : 3 * z2.toNatClampNeg + w = 3 * z2.toNatClampNeg + z14.toNatClampNeg
        · rw [hvi, va_up_self]
          exact Int32.le_refl _
        · rw [va_up_ne _ _ hvi]
          rw [p1] at hw
          exact h3 w (by omega) hw2
      · have hvi : v ≠ 3 * z2.toNatClampNeg + z14.toNatClampNeg := by omega
        rw [va_up_ne _ _ hvi]
        exact h4 v hv hne
      · by_cases hvi : 3 * z2.toNatClampNeg + w = 3 * z2.toNatClampNeg + z14.toNatClampNeg
        · rw [hvi, va_up_self]
          exact hm
        · rw [va_up_ne _ _ hvi]
          exact h5 w hw
def NO (chg T B : Nat → Int32) (z : Int32) (A : Nat → Int32) : Prop :=
  (0 ≤ z ∧ z ≤ 12) ∧ A6 A ∧ (∀ v, v < 36 → (T v).toInt ≤ (A v).toInt ∧ (A v).toInt ≤ (B v).toInt) ∧ (∀ v, v < 36 → z.toNatClampNeg ≤ v / 3 → A v = B v) ∧
  ∀ p : Nat, p < z.toNatClampNeg → p < 12 → ∀ w w' : Nat, w < 3 → w' < 3 → (A (3 * p + w)).toInt ≤ (B (3 * p + w')).toInt + (chg p).toInt ∧ (A (3 * p + w)).toInt ≤ (A (3 * p + w')).toInt + (chg p).toInt
theorem NCf {n : Nat} {eA eB eC eL chg T B st nd op : Nat → Int32} {sc oc ec am : Int32} {sn : Int64} (hn : 1000000000000 ≤ n) (hch : C12 chg) (hB : A6 B) (hTB : ∀ v, v < 36 → (T v).toInt ≤ (B v).toInt) (hTc : ∀ p : Nat, p < 12 → ∀ w w' : Nat, w < 3 → w' < 3 → (T (3 * p + w)).toInt ≤ (T (3 * p + w')).toInt + (chg p).toInt) : Sf (fX5_nearByChanges n (eA, eB, eC, eL, chg, B, st, nd, sc, op, oc, sn, ec, am)) (fun A => A6 A ∧ (∀ v, v < 36 → (T v).toInt ≤ (A v).toInt ∧ (A v).toInt ≤ (B v).toInt) ∧ ∀ p : Nat, p < 12 → ∀ w w' : Nat, w < 3 → w' < 3 → (A (3 * p + w)).toInt ≤ (B (3 * p + w')).toInt + (chg p).toInt ∧ (A (3 * p + w)).toInt ≤ (A (3 * p + w')).toInt + (chg p).toInt) := by
  unfold fX5_nearByChanges
  dsimp only [u14]
  refine Sf.bind (P := fun A => A6 A ∧ (∀ v, v < 36 → (T v).toInt ≤ (A v).toInt ∧ (A v).toInt ≤ (B v).toInt) ∧ ∀ p : Nat, p < 12 → ∀ w w' : Nat, w < 3 → w' < 3 → (A (3 * p + w)).toInt ≤ (B (3 * p + w')).toInt + (chg p).toInt ∧ (A (3 * p + w)).toInt ≤ (A (3 * p + w')).toInt + (chg p).toInt) ?_ (fun A h => Sf.ok h)
  refine Sf.loop2 (NO chg T B) (fun z2 z3 => muUp z2) (fun z2 A h => ?_) (show NO chg T B 0 B from ⟨⟨by decide, by decide⟩, hB, fun v hv => ⟨hTB v hv, Int.le_refl _⟩, fun v _ _ => rfl, fun p hp => absurd hp (Nat.not_lt_zero p)⟩) (muUp_n hn)
  obtain ⟨h0, h1, h2, h3, h4⟩ := h
  unfold fX5_nearByChanges_s2
  refine Sf.ite (fun hc => ?_) (fun hc => ?_)
  · refine Sf.inr ⟨h1, h2, fun p hp => h4 p ?_ hp⟩
    have a := i32_cl h0.1
    have b := Int32.le_iff_toInt_le.mp hc
    have e : (12 : Int32).toInt = 12 := by decide
    omega
  · obtain ⟨p0, p1, p2⟩ := up1 h0.1 (by decide) hc
    have hp : 0 ≤ z2 ∧ z2 ≤ 11 := by clear h1 h2 h3 h4; grind
    have hp12 := p_of hp
    obtain ⟨hi, he⟩ := ix3' hp (w := 0) ⟨by decide, by decide⟩
    have ez : z2 * 3 + 0 = z2 * 3 := by grind
    have en : (0 : Int32).toNatClampNeg = 0 := by decide
    rw [ez] at hi he
    rw [en] at he
    have hi0 := hi
    have he0 := he
    refine Sf.rdb 36 rfl hi0 (fun v6 e6 => ?_)
    rw [he0] at e6
    refine Sf.bind (NC1 hn hp e6) ?_
    intro m hm
    obtain ⟨hm1, wm, hwm, hm2⟩ := hm
    refine Sf.rdb 12 rfl ⟨hp.1, p2⟩ (fun c ec_ => ?_)
    have bc : 0 ≤ c ∧ c ≤ 99 := by rw [ec_]; exact hch _ hp12
    have z0 : (0 : Int32).toInt = 0 := by decide
    have z9 : (99 : Int32).toInt = 99 := by decide
    have zm : (1000000 : Int32).toInt = 1000000 := by decide
    have zx : (1100000 : Int32).toInt = 1100000 := by decide
    have ac := i32_b bc
    have am_ : 0 ≤ m ∧ m ≤ 1000000 := by rw [hm2]; exact h1 _ (by omega)
    have am2 := i32_b am_
    rw [z0, z9] at ac
    rw [z0, zm] at am2
    have ex : (m + c).toInt = m.toInt + c.toInt := i32_add (by omega) (by omega)
    have hx0 : 0 ≤ m + c ∧ m + c ≤ 1100000 := ⟨Int32.le_iff_toInt_le.mpr (by rw [ex, z0]; omega), Int32.le_iff_toInt_le.mpr (by rw [ex, zx]; omega)⟩
    have hmx : m ≤ m + c := Int32.le_iff_toInt_le.mpr (by rw [ex]; omega)
    have hTx : ∀ w : Nat, w < 3 → (T (3 * z2.toNatClampNeg + w)).toInt ≤ (m + c).toInt := by
      intro w hw
      have a := hTc _ hp12 w wm hw hwm
      have b := h2 (3 * z2.toNatClampNeg + wm) (by omega)
      rw [ex, hm2, ec_]
      omega
    refine Sf.bind (NC2 (T := T) hn hp rfl hx0 hmx h1 (fun v hv => (h2 v hv).1) hTx hm1) ?_
    intro A2 hA2
    obtain ⟨k1, k2, k3, k4, k5⟩ := hA2
    refine Sf.inl (show NO chg T B (z2 + 1) A2 from ⟨⟨p0, ?_⟩, k1, fun v hv => ?_, fun v hv hz => ?_, fun p hpz hp2 w w' hw hw' => ?_⟩) (muUp_lt hc)
    · clear h1 h2 h3 h4 k1 k2 k3 k4 k5 hTx hm1 hm2 e6; grind
    · have a := h2 v hv
      have b := k2 v hv
      omega
    · rw [p1] at hz
      rw [k4 v hv (by omega)]
      exact h3 v hv (by omega)
    · rw [p1] at hpz
      by_cases hpe : p = z2.toNatClampNeg
      · subst hpe
        have a := Int32.le_iff_toInt_le.mp (k3 w hw)
        rw [ex] at a
        have b := Int32.le_iff_toInt_le.mp (hm1 w' hw')
        have c1 := h3 (3 * z2.toNatClampNeg + w') (by omega) (by omega)
        have d := Int32.le_iff_toInt_le.mp (k5 w' hw')
        rw [← c1, ← ec_]
        omega
      · have q := h4 p (by omega) hp2 w w' hw hw'
        rw [k4 (3 * p + w) (by omega) (by omega), k4 (3 * p + w') (by omega) (by omega)]
        exact q
end
section
/-! the class's search: all passes -/
def EdC (ec : Nat) (eA eB eC chg : Nat → Int32) (u v : Nat) (c : Int) : Prop :=
  (∃ e : Nat, e < ec ∧ c = (eC e).toInt ∧ ((u = (eA e).toNatClampNeg ∧ v = (eB e).toNatClampNeg) ∨ (u = (eB e).toNatClampNeg ∧ v = (eA e).toNatClampNeg))) ∨
  (∃ p w w' : Nat, p < 12 ∧ w < 3 ∧ w' < 3 ∧ u = 3 * p + w ∧ v = 3 * p + w' ∧ c = (chg p).toInt)
/-- T is the least costs to G, 1000000 where there is no way -/
def TF (D : Nat → Nat → Int → Prop) (G : Nat → Prop) (T : Nat → Int32) : Prop := A6 T ∧ (∀ u, G u → T u = 0) ∧ FxD D T ∧ ∀ u, u < 36 → (T u).toInt < 1000000 → ∃ k, Wk D G k u (T u).toInt
def CF (chg A : Nat → Int32) : Prop := ∀ p : Nat, p < 12 → ∀ w w' : Nat, w < 3 → w' < 3 → (A (3 * p + w)).toInt ≤ (A (3 * p + w')).toInt + (chg p).toInt
def IA (G : Nat → Prop) (chg T : Nat → Int32) (z : Int32) (A : Nat → Int32) : Prop :=
  (0 ≤ z ∧ z ≤ 36) ∧ A6 A ∧ (∀ v, v < 36 → (T v).toInt ≤ (A v).toInt) ∧ CF chg A ∧ (∀ u, u < 36 → G u → A u = 0) ∧ ((∀ v, v < 36 → (A v).toInt = (T v).toInt) ∨ z.toNatClampNeg + 1 ≤ cn (fun v => (A v).toInt = (T v).toInt))
theorem EdC.d {ec : Nat} {eA eB eC chg : Nat → Int32} (hA : AI 0 35 eA) (hB : AI 0 35 eB) (hC : ∀ e, e < ec → 0 ≤ eC e ∧ eC e ≤ 999) (hch : C12 chg) : ∀ u v c, EdC ec eA eB eC chg u v c → u < 36 ∧ v < 36 ∧ c ≤ 999 := by
  intro u v c h
  have lt : ∀ x : Int32, 0 ≤ x ∧ x ≤ 35 → x.toNatClampNeg < 36 := fun x hx => i32_lt (M := 36) rfl ⟨hx.1, Int32.lt_of_le_of_lt hx.2 (by decide)⟩
  rcases h with ⟨e, he, rfl, ⟨rfl, rfl⟩ | ⟨rfl, rfl⟩⟩ | ⟨p, w, w', hp, hw, hw', rfl, rfl, rfl⟩
  · exact ⟨lt _ (hA e), lt _ (hB e), by have := (i32_b (hC e he)).2; have e9 : (999 : Int32).toInt = 999 := by decide
                                        omega⟩
  · exact ⟨lt _ (hB e), lt _ (hA e), by have := (i32_b (hC e he)).2; have e9 : (999 : Int32).toInt = 999 := by decide
                                        omega⟩
  · refine ⟨by omega, by omega, ?_⟩
    have := (i32_b (hch p hp)).2
    have e9 : (99 : Int32).toInt = 99 := by decide
    omega
theorem aimL {n : Nat} {G : Nat → Prop} {eA eB eC eL chg T st nd op : Nat → Int32} {sc oc ec p1 : Int32} {sn : Int64} (hn : 1000000000000 ≤ n) (hA : AI 0 35 eA) (hB : AI 0 35 eB) (hec : 0 ≤ ec ∧ ec ≤ 60) (hC : ∀ e, e < ec.toNatClampNeg → 0 ≤ eC e ∧ eC e ≤ 999) (hch : C12 chg) (hG36 : ∀ u, G u → u < 36) (hT : TF (EdC ec.toNatClampNeg eA eB eC chg) G T) {A0 : Nat → Int32} (h0 : IA G chg T 0 A0) : Sf (lp (u2 (fX5_aimAt_s49 n p1 eA eB eC eL chg st nd sc op oc sn ec)) n (0, A0)) (fun A => A6 A ∧ ∀ v, v < 36 → A v = T v) := by
  obtain ⟨t1, t2, t3, t4⟩ := hT
  have hD := EdC.d hA hB hC hch
  have hC2 : ∀ e, e < ec.toNatClampNeg → 0 ≤ eC e ∧ eC e ≤ 1000 := fun e he => ⟨(hC e he).1, Int32.le_trans (hC e he).2 (by decide)⟩
  have hTe : ∀ e, e < ec.toNatClampNeg → (T (eA e).toNatClampNeg).toInt ≤ (T (eB e).toNatClampNeg).toInt + (eC e).toInt ∧ (T (eB e).toNatClampNeg).toInt ≤ (T (eA e).toNatClampNeg).toInt + (eC e).toInt := fun e he => ⟨t3 _ _ _ (Or.inl ⟨e, he, rfl, Or.inl ⟨rfl, rfl⟩⟩), t3 _ _ _ (Or.inl ⟨e, he, rfl, Or.inr ⟨rfl, rfl⟩⟩)⟩
  have hTc : ∀ p : Nat, p < 12 → ∀ w w' : Nat, w < 3 → w' < 3 → (T (3 * p + w)).toInt ≤ (T (3 * p + w')).toInt + (chg p).toInt := fun p hp w w' hw hw' => t3 _ _ _ (Or.inr ⟨p, w, w', hp, hw, hw', rfl, rfl, rfl⟩)
  have zm : (1000000 : Int32).toInt = 1000000 := by decide
  refine Sf.loop2 (IA G chg T) (fun z9 z10 => muUp z9) (fun z9 A h => ?_) h0 (muUp_n hn)
  obtain ⟨i0, i1, i2, i3, i4, i5⟩ := h
  unfold fX5_aimAt_s49
  refine Sf.ite (fun hc => ?_) (fun hc => ?_)
  · refine Sf.inr ⟨i1, fun v hv => Int32.toInt_inj.mp ?_⟩
    rcases i5 with h | h
    · exact h v hv
    · have q := cn_le (fun v => (A v).toInt = (T v).toInt)
      have a := i32_cl i0.1
      have b := Int32.le_iff_toInt_le.mp hc
      have e : (36 : Int32).toInt = 36 := by decide
      omega
  · obtain ⟨p0, p1', p2⟩ := up1 i0.1 (by decide) hc
    refine Sf.bind (NLf (T := T) hn hA hB hec hC2 hTe i1 i2) ?_
    rintro ⟨v13, g14⟩ hr
    obtain ⟨r1, r2, r3, r4, r5⟩ := hr
    have r1 : v13 = 0 ∨ v13 = 1 := r1
    have r2 : A6 g14 := r2
    have r3 : ∀ v, v < 36 → (T v).toInt ≤ (g14 v).toInt ∧ (g14 v).toInt ≤ (A v).toInt := r3
    have r4 : ∀ e, e < ec.toNatClampNeg → (g14 (eB e).toNatClampNeg).toInt ≤ (A (eA e).toNatClampNeg).toInt + (eC e).toInt ∧ (g14 (eA e).toNatClampNeg).toInt ≤ (A (eB e).toNatClampNeg).toInt + (eC e).toInt := r4
    have r5 : v13 = 0 → g14 = A := r5
    dsimp only [u2]
    refine Sf.ite (fun hv => ?_) (fun hv => ?_)
    · have eg := r5 hv
      subst eg
      have hF : FxD (EdC ec.toNatClampNeg eA eB eC chg) g14 := by
        intro u v c h
        rcases h with ⟨e, he, rfl, ⟨rfl, rfl⟩ | ⟨rfl, rfl⟩⟩ | ⟨p, w, w', hp, hw, hw', rfl, rfl, rfl⟩
        · exact (r4 e he).2
        · exact (r4 e he).1
        · exact i3 p hp w w' hw hw'
      refine Sf.inr ⟨i1, fun v hv2 => Int32.toInt_inj.mp ?_⟩
      have a := i2 v hv2
      have b := (i32_b (i1 v hv2)).2
      by_cases hl : (T v).toInt < 1000000
      · obtain ⟨k, hk⟩ := t4 v hv2 hl
        have q := Wk.le hF (fun u hu => i4 u (hG36 u hu) hu) k v _ hk
        omega
      · rw [zm] at b
        have c := (i32_b (t1 v hv2)).2
        omega
    · refine Sf.bind (NCf (T := T) hn hch r2 (fun v hv2 => (r3 v hv2).1) hTc) ?_
      intro A2 hA2
      obtain ⟨k1, k2, k3⟩ := hA2
      have hP : Pass (EdC ec.toNatClampNeg eA eB eC chg) T A A2 := by
        refine ⟨fun v hv2 => ?_, fun u v c h => ?_⟩
        · have a := k2 v hv2
          have b := r3 v hv2
          omega
        · have hd := hD u v c h
          rcases h with ⟨e, he, rfl, ⟨rfl, rfl⟩ | ⟨rfl, rfl⟩⟩ | ⟨p, w, w', hp, hw, hw', rfl, rfl, rfl⟩
          · have a := (k2 _ hd.1).2
            have b := (r4 e he).2
            omega
          · have a := (k2 _ hd.1).2
            have b := (r4 e he).1
            omega
          · have a := (k3 p hp w w' hw hw').1
            have b := (r3 _ hd.2.1).2
            omega
      refine Sf.inl (show IA G chg T (z9 + 1) A2 from ⟨⟨p0, ?_⟩, k1, fun v hv2 => (k2 v hv2).1, fun p hp w w' hw hw' => (k3 p hp w w' hw hw').2, fun u hu hg => ?_, ?_⟩) (muUp_lt hc)
      · clear i1 i2 i3 i4 i5 r2 r3 r4 r5 k1 k2 k3 hP hD t1 t2 t3 t4 hTe hTc hC hC2
        grind
      · have a := hP.1 u hu
        rw [i4 u hu hg] at a
        rw [t2 u hg] at a
        have z0 : (0 : Int32).toInt = 0 := by decide
        exact Int32.toInt_inj.mp (by omega)
      · by_cases hall : ∀ v, v < 36 → (A v).toInt = (T v).toInt
        · refine Or.inl fun v hv2 => ?_
          have a := hP.1 v hv2
          have b := hall v hv2
          omega
        · refine Or.inr ?_
          have hx : ∃ v, v < 36 ∧ (A v).toInt ≠ (T v).toInt := by
            refine Classical.byContradiction fun hno => hall fun v hv2 => ?_
            exact Classical.byContradiction fun hne => hno ⟨v, hv2, hne⟩
          obtain ⟨u, hu, hne⟩ := hx
          have q := Pass.more hD t3 t2 (fun u hg => i4 u (hG36 u hg) hg) t4 (fun u hu => by have := (i32_b (i1 u hu)).2; rw [zm] at this; exact this) i2 hP hu hne
          rcases i5 with h | h
          · exact absurd (h u hu) hne
          · rw [p1']
            omega
def IZ (p : Nat) (z : Int32) (A : Nat → Int32) : Prop := 0 ≤ z ∧ ∀ v, v < 36 → A v = if v / 3 = p ∧ v % 3 < z.toNatClampNeg then 0 else 1000000
theorem aimZ {n : Nat} {p1 : Int32} {f : Nat → Int32} (hn : 1000000000000 ≤ n) (hp : 0 ≤ p1 ∧ p1 ≤ 11) (hf : ∀ v, v < 36 → f v = 1000000) : Sf (lp (u2 (fX5_aimAt_s25 p1)) n (0, f)) (fun A => ∀ v, v < 36 → A v = if v / 3 = p1.toNatClampNeg then 0 else 1000000) := by
  refine Sf.loop2 (IZ p1.toNatClampNeg) (fun z4 z5 => muUp z4) (fun z A h => ?_) (show IZ p1.toNatClampNeg 0 f from ⟨Int32.le_refl 0, fun v hv => ?_⟩) (muUp_n hn)
  · obtain ⟨h0, h1⟩ := h
    unfold fX5_aimAt_s25
    refine Sf.ite (fun hc => ?_) (fun hc => ?_)
    · refine Sf.inr fun v hv => ?_
      rw [h1 v hv]
      have q := c3 h0 hc (w := v % 3) (by omega)
      by_cases hq : v / 3 = p1.toNatClampNeg
      · rw [if_pos ⟨hq, q⟩, if_pos hq]
      · rw [if_neg (fun x => hq x.1), if_neg hq]
    · obtain ⟨p0, p1', p2⟩ := up1 h0 (by decide) hc
      obtain ⟨hi, he⟩ := ix3' hp ⟨h0, p2⟩
      have hw := (w_of ⟨h0, p2⟩).2
      refine Sf.wrb 36 rfl hi (fun f18 e18 => ?_)
      rw [he] at e18
      subst e18
      refine Sf.inl (show IZ p1.toNatClampNeg (z + 1) (va_up A (3 * p1.toNatClampNeg + z.toNatClampNeg) 0) from ⟨p0, fun v hv => ?_⟩) (muUp_lt hc)
      rw [p1']
      by_cases hv2 : v = 3 * p1.toNatClampNeg + z.toNatClampNeg
      · subst hv2
        rw [va_up_self, if_pos ⟨by omega, by omega⟩]
      · rw [va_up_ne _ _ hv2, h1 v hv]
        by_cases hq : v / 3 = p1.toNatClampNeg ∧ v % 3 < z.toNatClampNeg
        · rw [if_pos hq, if_pos ⟨hq.1, by omega⟩]
        · rw [if_neg hq, if_neg (fun x => hq ⟨x.1, by omega⟩)]
  · show f v = _
    rw [hf v hv, if_neg (fun x => absurd x.2 (Nat.not_lt_zero _))]
theorem aimS {n : Nat} {eA eB eC eL chg aw T st nd op : Nat → Int32} {sc oc ec am p1 : Int32} {sn : Int64} (hn : 1000000000000 ≤ n) (hA : AI 0 35 eA) (hB : AI 0 35 eB) (hec : 0 ≤ ec ∧ ec ≤ 60) (hC : ∀ e, e < ec.toNatClampNeg → 0 ≤ eC e ∧ eC e ≤ 999) (hch : C12 chg) (hp : 0 ≤ p1 ∧ p1 ≤ 11) (hT : TF (EdC ec.toNatClampNeg eA eB eC chg) (fun u => u / 3 = p1.toNatClampNeg) T) (ham : am = p1 → ∀ v, v < 36 → aw v = T v) : Sf (fX5_aimAt n (eA, eB, eC, eL, chg, aw, st, nd, sc, op, oc, sn, ec, am) p1) (fun r => (∀ v, v < 36 → r.1 v = T v) ∧ r.2 = p1) := by
  have hp12 := p_of hp
  unfold fX5_aimAt
  dsimp only [u14]
  refine Sf.ite (fun hc => ?_) (fun hc => ?_)
  · exact Sf.ok ⟨ham hc, hc⟩
  · refine Sf.bind (sJ7_fill hn (by decide)) ?_
    intro g1 e1
    refine Sf.bind (aimZ hn hp (f := g1) (fun v hv => by rw [e1 v, if_pos hv])) ?_
    intro w7 e7
    have hT2 := hT
    obtain ⟨t1, t2, t3, t4⟩ := hT2
    have h0 : IA (fun u => u / 3 = p1.toNatClampNeg) chg T 0 w7 := by
      have z0 : (0 : Int32).toInt = 0 := by decide
      have zm : (1000000 : Int32).toInt = 1000000 := by decide
      refine ⟨⟨by decide, by decide⟩, fun v hv => ?_, fun v hv => ?_, fun p hp2 w w' hw hw' => ?_, fun u hu hg => ?_, Or.inr ?_⟩
      · rw [e7 v hv]
        split
        · decide
        · decide
      · rw [e7 v hv]
        by_cases hg : v / 3 = p1.toNatClampNeg
        · rw [if_pos hg, t2 v hg]
          exact Int.le_refl _
        · rw [if_neg hg]
          exact (i32_b (t1 v hv)).2
      · rw [e7 _ (by omega), e7 _ (by omega)]
        have ea : (3 * p + w) / 3 = p := by omega
        have eb : (3 * p + w') / 3 = p := by omega
        rw [ea, eb]
        have q := (i32_b (hch p hp2)).1
        rw [z0] at q
        omega
      · have hg : u / 3 = p1.toNatClampNeg := hg
        rw [e7 u hu, if_pos hg]
      · have e0 : (0 : Int32).toNatClampNeg = 0 := by decide
        rw [e0]
        refine cn_pos (x := 3 * p1.toNatClampNeg) (by omega) ?_
        have hg : (3 * p1.toNatClampNeg) / 3 = p1.toNatClampNeg := by omega
        show (w7 (3 * p1.toNatClampNeg)).toInt = (T (3 * p1.toNatClampNeg)).toInt
        rw [e7 _ (by omega), if_pos hg, t2 _ hg]
    refine Sf.bind (aimL (T := T) (G := fun u => u / 3 = p1.toNatClampNeg) hn hA hB hec hC hch (fun u hu => ?_) hT h0) ?_
    · have hu : u / 3 = p1.toNatClampNeg := hu
      omega
    · intro w12 h12
      exact Sf.ok ⟨h12.2, rfl⟩
end
section
/-! the class's edges are the land's lines in their widths -/
theorem ix7 {z c : Int32} (hz : 0 ≤ z ∧ z < 20) (hc : 0 ≤ c ∧ c < 7) : (0 ≤ z * 7 + c ∧ z * 7 + c < 140) ∧ (z * 7 + c).toNatClampNeg = 7 * z.toNatClampNeg + c.toNatClampNeg := by
  have z0 : (0 : Int32).toInt = 0 := by decide
  have e20 : (20 : Int32).toInt = 20 := by decide
  have e7 : (7 : Int32).toInt = 7 := by decide
  have e140 : (140 : Int32).toInt = 140 := by decide
  have a := Int32.le_iff_toInt_le.mp hz.1
  have b := Int32.lt_iff_toInt_lt.mp hz.2
  have c1 := Int32.le_iff_toInt_le.mp hc.1
  have c2 := Int32.lt_iff_toInt_lt.mp hc.2
  rw [z0] at a c1
  rw [e20] at b
  rw [e7] at c2
  have m : (z * 7).toInt = z.toInt * 7 := by rw [i32_mul (by rw [e7]; omega) (by rw [e7]; omega), e7]
  have s : (z * 7 + c).toInt = z.toInt * 7 + c.toInt := by rw [i32_add (by rw [m]; omega) (by rw [m]; omega), m]
  have h0 : 0 ≤ z * 7 + c := Int32.le_iff_toInt_le.mpr (by rw [s, z0]; omega)
  refine ⟨⟨h0, Int32.lt_iff_toInt_lt.mpr (by rw [s, e140]; omega)⟩, ?_⟩
  have p := i32_cl h0
  have q := i32_cl hz.1
  have r := i32_cl hc.1
  omega
theorem ofLineV {lc gc wc yr ik z c : Int32} {lines goods works chg coin kf : Nat → Int32} (hz : 0 ≤ z ∧ z < 20) (hc : 0 ≤ c ∧ c < 7) : Sf (fX1_ofLine (lc, gc, wc, yr, lines, goods, works, chg, coin, kf, ik) z c) (fun r => r = lines (7 * z.toNatClampNeg + c.toNatClampNeg)) := by
  unfold fX1_ofLine
  dsimp only [u11]
  obtain ⟨hi, he⟩ := ix7 hz hc
  refine Sf.rdb 140 rfl hi (fun v e => ?_)
  rw [he] at e
  exact Sf.ok e
def Us (lines : Nat → Int32) (p2 : Int32) (l w : Nat) : Prop := ¬ ((p2 >>> (Int32.ofNat l &&& 31)) &&& 1) = 0 ∧ ¬ ((lines (7 * l + 2) >>> (Int32.ofNat w &&& 31)) &&& 1) = 0
def Eg (lines coin : Nat → Int32) (l w : Nat) (a b c : Int32) : Prop := a.toNatClampNeg = 3 * (lines (7 * l + 0)).toNatClampNeg + w ∧ b.toNatClampNeg = 3 * (lines (7 * l + 1)).toNatClampNeg + w ∧ c = lines (7 * l + 3) * coin w
def EgOk (lines coin : Nat → Int32) (p2 : Int32) (Q : Nat → Nat → Prop) (eA eB eC : Nat → Int32) (ec : Nat) : Prop :=
  (∀ e : Nat, e < ec → ∃ l w, Q l w ∧ w < 3 ∧ Us lines p2 l w ∧ Eg lines coin l w (eA e) (eB e) (eC e)) ∧ (∀ l w, Q l w → w < 3 → Us lines p2 l w → ∃ e, e < ec ∧ Eg lines coin l w (eA e) (eB e) (eC e))
theorem EgOk.same {lines coin : Nat → Int32} {p2 : Int32} {Q Q' : Nat → Nat → Prop} {eA eB eC : Nat → Int32} {ec : Nat} (h : EgOk lines coin p2 Q eA eB eC ec) (h1 : ∀ l w, Q l w → Q' l w) (h2 : ∀ l w, Q' l w → w < 3 → Us lines p2 l w → Q l w) : EgOk lines coin p2 Q' eA eB eC ec := by
  refine ⟨fun e he => ?_, fun l w hq hw hu => ?_⟩
  · obtain ⟨l, w, a, b⟩ := h.1 e he
    exact ⟨l, w, h1 l w a, b⟩
  · exact h.2 l w (h2 l w hq hw hu) hw hu
theorem EgOk.add {lines coin : Nat → Int32} {p2 : Int32} {Q Q' : Nat → Nat → Prop} {eA eB eC : Nat → Int32} {ec : Nat} {L W : Nat} {a b c : Int32} (h : EgOk lines coin p2 Q eA eB eC ec) (hW : W < 3) (hU : Us lines p2 L W) (hE : Eg lines coin L W a b c) (h1 : ∀ l w, Q l w → Q' l w) (h3 : Q' L W) (h2 : ∀ l w, Q' l w → Q l w ∨ (l = L ∧ w = W)) : EgOk lines coin p2 Q' (va_up eA ec a) (va_up eB ec b) (va_up eC ec c) (ec + 1) := by
  refine ⟨fun e he => ?_, fun l w hq hw hu => ?_⟩
  · by_cases hee : e = ec
    · subst hee
      rw [va_up_self, va_up_self, va_up_self]
      exact ⟨L, W, h3, hW, hU, hE⟩
    · obtain ⟨l, w, q1, q2⟩ := h.1 e (by omega)
      rw [va_up_ne _ _ hee, va_up_ne _ _ hee, va_up_ne _ _ hee]
      exact ⟨l, w, h1 l w q1, q2⟩
  · rcases h2 l w hq with hq | ⟨rfl, rfl⟩
    · obtain ⟨e, he, q⟩ := h.2 l w hq hw hu
      refine ⟨e, by omega, ?_⟩
      have hee : e ≠ ec := by omega
      rw [va_up_ne _ _ hee, va_up_ne _ _ hee, va_up_ne _ _ hee]
      exact q
    · refine ⟨ec, by omega, ?_⟩
      rw [va_up_self, va_up_self, va_up_self]
      exact hE
theorem lnR {lines : Nat → Int32} (h : LnOk lines) (l : Nat) : (0 ≤ lines (7 * l + 0) ∧ lines (7 * l + 0) ≤ 11) ∧ (0 ≤ lines (7 * l + 1) ∧ lines (7 * l + 1) ≤ 11) ∧ (0 ≤ lines (7 * l + 3) ∧ lines (7 * l + 3) ≤ 60) := by
  have a := h (7 * l + 0)
  have b := h (7 * l + 1)
  have c := h (7 * l + 3)
  have ea : (7 * l + 0) % 7 = 0 := by omega
  have eb : (7 * l + 1) % 7 = 1 := by omega
  have ec : (7 * l + 3) % 7 = 3 := by omega
  rw [ea] at a
  rw [eb] at b
  rw [ec] at c
  exact ⟨a, b, c⟩
theorem mc9 {a b : Int32} (ha : 0 ≤ a ∧ a ≤ 60) (hb : 0 ≤ b ∧ b ≤ 9) : 0 ≤ a * b ∧ a * b ≤ 999 := by
  have z0 : (0 : Int32).toInt = 0 := by decide
  have z6 : (60 : Int32).toInt = 60 := by decide
  have z9 : (9 : Int32).toInt = 9 := by decide
  have zz : (999 : Int32).toInt = 999 := by decide
  have p := i32_b ha
  have q := i32_b hb
  rw [z0, z6] at p
  rw [z0, z9] at q
  have m1 : a.toInt * b.toInt ≤ 60 * 9 := Int.mul_le_mul p.2 q.2 q.1 (by decide)
  have m0 : 0 ≤ a.toInt * b.toInt := Int.mul_nonneg p.1 q.1
  have e : (a * b).toInt = a.toInt * b.toInt := i32_mul (by omega) (by omega)
  exact ⟨Int32.le_iff_toInt_le.mpr (by rw [e, z0]; omega), Int32.le_iff_toInt_le.mpr (by rw [e, zz]; omega)⟩
theorem zshr {w : Int32} (hw : 0 ≤ w ∧ w < 3) : (((0 : Int32) >>> (w &&& 31)) &&& 1) = 0 := by
  have h : w = 0 ∨ w = 1 ∨ w = 2 := by grind
  rcases h with h | h | h <;> subst h <;> decide
def PI (lines coin : Nat → Int32) (p2 z3 z17 : Int32) (eA eB eC eL : Nat → Int32) (ec : Int32) : Prop :=
  (0 ≤ z17 ∧ z17 ≤ 3) ∧ 0 ≤ ec ∧ ec.toNatClampNeg ≤ 3 * z3.toNatClampNeg + z17.toNatClampNeg ∧ AI 0 35 eA ∧ AI 0 35 eB ∧ (∀ e, e < ec.toNatClampNeg → 0 ≤ eC e ∧ eC e ≤ 999) ∧ EgOk lines coin p2 (fun l w => l < z3.toNatClampNeg ∨ (l = z3.toNatClampNeg ∧ w < z17.toNatClampNeg)) eA eB eC ec.toNatClampNeg
def PO (lines coin : Nat → Int32) (p2 z3 : Int32) (eA eB eC eL : Nat → Int32) (ec : Int32) : Prop :=
  0 ≤ z3 ∧ 0 ≤ ec ∧ ec.toNatClampNeg ≤ 3 * z3.toNatClampNeg ∧ AI 0 35 eA ∧ AI 0 35 eB ∧ (∀ e, e < ec.toNatClampNeg → 0 ≤ eC e ∧ eC e ≤ 999) ∧ EgOk lines coin p2 (fun l _ => l < z3.toNatClampNeg) eA eB eC ec.toNatClampNeg
theorem prepI {n : Nat} {lc gc wc yr ik p2 z3 y : Int32} {lines goods works chg coin kf eA eB eC eL : Nat → Int32} {ec : Int32} (hn : 1000000000000 ≤ n) (hl : LnOk lines) (hco : AI 0 9 coin) (hz : 0 ≤ z3 ∧ z3 < 20) (hy : (¬ ((p2 >>> (z3 &&& 31)) &&& 1) = 0 ∧ y = lines (7 * z3.toNatClampNeg + 2)) ∨ (((p2 >>> (z3 &&& 31)) &&& 1) = 0 ∧ y = 0)) (h : PO lines coin p2 z3 eA eB eC eL ec) : Sf (lp (u6 (fX5_prepare_s58 lc gc wc yr lines goods works chg coin kf ik z3 y)) n (0, eA, eB, eC, eL, ec)) (fun r => PO lines coin p2 (z3 + 1) r.1 r.2.1 r.2.2.1 r.2.2.2.1 r.2.2.2.2) := by
  have e3 : Int32.ofNat z3.toNatClampNeg = z3 := Int32.ofNat_toNatClampNeg z3 hz.1
  have hz20 : z3.toNatClampNeg < 20 := i32_lt (M := 20) rfl hz
  obtain ⟨q0, q1, q2⟩ := up1 (B := 20) hz.1 (by decide) (Int32.not_le.mpr hz.2)
  have hI : PI lines coin p2 z3 0 eA eB eC eL ec := by
    obtain ⟨h0, h1, h2, h3, h4, h5, h6⟩ := h
    refine ⟨⟨by decide, by decide⟩, h1, by omega, h3, h4, h5, h6.same (fun l w q => Or.inl q) (fun l w q hw hu => ?_)⟩
    rcases q with q | ⟨q, q2⟩
    · exact q
    · exact absurd q2 (Nat.not_lt_zero _)
  refine Sf.loop6 (PI lines coin p2 z3) (fun z17 _ _ _ _ _ => muUp z17) (fun z17 a b c l ec h => ?_) hI (muUp_n hn)
  obtain ⟨h0, h1, h2, h3, h4, h5, h6⟩ := h
  have n17 : z17.toNatClampNeg ≤ 3 := by
    have p := i32_cl h0.1
    have q := Int32.le_iff_toInt_le.mp h0.2
    have e : (3 : Int32).toInt = 3 := by decide
    omega
  unfold fX5_prepare_s58
  refine Sf.ite (fun hc => ?_) (fun hc => ?_)
  · refine Sf.inr ⟨q0, h1, by rw [q1]; show ec.toNatClampNeg ≤ _; omega, h3, h4, h5, h6.same (fun l w q => ?_) (fun l w q hw hu => ?_)⟩
    · show l < (z3 + 1).toNatClampNeg
      rw [q1]
      omega
    · have q : l < (z3 + 1).toNatClampNeg := q
      rw [q1] at q
      have r := c3 h0.1 hc hw
      show l < z3.toNatClampNeg ∨ (l = z3.toNatClampNeg ∧ w < z17.toNatClampNeg)
      omega
  · obtain ⟨p0, p1, p2'⟩ := up1 h0.1 (by decide) hc
    have hw : 0 ≤ z17 ∧ z17 < 3 := ⟨h0.1, p2'⟩
    obtain ⟨ew, hw3⟩ := w_of hw
    have p3 : z17 + 1 ≤ 3 := by clear h1 h2 h3 h4 h5 h6 hI h hy; grind
    refine Sf.ite (fun hb => ?_) (fun hb => ?_)
    · refine Sf.inl (show PI lines coin p2 z3 (z17 + 1) a b c l ec from ⟨⟨p0, p3⟩, h1, by rw [p1]; omega, h3, h4, h5, h6.same (fun l w q => ?_) (fun l w q hw' hu => ?_)⟩) (muUp_lt hc)
      · show l < z3.toNatClampNeg ∨ (l = z3.toNatClampNeg ∧ w < (z17 + 1).toNatClampNeg)
        rw [p1]
        have q : l < z3.toNatClampNeg ∨ (l = z3.toNatClampNeg ∧ w < z17.toNatClampNeg) := q
        omega
      · have q : l < z3.toNatClampNeg ∨ (l = z3.toNatClampNeg ∧ w < (z17 + 1).toNatClampNeg) := q
        rw [p1] at q
        show l < z3.toNatClampNeg ∨ (l = z3.toNatClampNeg ∧ w < z17.toNatClampNeg)
        by_cases hx : l = z3.toNatClampNeg ∧ w = z17.toNatClampNeg
        · obtain ⟨rfl, rfl⟩ := hx
          obtain ⟨u1, u2⟩ := hu
          rw [e3] at u1
          rw [ew] at u2
          rcases hy with ⟨_, ey⟩ | ⟨hz0, _⟩
          · rw [ey] at hb
            exact absurd hb u2
          · exact absurd hz0 u1
        · omega
    · have hy2 : ¬ ((p2 >>> (z3 &&& 31)) &&& 1) = 0 ∧ y = lines (7 * z3.toNatClampNeg + 2) := by
        rcases hy with hy | ⟨_, ey⟩
        · exact hy
        · rw [ey] at hb
          exact absurd (zshr hw) hb
      have hU : Us lines p2 z3.toNatClampNeg z17.toNatClampNeg := by
        refine ⟨?_, ?_⟩
        · rw [e3]; exact hy2.1
        · rw [ew, ← hy2.2]; exact hb
      have e0 : (0 : Int32).toNatClampNeg = 0 := by decide
      have e1 : (1 : Int32).toNatClampNeg = 1 := by decide
      have e3' : (3 : Int32).toNatClampNeg = 3 := by decide
      have hec : 0 ≤ ec ∧ ec < 60 := by
        refine ⟨h1, Int32.lt_iff_toInt_lt.mpr ?_⟩
        have p := i32_cl h1
        have e : (60 : Int32).toInt = 60 := by decide
        omega
      obtain ⟨g0, g1, _⟩ := up1 h1 (B := 60) (by decide) (Int32.not_le.mpr hec.2)
      obtain ⟨r0, r1, r3⟩ := lnR hl z3.toNatClampNeg
      refine Sf.bind (ofLineV hz ⟨by decide, by decide⟩) ?_
      intro v29 e29
      rw [e0] at e29
      have b29 : 0 ≤ v29 ∧ v29 ≤ 11 := by rw [e29]; exact r0
      obtain ⟨i29, n29⟩ := ix3' b29 hw
      refine Sf.wrb 60 rfl hec (fun f31 e31 => ?_)
      refine Sf.bind (ofLineV hz ⟨by decide, by decide⟩) ?_
      intro v32 e32
      rw [e1] at e32
      have b32 : 0 ≤ v32 ∧ v32 ≤ 11 := by rw [e32]; exact r1
      obtain ⟨i32, n32⟩ := ix3' b32 hw
      refine Sf.wrb 60 rfl hec (fun f34 e34 => ?_)
      refine Sf.bind (ofLineV hz ⟨by decide, by decide⟩) ?_
      intro v35 e35
      rw [e3'] at e35
      have b35 : 0 ≤ v35 ∧ v35 ≤ 60 := by rw [e35]; exact r3
      refine Sf.rdb 3 rfl hw (fun v37 e37 => ?_)
      have b37 : 0 ≤ v37 ∧ v37 ≤ 9 := by rw [e37]; exact hco _
      refine Sf.wrb 60 rfl hec (fun f38 e38 => ?_)
      refine Sf.wrb 60 rfl hec (fun f39 e39 => ?_)
      have lt36 : ∀ x : Int32, 0 ≤ x ∧ x < 36 → 0 ≤ x ∧ x ≤ 35 := by
        intro x hx
        refine ⟨hx.1, Int32.le_iff_toInt_le.mpr ?_⟩
        have q := Int32.lt_iff_toInt_lt.mp hx.2
        have ea : (36 : Int32).toInt = 36 := by decide
        have eb : (35 : Int32).toInt = 35 := by decide
        omega
      subst e31 e34 e38
      refine Sf.inl (show PI lines coin p2 z3 (z17 + 1) (va_up a ec.toNatClampNeg (v29 * 3 + z17)) (va_up b ec.toNatClampNeg (v32 * 3 + z17)) (va_up c ec.toNatClampNeg (v35 * v37)) f39 (ec + 1) from ⟨⟨p0, p3⟩, g0, by rw [p1, g1]; omega, AI.up h3 (lt36 _ i29), AI.up h4 (lt36 _ i32), fun e he => ?_, ?_⟩) (muUp_lt hc)
      · rw [g1] at he
        by_cases hee : e = ec.toNatClampNeg
        · subst hee
          rw [va_up_self]
          exact mc9 b35 b37
        · rw [va_up_ne _ _ hee]
          exact h5 e (by omega)
      · rw [g1]
        refine EgOk.add h6 hw3 hU ⟨?_, ?_, ?_⟩ (fun l w q => ?_) (Or.inr ⟨rfl, by rw [p1]; omega⟩) (fun l w q => ?_)
        · rw [n29, e29]
        · rw [n32, e32]
        · rw [e35, e37]
        · show l < z3.toNatClampNeg ∨ (l = z3.toNatClampNeg ∧ w < (z17 + 1).toNatClampNeg)
          rw [p1]
          have q : l < z3.toNatClampNeg ∨ (l = z3.toNatClampNeg ∧ w < z17.toNatClampNeg) := q
          omega
        · have q : l < z3.toNatClampNeg ∨ (l = z3.toNatClampNeg ∧ w < (z17 + 1).toNatClampNeg) := q
          rw [p1] at q
          show (l < z3.toNatClampNeg ∨ (l = z3.toNatClampNeg ∧ w < z17.toNatClampNeg)) ∨ (l = z3.toNatClampNeg ∧ w = z17.toNatClampNeg)
          omega
def PQ (lines coin chg : Nat → Int32) (lc p2 : Int32) (r : (Nat → Int32) × (Nat → Int32) × (Nat → Int32) × (Nat → Int32) × (Nat → Int32) × Int32 × Int32) : Prop :=
  r.2.2.2.2.2.2 = (-1) ∧ AI 0 35 r.1 ∧ AI 0 35 r.2.1 ∧ (0 ≤ r.2.2.2.2.2.1 ∧ r.2.2.2.2.2.1 ≤ 60) ∧ (∀ e, e < r.2.2.2.2.2.1.toNatClampNeg → 0 ≤ r.2.2.1 e ∧ r.2.2.1 e ≤ 999) ∧ (∀ k, k < 12 → r.2.2.2.2.1 k = chg k) ∧ EgOk lines coin p2 (fun l _ => l < lc.toNatClampNeg) r.1 r.2.1 r.2.2.1 r.2.2.2.2.2.1.toNatClampNeg
theorem prepS {n : Nat} {eA eB eC eL chg0 aw st nd op : Nat → Int32} {sc oc ec am : Int32} {sn : Int64} {lc gc wc yr ik p2 : Int32} {lines goods works chg coin kf : Nat → Int32} (hn : 1000000000000 ≤ n) (hl : LnOk lines) (hco : AI 0 9 coin) (hlc : 0 ≤ lc ∧ lc ≤ 20) (hA : AI 0 35 eA) (hB : AI 0 35 eB) : Sf (fX5_prepare n (eA, eB, eC, eL, chg0, aw, st, nd, sc, op, oc, sn, ec, am) (lc, gc, wc, yr, lines, goods, works, chg, coin, kf, ik) p2) (PQ lines coin chg lc p2) := by
  unfold fX5_prepare
  dsimp only [u14, u11]
  refine Sf.cpyb ⟨by decide, by decide, by decide⟩ (by decide) (by decide) (fun f1 e1 => ?_)
  have hch : ∀ k, k < 12 → f1 k = chg k := by
    intro k hk
    rw [e1]
    have ea : (0 : Int32).toNatClampNeg = 0 := by decide
    have eb : (12 : Int32).toNatClampNeg = 12 := by decide
    rw [ea, eb]
    unfold va_cpy
    rw [if_pos ⟨Nat.zero_le k, by omega⟩]
    congr 1
    omega
  have h0 : PO lines coin p2 0 eA eB eC eL 0 := ⟨Int32.le_refl 0, Int32.le_refl 0, Nat.zero_le _, hA, hB, fun e he => absurd he (Nat.not_lt_zero e), fun e he => absurd he (Nat.not_lt_zero e), fun l w hq => absurd hq (Nat.not_lt_zero l)⟩
  refine Sf.bind (P := fun r : (Nat → Int32) × (Nat → Int32) × (Nat → Int32) × (Nat → Int32) × Int32 => AI 0 35 r.1 ∧ AI 0 35 r.2.1 ∧ (0 ≤ r.2.2.2.2 ∧ r.2.2.2.2 ≤ 60) ∧ (∀ e, e < r.2.2.2.2.toNatClampNeg → 0 ≤ r.2.2.1 e ∧ r.2.2.1 e ≤ 999) ∧ EgOk lines coin p2 (fun l _ => l < lc.toNatClampNeg) r.1 r.2.1 r.2.2.1 r.2.2.2.2.toNatClampNeg) ?_ ?_
  · refine Sf.loop6 (fun z3 a b c l e => PO lines coin p2 z3 a b c l e ∧ z3 ≤ lc) (fun z3 _ _ _ _ _ => muUp z3) (fun z3 a b c l e h => ?_) ⟨h0, hlc.1⟩ (muUp_n hn)
    obtain ⟨h, hz⟩ := h
    have hh := h
    obtain ⟨h0, h1, h2, h3, h4, h5, h6⟩ := hh
    have nz := i32_cl h0
    have nl := i32_cl hlc.1
    have iz := Int32.le_iff_toInt_le.mp hz
    have e20 : (20 : Int32).toInt = 20 := by decide
    have il := Int32.le_iff_toInt_le.mp hlc.2
    have ne := i32_cl h1
    unfold fX5_prepare_s27
    refine Sf.ite (fun hc => ?_) (fun hc => ?_)
    · have ic := Int32.le_iff_toInt_le.mp hc
      have ez : z3.toNatClampNeg = lc.toNatClampNeg := by omega
      refine Sf.inr ⟨h3, h4, ⟨h1, Int32.le_iff_toInt_le.mpr ?_⟩, h5, ?_⟩
      · have e60 : (60 : Int32).toInt = 60 := by decide
        show e.toInt ≤ _
        omega
      · rw [← ez]
        exact h6
    · obtain ⟨p0, p1, p3⟩ := up1 h0 (Int32.le_trans hlc.2 (by decide)) hc
      have hz20 : 0 ≤ z3 ∧ z3 < 20 := ⟨h0, Int32.lt_of_lt_of_le p3 hlc.2⟩
      have hz1 : z3 + 1 ≤ lc := by
        have q := Int32.lt_iff_toInt_lt.mp p3
        have r := i32_cl p0
        exact Int32.le_iff_toInt_le.mpr (by omega)
      have go : ∀ y : Int32, ((¬ ((p2 >>> (z3 &&& 31)) &&& 1) = 0 ∧ y = lines (7 * z3.toNatClampNeg + 2)) ∨ (((p2 >>> (z3 &&& 31)) &&& 1) = 0 ∧ y = 0)) → Sf (fX5_prepare_j53 n lc gc wc yr lines goods works chg coin kf ik z3 a b c l e y) (LQ (u6 (fun z3 a b c l e => PO lines coin p2 z3 a b c l e ∧ z3 ≤ lc)) (u6 (fun z3 _ _ _ _ _ => muUp z3)) (muUp z3) (fun r : (Nat → Int32) × (Nat → Int32) × (Nat → Int32) × (Nat → Int32) × Int32 => AI 0 35 r.1 ∧ AI 0 35 r.2.1 ∧ (0 ≤ r.2.2.2.2 ∧ r.2.2.2.2 ≤ 60) ∧ (∀ e, e < r.2.2.2.2.toNatClampNeg → 0 ≤ r.2.2.1 e ∧ r.2.2.1 e ≤ 999) ∧ EgOk lines coin p2 (fun l _ => l < lc.toNatClampNeg) r.1 r.2.1 r.2.2.1 r.2.2.2.2.toNatClampNeg)) := by
        intro y hy
        unfold fX5_prepare_j53
        refine Sf.bind (prepI hn hl hco hz20 hy h) ?_
        rintro ⟨w24, w25, w26, w27, w28⟩ hr
        dsimp only [u5]
        exact Sf.inl ⟨hr, hz1⟩ (muUp_lt hc)
      refine Sf.ite (fun hb => ?_) (fun hb => ?_)
      · exact go 0 (Or.inr ⟨hb, rfl⟩)
      · refine Sf.bind (ofLineV hz20 ⟨by decide, by decide⟩) ?_
        intro v40 e40
        have e2 : (2 : Int32).toNatClampNeg = 2 := by decide
        rw [e2] at e40
        exact go v40 (Or.inl ⟨hb, e40⟩)
  · rintro ⟨w10, w11, w12, w13, w14⟩ ⟨r1, r2, r3, r4, r5⟩
    dsimp only [u5]
    exact Sf.ok ⟨rfl, r1, r2, r3, r4, hch, r5⟩
end
section
/-! bits of an int: the lines that are there -/
def tq (s : Int32) (v : Nat) : Bool := s.toBitVec.getLsbD v
theorem sh_q {k : Nat} (h : k < 31) : ((Int32.ofNat k &&& 31).toBitVec.smod 32) = BitVec.ofNat 32 k := by
  have key : ∀ i : Fin 31, ((Int32.ofNat i.1 &&& 31).toBitVec.smod 32) = BitVec.ofNat 32 i.1 := by decide +kernel
  exact key ⟨k, h⟩
theorem tq_get {s : Int32} {k : Nat} (h : k < 31) : ((s >>> (Int32.ofNat k &&& 31)) &&& 1) = 0 ↔ tq s k = false := by
  have ea := sh_q h
  rw [← Int32.toBitVec_inj, Int32.toBitVec_and, Int32.toBitVec_shiftRight, ea, BitVec.sshiftRight_eq']
  have e1 : (BitVec.ofNat 32 k).toNat = k := by
    rw [BitVec.toNat_ofNat]
    omega
  rw [e1]
  have b1 : (1 : Int32).toBitVec = 1#32 := rfl
  have b0 : (0 : Int32).toBitVec = 0#32 := rfl
  rw [b1, b0]
  unfold tq
  constructor
  · intro hz
    have := congrArg (fun x => x.getLsbD 0) hz
    simp only [BitVec.getLsbD_and, BitVec.getLsbD_sshiftRight, BitVec.getLsbD_one, BitVec.getLsbD_zero] at this
    rw [if_pos (by omega)] at this
    simpa using this
  · intro hz
    apply BitVec.eq_of_getLsbD_eq
    intro i hi
    simp only [BitVec.getLsbD_and, BitVec.getLsbD_sshiftRight, BitVec.getLsbD_one, BitVec.getLsbD_zero]
    by_cases h0 : i = 0
    · subst h0
      rw [if_pos (by omega), Nat.add_zero, hz]
      simp
    · simp [h0]
theorem tq_set {s : Int32} {k : Nat} (h : k < 31) (u : Nat) (hu : u < 31) : tq (s ||| ((1 : Int32) <<< (Int32.ofNat k &&& 31))) u = (tq s u || decide (u = k)) := by
  have ea := sh_q h
  unfold tq
  rw [Int32.toBitVec_or, Int32.toBitVec_shiftLeft, ea, BitVec.getLsbD_or]
  have b1 : (1 : Int32).toBitVec = 1#32 := rfl
  rw [b1, BitVec.shiftLeft_eq']
  have e1 : (BitVec.ofNat 32 k).toNat = k := by
    rw [BitVec.toNat_ofNat]
    omega
  rw [e1, BitVec.getLsbD_shiftLeft, BitVec.getLsbD_one]
  congr 1
  by_cases hk : u = k
  · subst hk
    simp
    omega
  · by_cases hlt : u < k
    · simp [hlt, hk]
    · have : u - k ≠ 0 := by omega
      simp [hlt, hk, this]
theorem tq_zero (u : Nat) : tq 0 u = false := by
  unfold tq
  have b0 : (0 : Int32).toBitVec = 0#32 := rfl
  rw [b0]
  simp
/-- linesThere: the bits of the lines that are not washed -/
theorem thereS {n : Nat} {lc gc wc yr ik : Int32} {lines goods works chg coin kf : Nat → Int32} (hn : 1000000000000 ≤ n) (hlc : 0 ≤ lc ∧ lc ≤ 20) : Sf (fX1_linesThere n (lc, gc, wc, yr, lines, goods, works, chg, coin, kf, ik)) (fun r => ∀ l, l < 20 → (tq r l = true ↔ (l < lc.toNatClampNeg ∧ lines (7 * l + 6) = 0))) := by
  unfold fX1_linesThere
  dsimp only [u11]
  refine Sf.bind (P := fun r => ∀ l, l < 20 → (tq r l = true ↔ (l < lc.toNatClampNeg ∧ lines (7 * l + 6) = 0))) ?_ (fun r h => Sf.ok h)
  refine Sf.loop2 (fun (z2 z3 : Int32) => (0 ≤ z3 ∧ z3 ≤ lc) ∧ ∀ l, l < 20 → (tq z2 l = true ↔ (l < z3.toNatClampNeg ∧ lines (7 * l + 6) = 0))) (fun z2 z3 => muUp z3) (fun z2 z3 h => ?_) ⟨⟨Int32.le_refl 0, hlc.1⟩, fun l hl => ?_⟩ (muUp_n hn)
  · obtain ⟨h0, h1⟩ := h
    have nz := i32_cl h0.1
    have nl := i32_cl hlc.1
    have iz := Int32.le_iff_toInt_le.mp h0.2
    unfold fX1_linesThere_s4
    refine Sf.ite (fun hc => ?_) (fun hc => ?_)
    · refine Sf.inr fun l hl => ?_
      have ic := Int32.le_iff_toInt_le.mp hc
      have ez : z3.toNatClampNeg = lc.toNatClampNeg := by omega
      rw [← ez]
      exact h1 l hl
    · obtain ⟨p0, p1, p3⟩ := up1 h0.1 (Int32.le_trans hlc.2 (by decide)) hc
      have hz20 : 0 ≤ z3 ∧ z3 < 20 := ⟨h0.1, Int32.lt_of_lt_of_le p3 hlc.2⟩
      have n20 : z3.toNatClampNeg < 20 := i32_lt (M := 20) rfl hz20
      have ez3 : Int32.ofNat z3.toNatClampNeg = z3 := Int32.ofNat_toNatClampNeg z3 h0.1
      have hz1 : z3 + 1 ≤ lc := by
        have q := Int32.lt_iff_toInt_lt.mp p3
        have r := i32_cl p0
        exact Int32.le_iff_toInt_le.mpr (by omega)
      refine Sf.bind (ofLineV hz20 ⟨by decide, by decide⟩) ?_
      intro v6 e6
      have e6' : (6 : Int32).toNatClampNeg = 6 := by decide
      rw [e6'] at e6
      refine Sf.ite (fun hv => ?_) (fun hv => ?_)
      · refine Sf.someb (fun t8 e8 => ?_)
        refine Sf.inl ⟨⟨p0, hz1⟩, fun l hl => ?_⟩ (muUp_lt hc)
        rw [e8, ← ez3, tq_set (by omega) l (by omega), ez3, p1]
        have q := h1 l hl
        rw [Bool.or_eq_true, decide_eq_true_eq, q]
        constructor
        · rintro (⟨a, b⟩ | rfl)
          · exact ⟨by omega, b⟩
          · exact ⟨by omega, by rw [← e6]; exact hv⟩
        · rintro ⟨a, b⟩
          by_cases hz : l = z3.toNatClampNeg
          · exact Or.inr hz
          · exact Or.inl ⟨by omega, b⟩
      · refine Sf.inl ⟨⟨p0, hz1⟩, fun l hl => ?_⟩ (muUp_lt hc)
        rw [p1]
        have q := h1 l hl
        rw [q]
        constructor
        · rintro ⟨a, b⟩
          exact ⟨by omega, b⟩
        · rintro ⟨a, b⟩
          refine ⟨?_, b⟩
          have hz : l ≠ z3.toNatClampNeg := by
            intro e
            subst e
            rw [← e6] at b
            exact hv b
          omega
  · rw [tq_zero]
    constructor
    · intro h
      cases h
    · intro h
      exact absurd h.1 (Nat.not_lt_zero _)
end
section
/-! the reference's least costs, with 1000000 where there is no way -/
def cut6 (far : Nat → Int32) (v : Nat) : Int32 := if far v < 1000000000 then far v else 1000000
theorem TF_far {D : Nat → Nat → Int → Prop} {G : Nat → Prop} {far : Nat → Int32} (hA : AI 0 1000000000 far) (hAt : At D G far) (hF : FxD D far) (hD : ∀ u v c, D u v c → u < 36 ∧ v < 36 ∧ c ≤ 999) (hD0 : ∀ u v c, D u v c → 0 ≤ c) (hG36 : ∀ u, G u → u < 36) {g0 : Nat} (hg0 : G g0) : TF D G (cut6 far) := by
  have zm : (1000000 : Int32).toInt = 1000000 := by decide
  have zb : (1000000000 : Int32).toInt = 1000000000 := by decide
  have z0 : (0 : Int32).toInt = 0 := by decide
  have hG0 : ∀ u, G u → far u = 0 := fun u hu => hAt.1 u (hG36 u hu) hu
  have lt : ∀ v, far v < 1000000000 ↔ (far v).toInt < 1000000000 := by
    intro v
    rw [Int32.lt_iff_toInt_lt, zb]
  have bd : ∀ v, v < 36 → far v < 1000000000 → (far v).toInt ≤ 35964 := by
    intro v hv h
    obtain ⟨k, hk⟩ := hAt.2 v hv ((lt v).mp h)
    exact far_bound hF hD hG0 (hG36 g0 hg0) hg0 hk
  have val : ∀ v, (far v < 1000000000 → cut6 far v = far v) ∧ (¬ far v < 1000000000 → cut6 far v = 1000000) := by
    intro v
    unfold cut6
    exact ⟨fun h => if_pos h, fun h => if_neg h⟩
  refine ⟨fun v hv => ?_, fun u hu => ?_, fun u v c h => ?_, fun u hu h => ?_⟩
  · by_cases h : far v < 1000000000
    · rw [(val v).1 h]
      refine ⟨(hA v).1, Int32.le_iff_toInt_le.mpr ?_⟩
      have q := bd v hv h
      omega
    · rw [(val v).2 h]
      decide
  · have e := hG0 u hu
    have h : far u < 1000000000 := by rw [e]; decide
    rw [(val u).1 h, e]
  · obtain ⟨hu, hv, hc⟩ := hD u v c h
    have h0 := hD0 u v c h
    have hf := hF u v c h
    have au := i32_b (hA u)
    have av := i32_b (hA v)
    rw [z0, zb] at au av
    by_cases hb : far v < 1000000000
    · have q := bd v hv hb
      have hu2 : far u < 1000000000 := (lt u).mpr (by omega)
      rw [(val u).1 hu2, (val v).1 hb]
      exact hf
    · rw [(val v).2 hb, zm]
      by_cases hu2 : far u < 1000000000
      · have q := bd u hu hu2
        rw [(val u).1 hu2]
        omega
      · rw [(val u).2 hu2, zm]
        omega
  · by_cases hb : far u < 1000000000
    · rw [(val u).1 hb]
      exact hAt.2 u hu ((lt u).mp hb)
    · rw [(val u).2 hb, zm] at h
      omega
theorem FxD_far {L : Nat} {line : Nat → Nat → Int32} {changes coins left far : Nat → Int32} {tons : Int32} (hA : AI 0 1000000000 far) (hl : LnM line) (hco : AI 0 9 coins) (hch : AI 0 99 changes) (h1 : ∀ l : Nat, l < L → ∀ w : Nat, w < 3 → OKl line coins left tons far l w) (h2 : ∀ m : Nat, m < 36 → ∀ w : Nat, w < 3 → OKc changes far m w) : FxD (Ed L line changes coins left tons) far := by
  have zb : (1000000000 : Int32).toInt = 1000000000 := by decide
  have z0 : (0 : Int32).toInt = 0 := by decide
  have z9 : (999 : Int32).toInt = 999 := by decide
  have z99 : (99 : Int32).toInt = 99 := by decide
  intro u v c h
  rcases h with ⟨l, w, hL, hw, hb, rfl, ⟨rfl, rfl⟩ | ⟨rfl, rfl⟩⟩ | ⟨p, w, w', hp, hw, hw', rfl, rfl, rfl⟩
  · have q := (h1 l hL w hw hb).1
    have m := i32_b (mc9 (a := line l 3) (b := coins w) (hl l 3) (hco w))
    have av := i32_b (hA (3 * (line l 1).toNatClampNeg + w))
    rw [z0, z9] at m
    rw [z0, zb] at av
    have r := Int32.le_iff_toInt_le.mp q
    rw [i32_add (by omega) (by omega)] at r
    exact r
  · have q := (h1 l hL w hw hb).2
    have m := i32_b (mc9 (a := line l 3) (b := coins w) (hl l 3) (hco w))
    have av := i32_b (hA (3 * (line l 0).toNatClampNeg + w))
    rw [z0, z9] at m
    rw [z0, zb] at av
    have r := Int32.le_iff_toInt_le.mp q
    rw [i32_add (by omega) (by omega)] at r
    exact r
  · have q := h2 (3 * p + w) (by omega) w' hw'
    unfold OKc at q
    have e1 : (3 * p + w) / 3 = p := by omega
    rw [e1] at q
    have e2 : p * 3 + w' = 3 * p + w' := by omega
    rw [e2] at q
    have m := i32_b (hch p)
    have av := i32_b (hA (3 * p + w'))
    rw [z0, z99] at m
    rw [z0, zb] at av
    have r := Int32.le_iff_toInt_le.mp q
    rw [i32_add (by omega) (by omega)] at r
    exact r
end
section
/-! the class's edges are the reference's, on alike lands -/
theorem tq_on {s : Int32} {k : Nat} (h : k < 31) : ¬ ((s >>> (Int32.ofNat k &&& 31)) &&& 1) = 0 ↔ tq s k = true := by
  rw [tq_get h]
  cases tq s k <;> simp
theorem EdC_Ed {L ec : Nat} {p2 tons : Int32} {line : Nat → Nat → Int32} {lines coin chg eA eB eC changes coins left : Nat → Int32} (hE : EgOk lines coin p2 (fun l _ => l < L) eA eB eC ec) (hb : ∀ l, l < 20 → (tq p2 l = true ↔ (l < L ∧ line l 6 = 0))) (hL : L ≤ 20) (hl : ∀ l, l < L → ∀ c, c < 6 → line l c = lines (7 * l + c)) (hco : ∀ w, w < 3 → coins w = coin w) (hch : ∀ p, p < 12 → changes p = chg p) (hleft : ∀ l, l < L → ¬ left l < tons) (u v : Nat) (c : Int) : EdC ec eA eB eC chg u v c ↔ Ed L line changes coins left tons u v c := by
  constructor
  · rintro (⟨e, he, rfl, h⟩ | ⟨p, w, w', hp, hw, hw', rfl, rfl, rfl⟩)
    · obtain ⟨l, w, hq, hw, hu, g1, g2, g3⟩ := hE.1 e he
      have hq : l < L := hq
      have b6 : line l 6 = 0 := ((hb l (by omega)).mp ((tq_on (by omega)).mp hu.1)).2
      have b2 : ¬ ((line l 2 >>> (Int32.ofNat w &&& 31)) &&& 1) = 0 := by
        rw [hl l hq 2 (by decide)]
        exact hu.2
      refine Or.inl ⟨l, w, hq, hw, ⟨b6, b2, hleft l hq⟩, ?_, ?_⟩
      · rw [g3, hl l hq 3 (by decide), hco w hw]
      · rw [hl l hq 0 (by decide), hl l hq 1 (by decide), ← g1, ← g2]
        exact h
    · exact Or.inr ⟨p, w, w', hp, hw, hw', rfl, rfl, by rw [hch p hp]⟩
  · rintro (⟨l, w, hq, hw, ⟨b6, b2, _⟩, rfl, h⟩ | ⟨p, w, w', hp, hw, hw', rfl, rfl, rfl⟩)
    · have hu : Us lines p2 l w := by
        refine ⟨(tq_on (by omega)).mpr ((hb l (by omega)).mpr ⟨hq, ?_⟩), ?_⟩
        · exact b6
        · rw [← hl l hq 2 (by decide)]; exact b2
      obtain ⟨e, he, g1, g2, g3⟩ := hE.2 l w hq hw hu
      refine Or.inl ⟨e, he, ?_, ?_⟩
      · rw [g3, hl l hq 3 (by decide), hco w hw]
      · rw [hl l hq 0 (by decide), hl l hq 1 (by decide), ← g1, ← g2] at h
        exact h
    · exact Or.inr ⟨p, w, w', hp, hw, hw', rfl, rfl, by rw [hch p hp]⟩
end
section
/-! the least of a place's three -/
def Ls (F : Int32) (A : Nat → Int32) (p : Nat) (m : Int32) : Prop := (∀ w : Nat, w < 3 → m ≤ A (3 * p + w)) ∧ m ≤ F ∧ (m = F ∨ ∃ w : Nat, w < 3 ∧ m = A (3 * p + w))
def Ll (F : Int32) (A : Nat → Int32) (p : Nat) (z2 z3 : Int32) : Prop := 0 ≤ z3 ∧ (∀ w : Nat, w < z3.toNatClampNeg → w < 3 → z2 ≤ A (3 * p + w)) ∧ z2 ≤ F ∧ (z2 = F ∨ ∃ w : Nat, w < 3 ∧ z2 = A (3 * p + w))
theorem costL {n : Nat} {p1 : Int32} {A : Nat → Int32} (hn : 1000000000000 ≤ n) (hp : 0 ≤ p1 ∧ p1 ≤ 11) : Sf (lp (u2 (fX5_costFrom_s5 p1 A)) n (1000000, 0)) (Ls 1000000 A p1.toNatClampNeg) := by
  refine Sf.loop2 (Ll 1000000 A p1.toNatClampNeg) (fun z2 z3 => muUp z3) (fun z2 z3 h => ?_) (show Ll 1000000 A p1.toNatClampNeg 1000000 0 from ⟨Int32.le_refl 0, fun w hw => absurd hw (Nat.not_lt_zero w), Int32.le_refl _, Or.inl rfl⟩) (muUp_n hn)
  obtain ⟨h0, h1, h2, h3⟩ := h
  unfold fX5_costFrom_s5
  refine Sf.ite (fun hc => ?_) (fun hc => ?_)
  · exact Sf.inr ⟨fun w hw => h1 w (c3 h0 hc hw) hw, h2, h3⟩
  · obtain ⟨q0, q1, q2⟩ := up1 h0 (by decide) hc
    obtain ⟨hi, he⟩ := ix3' hp ⟨h0, q2⟩
    refine Sf.rdb 36 rfl hi (fun v6 e6 => ?_)
    rw [he] at e6
    refine Sf.ite (fun hc2 => ?_) (fun hc2 => ?_)
    · refine Sf.inl (show Ll 1000000 A p1.toNatClampNeg z2 (z3 + 1) from ⟨q0, fun w hw hw2 => ?_, h2, h3⟩) (muUp_lt hc)
      rw [q1] at hw
      by_cases hlt : w < z3.toNatClampNeg
      · exact h1 w hlt hw2
      · have ew : w = z3.toNatClampNeg := by omega
        subst ew
        rw [← e6]
        exact hc2
    · refine Sf.rdb 36 rfl hi (fun v7 e7 => ?_)
      rw [he] at e7
      have hle : v7 ≤ z2 := by rw [e7, ← e6]; exact Int32.le_of_lt (Int32.not_le.mp hc2)
      refine Sf.inl (show Ll 1000000 A p1.toNatClampNeg v7 (z3 + 1) from ⟨q0, fun w hw hw2 => ?_, Int32.le_trans hle h2, Or.inr ⟨z3.toNatClampNeg, (w_of ⟨h0, q2⟩).2, e7⟩⟩) (muUp_lt hc)
      rw [q1] at hw
      by_cases hlt : w < z3.toNatClampNeg
      · exact Int32.le_trans hle (h1 w hlt hw2)
      · have ew : w = z3.toNatClampNeg := by omega
        subst ew
        rw [e7]
        exact Int32.le_refl _
theorem leastL {n : Nat} {p1 : Int32} {A : Nat → Int32} (hn : 1000000000000 ≤ n) (hp : 0 ≤ p1 ∧ p1 ≤ 11) : Sf (lp (u2 (fX7_least_s5 p1 A)) n (1000000000, 0)) (Ls 1000000000 A p1.toNatClampNeg) := by
  refine Sf.loop2 (Ll 1000000000 A p1.toNatClampNeg) (fun z2 z3 => muUp z3) (fun z2 z3 h => ?_) (show Ll 1000000000 A p1.toNatClampNeg 1000000000 0 from ⟨Int32.le_refl 0, fun w hw => absurd hw (Nat.not_lt_zero w), Int32.le_refl _, Or.inl rfl⟩) (muUp_n hn)
  obtain ⟨h0, h1, h2, h3⟩ := h
  unfold fX7_least_s5
  refine Sf.ite (fun hc => ?_) (fun hc => ?_)
  · exact Sf.inr ⟨fun w hw => h1 w (c3 h0 hc hw) hw, h2, h3⟩
  · obtain ⟨q0, q1, q2⟩ := up1 h0 (by decide) hc
    obtain ⟨hi, he⟩ := ix3 hp ⟨h0, q2⟩
    refine Sf.rdb 36 rfl hi (fun v6 e6 => ?_)
    rw [he] at e6
    refine Sf.ite (fun hc2 => ?_) (fun hc2 => ?_)
    · refine Sf.inl (show Ll 1000000000 A p1.toNatClampNeg z2 (z3 + 1) from ⟨q0, fun w hw hw2 => ?_, h2, h3⟩) (muUp_lt hc)
      rw [q1] at hw
      by_cases hlt : w < z3.toNatClampNeg
      · exact h1 w hlt hw2
      · have ew : w = z3.toNatClampNeg := by omega
        subst ew
        rw [← e6]
        exact hc2
    · refine Sf.rdb 36 rfl hi (fun v7 e7 => ?_)
      rw [he] at e7
      have hle : v7 ≤ z2 := by rw [e7, ← e6]; exact Int32.le_of_lt (Int32.not_le.mp hc2)
      refine Sf.inl (show Ll 1000000000 A p1.toNatClampNeg v7 (z3 + 1) from ⟨q0, fun w hw hw2 => ?_, Int32.le_trans hle h2, Or.inr ⟨z3.toNatClampNeg, (w_of ⟨h0, q2⟩).2, e7⟩⟩) (muUp_lt hc)
      rw [q1] at hw
      by_cases hlt : w < z3.toNatClampNeg
      · exact Int32.le_trans hle (h1 w hlt hw2)
      · have ew : w = z3.toNatClampNeg := by omega
        subst ew
        rw [e7]
        exact Int32.le_refl _
/-- the two least ones: both none, or the same -/
theorem Ls_eq {far : Nat → Int32} {p : Nat} {m m2 : Int32} (hb : ∀ w : Nat, w < 3 → far (3 * p + w) < 1000000000 → far (3 * p + w) < 1000000) (h : Ls 1000000 (cut6 far) p m) (h2 : Ls 1000000000 far p m2) : (1000000 ≤ m ∧ 1000000000 ≤ m2) ∨ (m < 1000000 ∧ m2 < 1000000000 ∧ m = m2) := by
  obtain ⟨a1, a2, a3⟩ := h
  obtain ⟨b1, b2, b3⟩ := h2
  have val : ∀ v, (far v < 1000000000 → cut6 far v = far v) ∧ (¬ far v < 1000000000 → cut6 far v = 1000000) := by
    intro v
    unfold cut6
    exact ⟨fun h => if_pos h, fun h => if_neg h⟩
  by_cases hx : ∃ w : Nat, w < 3 ∧ far (3 * p + w) < 1000000000
  · obtain ⟨w, hw, hf⟩ := hx
    have c1 := a1 w hw
    rw [(val _).1 hf] at c1
    have hm : m < 1000000 := Int32.lt_of_le_of_lt c1 (hb w hw hf)
    have hm2 : m2 < 1000000000 := Int32.lt_of_le_of_lt (b1 w hw) hf
    refine Or.inr ⟨hm, hm2, ?_⟩
    rcases a3 with e | ⟨x, hx, ex⟩
    · rw [e] at hm; exact absurd hm (by decide)
    · rcases b3 with e | ⟨y, hy, ey⟩
      · rw [e] at hm2; exact absurd hm2 (by decide)
      · have fx : far (3 * p + x) < 1000000000 := by
          refine Classical.byContradiction fun hn => ?_
          rw [ex, (val _).2 hn] at hm
          exact absurd hm (by decide)
        rw [(val _).1 fx] at ex
        have fy : far (3 * p + y) < 1000000000 := by rw [← ey]; exact hm2
        have d1 := b1 x hx
        have d2 := a1 y hy
        rw [(val _).1 fy, ← ey] at d2
        rw [← ex] at d1
        exact Int32.le_antisymm d2 d1
  · refine Or.inl ⟨?_, ?_⟩
    · rcases a3 with e | ⟨x, hx2, ex⟩
      · rw [e]; decide
      · rw [ex, (val _).2 (fun hf => hx ⟨x, hx2, hf⟩)]; decide
    · rcases b3 with e | ⟨x, hx2, ex⟩
      · rw [e]; decide
      · rw [ex]; exact Int32.not_lt.mp (fun hf => hx ⟨x, hx2, hf⟩)
end
section
/-! FREE, said of a land alone; what the reference's free() answers -/
theorem Sf.and {α : Type} {x : Option α} {P Q : α → Prop} (h : Sf x P) (h2 : Sf x Q) : Sf x (fun a => P a ∧ Q a) := by
  obtain ⟨a, e, p⟩ := h
  obtain ⟨b, e2, q⟩ := h2
  rw [e] at e2
  cases e2
  exact ⟨a, e, p, q⟩
def EdL (L : Nat) (line : Nat → Nat → Int32) (changes coins : Nat → Int32) : Nat → Nat → Int → Prop := Ed L line changes coins (fun _ => 0) 0
theorem Ed_left {L : Nat} {line : Nat → Nat → Int32} {changes coins left : Nat → Int32} (h : ∀ l, l < L → ¬ left l < 0) : Ed L line changes coins left 0 = EdL L line changes coins := by
  funext u v c
  refine propext ⟨?_, ?_⟩
  · rintro (⟨l, w, hL, hw, ⟨b1, b2, _⟩, e, hh⟩ | hh)
    · exact Or.inl ⟨l, w, hL, hw, ⟨b1, b2, (show ¬ (0 : Int32) < 0 by decide)⟩, e, hh⟩
    · exact Or.inr hh
  · rintro (⟨l, w, hL, hw, ⟨b1, b2, _⟩, e, hh⟩ | hh)
    · exact Or.inl ⟨l, w, hL, hw, ⟨b1, b2, h l hL⟩, e, hh⟩
    · exact Or.inr hh
theorem Ed.d {L : Nat} {line : Nat → Nat → Int32} {changes coins left : Nat → Int32} {tons : Int32} (hl : LnM line) (hco : AI 0 9 coins) (hch : AI 0 99 changes) : ∀ u v c, Ed L line changes coins left tons u v c → u < 36 ∧ v < 36 ∧ c ≤ 999 := by
  intro u v c h
  have z9 : (999 : Int32).toInt = 999 := by decide
  have z99 : (99 : Int32).toInt = 99 := by decide
  rcases h with ⟨l, w, hL, hw, hb, rfl, hh⟩ | ⟨p, w, w', hp, hw, hw', rfl, rfl, rfl⟩
  · have m := (i32_b (mc9 (a := line l 3) (b := coins w) (hl l 3) (hco w))).2
    rw [z9] at m
    have a := p_of (hl l 0)
    have b := p_of (hl l 1)
    rcases hh with ⟨rfl, rfl⟩ | ⟨rfl, rfl⟩
    · exact ⟨by omega, by omega, m⟩
    · exact ⟨by omega, by omega, m⟩
  · have m := (i32_b (hch p)).2
    rw [z99] at m
    exact ⟨by omega, by omega, by omega⟩
theorem Ed.d0 {L : Nat} {line : Nat → Nat → Int32} {changes coins left : Nat → Int32} {tons : Int32} (hl : LnM line) (hco : AI 0 9 coins) (hch : AI 0 99 changes) : ∀ u v c, Ed L line changes coins left tons u v c → 0 ≤ c := by
  intro u v c h
  have z0 : (0 : Int32).toInt = 0 := by decide
  rcases h with ⟨l, w, hL, hw, hb, rfl, hh⟩ | ⟨p, w, w', hp, hw, hw', rfl, rfl, rfl⟩
  · have m := (i32_b (mc9 (a := line l 3) (b := coins w) (hl l 3) (hco w))).1
    rw [z0] at m
    exact m
  · have m := (i32_b (hch p)).1
    rw [z0] at m
    exact m
theorem TF_le {D : Nat → Nat → Int → Prop} {G : Nat → Prop} {T T' : Nat → Int32} (h : TF D G T) (h' : TF D G T') : ∀ v, v < 36 → (T' v).toInt ≤ (T v).toInt := by
  intro v hv
  obtain ⟨a1, a2, a3, a4⟩ := h
  obtain ⟨b1, b2, b3, b4⟩ := h'
  have zm : (1000000 : Int32).toInt = 1000000 := by decide
  by_cases hc : (T v).toInt < 1000000
  · obtain ⟨k, hk⟩ := a4 v hv hc
    exact Wk.le b3 b2 k v _ hk
  · have q := (i32_b (b1 v hv)).2
    rw [zm] at q
    omega
theorem TF_uniq {D : Nat → Nat → Int → Prop} {G : Nat → Prop} {T T' : Nat → Int32} (h : TF D G T) (h' : TF D G T') : ∀ v, v < 36 → T v = T' v := by
  intro v hv
  have a := TF_le h h' v hv
  have b := TF_le h' h v hv
  exact Int32.toInt_inj.mp (by omega)
theorem far_lt {D : Nat → Nat → Int → Prop} {G : Nat → Prop} {far : Nat → Int32} (hAt : At D G far) (hF : FxD D far) (hD : ∀ u v c, D u v c → u < 36 ∧ v < 36 ∧ c ≤ 999) (hG36 : ∀ u, G u → u < 36) {g0 : Nat} (hg0 : G g0) {v : Nat} (hv : v < 36) (h : far v < 1000000000) : far v < 1000000 := by
  have zm : (1000000 : Int32).toInt = 1000000 := by decide
  have zb : (1000000000 : Int32).toInt = 1000000000 := by decide
  have q := Int32.lt_iff_toInt_lt.mp h
  rw [zb] at q
  obtain ⟨k, hk⟩ := hAt.2 v hv q
  have r := far_bound hF hD (fun u hu => hAt.1 u (hG36 u hu) hu) (hG36 g0 hg0) hg0 hk
  refine Int32.lt_iff_toInt_lt.mpr ?_
  omega
/-- the least of three -/
def m3 (a b c : Int32) : Int32 := if a ≤ b then (if a ≤ c then a else c) else (if b ≤ c then b else c)
theorem m3_le (a b c : Int32) : m3 a b c ≤ a ∧ m3 a b c ≤ b ∧ m3 a b c ≤ c ∧ (m3 a b c = a ∨ m3 a b c = b ∨ m3 a b c = c) := by
  unfold m3
  by_cases h : a ≤ b
  · rw [if_pos h]
    by_cases h2 : a ≤ c
    · rw [if_pos h2]
      exact ⟨Int32.le_refl _, h, h2, Or.inl rfl⟩
    · rw [if_neg h2]
      have q := Int32.le_of_lt (Int32.not_le.mp h2)
      exact ⟨q, Int32.le_trans q h, Int32.le_refl _, Or.inr (Or.inr rfl)⟩
  · rw [if_neg h]
    have p := Int32.le_of_lt (Int32.not_le.mp h)
    by_cases h2 : b ≤ c
    · rw [if_pos h2]
      exact ⟨p, Int32.le_refl _, h2, Or.inr (Or.inl rfl)⟩
    · rw [if_neg h2]
      have q := Int32.le_of_lt (Int32.not_le.mp h2)
      exact ⟨Int32.le_trans q p, q, Int32.le_refl _, Or.inr (Or.inr rfl)⟩
/-- what a ton costs from a place: 999 where there is no way -/
def cst (T : Nat → Int32) (p : Nat) : Int32 := if m3 (T (3 * p + 0)) (T (3 * p + 1)) (T (3 * p + 2)) < 1000000 then m3 (T (3 * p + 0)) (T (3 * p + 1)) (T (3 * p + 2)) else 999
theorem Ls_m3 {T : Nat → Int32} {p : Nat} (hT : A6 T) (hp : p < 12) : Ls 1000000 T p (m3 (T (3 * p + 0)) (T (3 * p + 1)) (T (3 * p + 2))) := by
  obtain ⟨a, b, c, d⟩ := m3_le (T (3 * p + 0)) (T (3 * p + 1)) (T (3 * p + 2))
  refine ⟨fun w hw => ?_, Int32.le_trans a (hT _ (by omega)).2, Or.inr ?_⟩
  · rcases (show w = 0 ∨ w = 1 ∨ w = 2 by omega) with rfl | rfl | rfl
    · exact a
    · exact b
    · exact c
  · rcases d with d | d | d
    · exact ⟨0, by omega, d⟩
    · exact ⟨1, by omega, d⟩
    · exact ⟨2, by omega, d⟩
theorem Ls_uniq {T : Nat → Int32} {p : Nat} {m m' F : Int32} (h : Ls F T p m) (h' : Ls F T p m') : m = m' := by
  obtain ⟨a1, a2, a3⟩ := h
  obtain ⟨b1, b2, b3⟩ := h'
  have x : m ≤ m' := by
    rcases b3 with e | ⟨w, hw, e⟩
    · rw [e]; exact a2
    · rw [e]; exact a1 w hw
  have y : m' ≤ m := by
    rcases a3 with e | ⟨w, hw, e⟩
    · rw [e]; exact b2
    · rw [e]; exact b1 w hw
  exact Int32.le_antisymm x y
theorem Ls_congr {T T' : Nat → Int32} {p : Nat} {m F : Int32} (hp : p < 12) (e : ∀ v, v < 36 → T v = T' v) (h : Ls F T p m) : Ls F T' p m := by
  obtain ⟨a1, a2, a3⟩ := h
  refine ⟨fun w hw => ?_, a2, ?_⟩
  · rw [← e _ (by omega)]; exact a1 w hw
  · rcases a3 with h | ⟨w, hw, h⟩
    · exact Or.inl h
    · exact Or.inr ⟨w, hw, by rw [← e _ (by omega)]; exact h⟩
theorem cst_Ls {T : Nat → Int32} {p : Nat} {m : Int32} (hT : A6 T) (hp : p < 12) (h : Ls 1000000 T p m) : cst T p = if m < 1000000 then m else 999 := by
  have e := Ls_uniq h (Ls_m3 hT hp)
  unfold cst
  rw [← e]
/-- the reference's least one -/
theorem cst_far {far T : Nat → Int32} {p : Nat} {m : Int32} (hT : A6 T) (hp : p < 12) (e : ∀ v, v < 36 → cut6 far v = T v) (hb : ∀ v, v < 36 → far v < 1000000000 → far v < 1000000) (h : Ls 1000000000 far p m) : cst T p = if m < 1000000000 then m else 999 := by
  have hl := Ls_m3 hT hp
  rw [cst_Ls hT hp hl]
  have hl2 := Ls_congr hp (fun v hv => (e v hv).symm) hl
  rcases Ls_eq (fun w hw => hb _ (by omega)) hl2 h with ⟨h1, h2⟩ | ⟨h1, h2, h3⟩
  · rw [if_neg (Int32.not_lt.mpr h1), if_neg (Int32.not_lt.mpr h2)]
  · rw [if_pos h1, if_pos h2, h3]
def sm (f : Nat → Int32) : Nat → Int32
  | 0 => 0
  | k + 1 => sm f k + f k
theorem sm_congr {f g : Nat → Int32} : ∀ K : Nat, (∀ k, k < K → f k = g k) → sm f K = sm g K
  | 0, _ => rfl
  | K + 1, h => by
    show sm f K + f K = sm g K + g K
    rw [sm_congr K (fun k hk => h k (by omega)), h K (by omega)]
theorem sm_add (f g : Nat → Int32) : ∀ K : Nat, sm f K + sm g K = sm (fun k => f k + g k) K
  | 0 => rfl
  | K + 1 => by
    have ih := sm_add f g K
    show (sm f K + f K) + (sm g K + g K) = sm (fun k => f k + g k) K + (f K + g K)
    rw [← ih]
    grind
def tm (Tq : Nat → Nat → Int32) (good : Nat → Nat → Int32) (g : Nat) : Int32 := good g 2 * cst (Tq (good g 1).toNatClampNeg) (good g 0).toNatClampNeg
def FreeF (Tq : Nat → Nat → Int32) (good : Nat → Nat → Int32) (G : Nat) : Int32 := sm (tm Tq good) G
def Tz (D : Nat → Nat → Int → Prop) (Tq : Nat → Nat → Int32) : Prop := ∀ q, q < 12 → TF D (fun u => u / 3 = q) (Tq q)
theorem FreeF_uniq {D : Nat → Nat → Int → Prop} {Tq Tq' : Nat → Nat → Int32} (h : Tz D Tq) (h' : Tz D Tq') {good : Nat → Nat → Int32} (hg : GdM good) (G : Nat) : FreeF Tq good G = FreeF Tq' good G := by
  refine sm_congr G (fun g _ => ?_)
  unfold tm
  have a := p_of (hg g 1)
  have b := p_of (hg g 0)
  have u := TF_uniq (h _ a) (h' _ a)
  have e : cst (Tq (good g 1).toNatClampNeg) (good g 0).toNatClampNeg = cst (Tq' (good g 1).toNatClampNeg) (good g 0).toNatClampNeg := by
    unfold cst
    rw [u _ (show 3 * (good g 0).toNatClampNeg + 0 < 36 by omega), u _ (show 3 * (good g 0).toNatClampNeg + 1 < 36 by omega), u _ (show 3 * (good g 0).toNatClampNeg + 2 < 36 by omega)]
  rw [e]
end
section
/-! the reference's free() -/
theorem refillS {n : Nat} {x0_shelf : (Nat → Int32)} {x0_rowSort : (Nat → Int32)} {x0_rowSize : (Nat → Int32)} {x0_rows : (Nat → Nat → Int64)} {x0_moved : (Nat → Int64)} {x0_shown : (Nat → Int32)} {x0_tape : (Nat → Int32)} {x0_tapeSize : Int32} {x0_refused : (Nat → Int32)} {x0_lines : Int32} {x0_line : (Nat → Nat → Int32)} {x0_changes : (Nat → Int32)} {x0_coins : (Nat → Int32)} {x0_goods : Int32} {x0_good : (Nat → Nat → Int32)} {x0_works : Int32} {x0_work : (Nat → Nat → Int32)} {x0_years : Int32} {x0_gone : Int32} {x0_spent : Int32} {x0_at : Int32} {x0_token : Int32} {x0_from : Int32} {x0_figures : Int64} {x0_fault : Int32} {x0_numbers : (Nat → Int32)} {x0_statements : Int32} {x0_left : (Nat → Int32)} {x0_far : (Nat → Int32)} {x0_tons : Int32} {x0_way : (Nat → Int32)} {x0_steps : Int32} {x0_met : Int64} {x0_queue : (Nat → Int32)} {x0_totals : (Nat → Int32)} (hn : 1000000000000 ≤ n) (h_x0_lines : (0 ≤ x0_lines ∧ x0_lines ≤ 20)) : Sf (fX7_refill n (x0_shelf, x0_rowSort, x0_rowSize, x0_rows, x0_moved, x0_shown, x0_tape, x0_tapeSize, x0_refused, x0_lines, x0_line, x0_changes, x0_coins, x0_goods, x0_good, x0_works, x0_work, x0_years, x0_gone, x0_spent, x0_at, x0_token, x0_from, x0_figures, x0_fault, x0_numbers, x0_statements, x0_left, x0_far, x0_tons, x0_way, x0_steps, x0_met, x0_queue, x0_totals)) (fun r => ∀ l : Nat, l < x0_lines.toNatClampNeg → r l = x0_line l 4) := by
  unfold fX7_refill
  dsimp only [u35]
  refine Sf.bind (P := fun r => ∀ l : Nat, l < x0_lines.toNatClampNeg → r l = x0_line l 4) ?_ (fun r h => Sf.ok h)
  refine Sf.loop2 (fun (z : Int32) (f : Nat → Int32) => (0 ≤ z ∧ z ≤ x0_lines) ∧ ∀ l : Nat, l < z.toNatClampNeg → f l = x0_line l 4) (fun z _ => muUp z) (fun z f h => ?_) (show (0 ≤ (0 : Int32) ∧ (0 : Int32) ≤ x0_lines) ∧ ∀ l : Nat, l < (0 : Int32).toNatClampNeg → x0_left l = x0_line l 4 from ⟨⟨by decide, h_x0_lines.1⟩, fun l hl => absurd hl (Nat.not_lt_zero l)⟩) (muUp_n hn)
  obtain ⟨⟨h0, h1⟩, h2⟩ := h
  unfold fX7_refill_s2
  refine Sf.ite (fun hc => ?_) (fun hc => ?_)
  · refine Sf.inr (show ∀ l : Nat, l < x0_lines.toNatClampNeg → f l = x0_line l 4 from ?_)
    have e : z = x0_lines := Int32.le_antisymm h1 hc
    rw [← e]
    exact h2
  · obtain ⟨u1, u2, u3⟩ := up1 h0 (Int32.le_trans h_x0_lines.2 (by decide)) hc
    have hz : 0 ≤ z ∧ z < 20 := ⟨h0, Int32.lt_of_lt_of_le u3 h_x0_lines.2⟩
    refine Sf.ckb 20 rfl hz (fun q e_q h_q => ?_)
    refine Sf.rdl 4 rfl rfl (fun v e_v => ?_)
    refine Sf.wrb 20 rfl hz (fun g e_g => ?_)
    refine Sf.inl (show (0 ≤ z + 1 ∧ z + 1 ≤ x0_lines) ∧ ∀ l : Nat, l < (z + 1).toNatClampNeg → g l = x0_line l 4 from ⟨⟨u1, by grind⟩, fun l hl => ?_⟩) (muUp_lt hc)
    rw [u2] at hl
    rw [e_g]
    unfold va_up
    by_cases hk : l = z.toNatClampNeg
    · rw [if_pos hk, e_v, e_q, hk]
    · rw [if_neg hk]
      exact h2 l (by omega)
theorem leastS {n : Nat} {x0_shelf : (Nat → Int32)} {x0_rowSort : (Nat → Int32)} {x0_rowSize : (Nat → Int32)} {x0_rows : (Nat → Nat → Int64)} {x0_moved : (Nat → Int64)} {x0_shown : (Nat → Int32)} {x0_tape : (Nat → Int32)} {x0_tapeSize : Int32} {x0_refused : (Nat → Int32)} {x0_lines : Int32} {x0_line : (Nat → Nat → Int32)} {x0_changes : (Nat → Int32)} {x0_coins : (Nat → Int32)} {x0_goods : Int32} {x0_good : (Nat → Nat → Int32)} {x0_works : Int32} {x0_work : (Nat → Nat → Int32)} {x0_years : Int32} {x0_gone : Int32} {x0_spent : Int32} {x0_at : Int32} {x0_token : Int32} {x0_from : Int32} {x0_figures : Int64} {x0_fault : Int32} {x0_numbers : (Nat → Int32)} {x0_statements : Int32} {x0_left : (Nat → Int32)} {x0_far : (Nat → Int32)} {x0_tons : Int32} {x0_way : (Nat → Int32)} {x0_steps : Int32} {x0_met : Int64} {x0_queue : (Nat → Int32)} {x0_totals : (Nat → Int32)} {p1 : Int32} (hn : 1000000000000 ≤ n) (hp : 0 ≤ p1 ∧ p1 ≤ 11) : Sf (fX7_least n (x0_shelf, x0_rowSort, x0_rowSize, x0_rows, x0_moved, x0_shown, x0_tape, x0_tapeSize, x0_refused, x0_lines, x0_line, x0_changes, x0_coins, x0_goods, x0_good, x0_works, x0_work, x0_years, x0_gone, x0_spent, x0_at, x0_token, x0_from, x0_figures, x0_fault, x0_numbers, x0_statements, x0_left, x0_far, x0_tons, x0_way, x0_steps, x0_met, x0_queue, x0_totals) p1) (Ls 1000000000 x0_far p1.toNatClampNeg) := by
  unfold fX7_least
  dsimp only [u35]
  exact Sf.bind (leastL hn hp) (fun r h => Sf.ok h)
/-- findFar with no tons to bear: the least costs of the land -/
theorem farT {n : Nat} {x0_shelf : (Nat → Int32)} {x0_rowSort : (Nat → Int32)} {x0_rowSize : (Nat → Int32)} {x0_rows : (Nat → Nat → Int64)} {x0_moved : (Nat → Int64)} {x0_shown : (Nat → Int32)} {x0_tape : (Nat → Int32)} {x0_tapeSize : Int32} {x0_refused : (Nat → Int32)} {x0_lines : Int32} {x0_line : (Nat → Nat → Int32)} {x0_changes : (Nat → Int32)} {x0_coins : (Nat → Int32)} {x0_goods : Int32} {x0_good : (Nat → Nat → Int32)} {x0_works : Int32} {x0_work : (Nat → Nat → Int32)} {x0_years : Int32} {x0_gone : Int32} {x0_spent : Int32} {x0_at : Int32} {x0_token : Int32} {x0_from : Int32} {x0_figures : Int64} {x0_fault : Int32} {x0_numbers : (Nat → Int32)} {x0_statements : Int32} {x0_left : (Nat → Int32)} {x0_far : (Nat → Int32)} {x0_tons : Int32} {x0_way : (Nat → Int32)} {x0_steps : Int32} {x0_met : Int64} {x0_queue : (Nat → Int32)} {x0_totals : (Nat → Int32)} {p1 : Int32} (hn : 1000000000000 ≤ n) (h_x0_shelf : (AI 0 2 x0_shelf)) (h_x0_rowSize : (AI 0 40 x0_rowSize)) (h_x0_tapeSize : (0 ≤ x0_tapeSize ∧ x0_tapeSize ≤ 250)) (h_x0_lines : (0 ≤ x0_lines ∧ x0_lines ≤ 20)) (h_x0_line : (LnM x0_line)) (h_x0_changes : (AI 0 99 x0_changes)) (h_x0_coins : (AI 0 9 x0_coins)) (h_x0_goods : (0 ≤ x0_goods ∧ x0_goods ≤ 8)) (h_x0_good : (GdM x0_good)) (h_x0_works : (0 ≤ x0_works ∧ x0_works ≤ 7)) (h_x0_work : (WkM x0_work)) (h_x0_years : (1 ≤ x0_years ∧ x0_years ≤ 30)) (h_x0_from : (0 ≤ x0_from ∧ x0_from ≤ 250)) (h_x0_far : (AI 0 1000000000 x0_far)) (h_x0_way : (AI 0 22 x0_way)) (h_x0_steps : (0 ≤ x0_steps ∧ x0_steps ≤ 37)) (h_x0_queue : (AI 0 35 x0_queue)) (h_p1 : 0 ≤ p1 ∧ p1 ≤ 11) (hleft : ∀ l, l < x0_lines.toNatClampNeg → ¬ x0_left l < 0) : Sf (fX7_findFar n (x0_shelf, x0_rowSort, x0_rowSize, x0_rows, x0_moved, x0_shown, x0_tape, x0_tapeSize, x0_refused, x0_lines, x0_line, x0_changes, x0_coins, x0_goods, x0_good, x0_works, x0_work, x0_years, x0_gone, x0_spent, x0_at, x0_token, x0_from, x0_figures, x0_fault, x0_numbers, x0_statements, x0_left, x0_far, x0_tons, x0_way, x0_steps, x0_met, x0_queue, x0_totals) p1 0) (fun r => AI 0 1000000000 r.1 ∧ TF (EdL x0_lines.toNatClampNeg x0_line x0_changes x0_coins) (fun u => u / 3 = p1.toNatClampNeg) (cut6 r.1) ∧ (∀ v, v < 36 → r.1 v < 1000000000 → r.1 v < 1000000)) := by
  refine Sf.mono (farS hn h_x0_shelf h_x0_rowSize h_x0_tapeSize h_x0_lines h_x0_line h_x0_changes h_x0_coins h_x0_goods h_x0_good h_x0_works h_x0_work h_x0_years h_x0_from h_x0_far h_x0_way h_x0_steps h_x0_queue h_p1) ?_
  rintro ⟨far, t⟩ ⟨hA, hAt, ⟨h1, h2⟩, _⟩
  have hA : AI 0 1000000000 far := hA
  have hF := FxD_far hA h_x0_line h_x0_coins h_x0_changes h1 h2
  have hg : ∀ u, u / 3 = p1.toNatClampNeg → u < 36 := fun u hu => by have := p_of h_p1; omega
  have hg0 : (3 * p1.toNatClampNeg) / 3 = p1.toNatClampNeg := by omega
  have hD := Ed.d (L := x0_lines.toNatClampNeg) (left := x0_left) (tons := 0) h_x0_line h_x0_coins h_x0_changes
  have hD0 := Ed.d0 (L := x0_lines.toNatClampNeg) (left := x0_left) (tons := 0) h_x0_line h_x0_coins h_x0_changes
  refine ⟨hA, ?_, fun v hv h => far_lt hAt hF hD hg (g0 := 3 * p1.toNatClampNeg) hg0 hv h⟩
  have q := TF_far hA hAt hF hD hD0 hg (g0 := 3 * p1.toNatClampNeg) hg0
  rw [Ed_left hleft] at q
  exact q
theorem freeT {n : Nat} {x0_shelf : (Nat → Int32)} {x0_rowSort : (Nat → Int32)} {x0_rowSize : (Nat → Int32)} {x0_rows : (Nat → Nat → Int64)} {x0_moved : (Nat → Int64)} {x0_shown : (Nat → Int32)} {x0_tape : (Nat → Int32)} {x0_tapeSize : Int32} {x0_refused : (Nat → Int32)} {x0_lines : Int32} {x0_line : (Nat → Nat → Int32)} {x0_changes : (Nat → Int32)} {x0_coins : (Nat → Int32)} {x0_goods : Int32} {x0_good : (Nat → Nat → Int32)} {x0_works : Int32} {x0_work : (Nat → Nat → Int32)} {x0_years : Int32} {x0_gone : Int32} {x0_spent : Int32} {x0_at : Int32} {x0_token : Int32} {x0_from : Int32} {x0_figures : Int64} {x0_fault : Int32} {x0_numbers : (Nat → Int32)} {x0_statements : Int32} {x0_left : (Nat → Int32)} {x0_far : (Nat → Int32)} {x0_tons : Int32} {x0_way : (Nat → Int32)} {x0_steps : Int32} {x0_met : Int64} {x0_queue : (Nat → Int32)} {x0_totals : (Nat → Int32)} (hn : 1000000000000 ≤ n) (h_x0_shelf : (AI 0 2 x0_shelf)) (h_x0_rowSize : (AI 0 40 x0_rowSize)) (h_x0_tapeSize : (0 ≤ x0_tapeSize ∧ x0_tapeSize ≤ 250)) (h_x0_lines : (0 ≤ x0_lines ∧ x0_lines ≤ 20)) (h_x0_line : (LnM x0_line)) (h_x0_changes : (AI 0 99 x0_changes)) (h_x0_coins : (AI 0 9 x0_coins)) (h_x0_goods : (0 ≤ x0_goods ∧ x0_goods ≤ 8)) (h_x0_good : (GdM x0_good)) (h_x0_works : (0 ≤ x0_works ∧ x0_works ≤ 7)) (h_x0_work : (WkM x0_work)) (h_x0_years : (1 ≤ x0_years ∧ x0_years ≤ 30)) (h_x0_from : (0 ≤ x0_from ∧ x0_from ≤ 250)) (h_x0_far : (AI 0 1000000000 x0_far)) (h_x0_way : (AI 0 22 x0_way)) (h_x0_steps : (0 ≤ x0_steps ∧ x0_steps ≤ 37)) (h_x0_queue : (AI 0 35 x0_queue)) {Tq : Nat → Nat → Int32} (hT : Tz (EdL x0_lines.toNatClampNeg x0_line x0_changes x0_coins) Tq) : Sf (fX7_free n (x0_shelf, x0_rowSort, x0_rowSize, x0_rows, x0_moved, x0_shown, x0_tape, x0_tapeSize, x0_refused, x0_lines, x0_line, x0_changes, x0_coins, x0_goods, x0_good, x0_works, x0_work, x0_years, x0_gone, x0_spent, x0_at, x0_token, x0_from, x0_figures, x0_fault, x0_numbers, x0_statements, x0_left, x0_far, x0_tons, x0_way, x0_steps, x0_met, x0_queue, x0_totals)) (fun r => r.1 = FreeF Tq x0_good x0_goods.toNatClampNeg) := by
  unfold fX7_free
  dsimp only [u35]
  refine Sf.bind (refillS hn h_x0_lines) ?_
  intro g1 e1
  have hleft : ∀ l, l < x0_lines.toNatClampNeg → ¬ g1 l < 0 := by
    intro l hl
    rw [e1 l hl]
    exact Int32.not_lt.mpr (h_x0_line l 4).1
  refine Sf.bind (P := fun r : Int32 × (Nat → Int32) × Int32 => r.1 = FreeF Tq x0_good x0_goods.toNatClampNeg) ?_ ?_
  · refine Sf.loop4 (fun z4 z5 z6 z7 => (0 ≤ z5 ∧ z5 ≤ x0_goods) ∧ AI 0 1000000000 z6 ∧ z4 = sm (tm Tq x0_good) z5.toNatClampNeg) (fun z4 z5 z6 z7 => muUp z5) (fun z4 z5 z6 z7 h => ?_) (show (0 ≤ (0 : Int32) ∧ (0 : Int32) ≤ x0_goods) ∧ AI 0 1000000000 x0_far ∧ (0 : Int32) = sm (tm Tq x0_good) (0 : Int32).toNatClampNeg from ⟨⟨by decide, h_x0_goods.1⟩, h_x0_far, rfl⟩) (muUp_n hn)
    obtain ⟨⟨h0, h1⟩, h6, h4⟩ := h
    unfold fX7_free_s8
    refine Sf.ite (fun hc => ?_) (fun hc => ?_)
    · refine Sf.inr (show z4 = FreeF Tq x0_good x0_goods.toNatClampNeg from ?_)
      have e : z5 = x0_goods := Int32.le_antisymm h1 hc
      rw [h4, e]
      rfl
    · obtain ⟨u1, u2, u3⟩ := up1 h0 (Int32.le_trans h_x0_goods.2 (by decide)) hc
      have hz : 0 ≤ z5 ∧ z5 < 8 := ⟨h0, Int32.lt_of_lt_of_le u3 h_x0_goods.2⟩
      have hz1 : z5 + 1 ≤ x0_goods := by clear h4 hT; grind
      refine Sf.ckb 8 rfl hz (fun q12 e_q12 h_q12 => ?_)
      refine Sf.rdl 1 rfl rfl (fun v13 e_v13 => ?_)
      have h_v13 : 0 ≤ v13 ∧ v13 ≤ 11 := by rw [e_v13]; exact (h_x0_good q12) 1
      refine Sf.bind (farT hn h_x0_shelf h_x0_rowSize h_x0_tapeSize h_x0_lines h_x0_line h_x0_changes h_x0_coins h_x0_goods h_x0_good h_x0_works h_x0_work h_x0_years h_x0_from h6 h_x0_way h_x0_steps h_x0_queue h_v13 hleft) ?_
      rintro ⟨g14, g15⟩ ⟨hA, hTF, hlt⟩
      have hA : AI 0 1000000000 g14 := hA
      try dsimp only [u2]
      refine Sf.ckb 8 rfl hz (fun q17 e_q17 h_q17 => ?_)
      refine Sf.rdl 0 rfl rfl (fun v18 e_v18 => ?_)
      have h_v18 : 0 ≤ v18 ∧ v18 ≤ 11 := by rw [e_v18]; exact (h_x0_good q17) 0
      refine Sf.bind (leastS hn h_v18) ?_
      intro v19 hr3
      have hc13 := p_of h_v13
      have e := cst_far (hT _ hc13).1 (p_of h_v18) (TF_uniq hTF (hT _ hc13)) hlt hr3
      refine Sf.ckb 8 rfl hz (fun q21 e_q21 h_q21 => ?_)
      refine Sf.rdl 2 rfl rfl (fun v22 e_v22 => ?_)
      have key : ∀ x : Int32, cst (Tq v13.toNatClampNeg) v18.toNatClampNeg = x → z4 + v22 * x = sm (tm Tq x0_good) (z5 + 1).toNatClampNeg := by
        intro x hx
        rw [u2]
        show z4 + v22 * x = sm (tm Tq x0_good) z5.toNatClampNeg + tm Tq x0_good z5.toNatClampNeg
        rw [h4, ← hx]
        unfold tm
        rw [e_v22, e_v13, e_v18, e_q21, e_q12, e_q17]
      refine Sf.ite (fun hc4 => ?_) (fun hc4 => ?_)
      · rw [if_pos hc4] at e
        exact Sf.inl (show (0 ≤ z5 + 1 ∧ z5 + 1 ≤ x0_goods) ∧ AI 0 1000000000 g14 ∧ z4 + v22 * v19 = sm (tm Tq x0_good) (z5 + 1).toNatClampNeg from ⟨⟨u1, hz1⟩, hA, key _ e⟩) (muUp_lt hc)
      · rw [if_neg hc4] at e
        exact Sf.inl (show (0 ≤ z5 + 1 ∧ z5 + 1 ≤ x0_goods) ∧ AI 0 1000000000 g14 ∧ z4 + v22 * 999 = sm (tm Tq x0_good) (z5 + 1).toNatClampNeg from ⟨⟨u1, hz1⟩, hA, key _ e⟩) (muUp_lt hc)
  · rintro ⟨w9, w10, w11⟩ h
    exact Sf.ok h
/-- the least costs of a land are there -/
theorem Tz_ex {L : Int32} {line : Nat → Nat → Int32} {changes coins : Nat → Int32} (hL : 0 ≤ L ∧ L ≤ 20) (hl : LnM line) (hch : AI 0 99 changes) (hco : AI 0 9 coins) : ∃ Tq, Tz (EdL L.toNatClampNeg line changes coins) Tq := by
  have z : AI 0 1000000000 (fun _ => 0) := fun _ => (show (0 : Int32) ≤ 0 ∧ (0 : Int32) ≤ 1000000000 by decide)
  have z22 : AI 0 22 (fun _ => 0) := fun _ => (show (0 : Int32) ≤ 0 ∧ (0 : Int32) ≤ 22 by decide)
  have z35 : AI 0 35 (fun _ => 0) := fun _ => (show (0 : Int32) ≤ 0 ∧ (0 : Int32) ≤ 35 by decide)
  have z2 : AI 0 2 (fun _ => 0) := fun _ => (show (0 : Int32) ≤ 0 ∧ (0 : Int32) ≤ 2 by decide)
  have z40 : AI 0 40 (fun _ => 0) := fun _ => (show (0 : Int32) ≤ 0 ∧ (0 : Int32) ≤ 40 by decide)
  have b0 : ∀ B : Nat → Int32, (∀ k, 0 ≤ B k) → GI B (fun _ _ => 0) := fun B h q c => ⟨Int32.le_refl 0, h c⟩
  have zg : GdM (fun _ _ => 0) := b0 _ (by intro k; unfold gdB; rcases k with _ | _ | _ | k <;> first | decide | exact Int32.le_refl 0)
  have zw : WkM (fun _ _ => 0) := ⟨b0 _ (by intro k; unfold wkB; rcases k with _ | _ | _ | _ | _ | k <;> first | decide | exact Int32.le_refl 0), fun q hq => (show WkRm 0 0 0 by unfold WkRm; decide)⟩
  have h : ∀ q : Nat, ∃ T : Nat → Int32, q < 12 → TF (EdL L.toNatClampNeg line changes coins) (fun u => u / 3 = q) T := by
    intro q
    by_cases hq : q < 12
    · have hp : 0 ≤ Int32.ofNat q ∧ Int32.ofNat q ≤ 11 := by
        rcases (show q = 0 ∨ q = 1 ∨ q = 2 ∨ q = 3 ∨ q = 4 ∨ q = 5 ∨ q = 6 ∨ q = 7 ∨ q = 8 ∨ q = 9 ∨ q = 10 ∨ q = 11 by omega) with rfl | rfl | rfl | rfl | rfl | rfl | rfl | rfl | rfl | rfl | rfl | rfl <;> decide
      have e : (Int32.ofNat q).toNatClampNeg = q := by
        rcases (show q = 0 ∨ q = 1 ∨ q = 2 ∨ q = 3 ∨ q = 4 ∨ q = 5 ∨ q = 6 ∨ q = 7 ∨ q = 8 ∨ q = 9 ∨ q = 10 ∨ q = 11 by omega) with rfl | rfl | rfl | rfl | rfl | rfl | rfl | rfl | rfl | rfl | rfl | rfl <;> decide
      obtain ⟨r, _, _, hr, _⟩ := farT (n := 1000000000000) (x0_rowSort := fun _ => 0) (x0_rows := fun _ _ => 0) (x0_moved := fun _ => 0) (x0_shown := fun _ => 0) (x0_tape := fun _ => 0) (x0_refused := fun _ => 0) (x0_gone := 0) (x0_spent := 0) (x0_at := 0) (x0_token := 0) (x0_figures := 0) (x0_fault := 0) (x0_numbers := fun _ => 0) (x0_statements := 0) (x0_left := fun _ => 0) (x0_tons := 0) (x0_met := 0) (x0_totals := fun _ => 0) (x0_tapeSize := 0) (x0_goods := 0) (x0_works := 0) (x0_years := 1) (x0_from := 0) (x0_steps := 0) (Nat.le_refl _) z2 z40 (by decide) hL hl hch hco (by decide) zg (by decide) zw (by decide) (by decide) z z22 (by decide) z35 hp (fun _ _ => by decide)
      rw [e] at hr
      exact ⟨cut6 r.1, fun _ => hr⟩
    · exact ⟨fun _ => 0, fun hh => absurd hh hq⟩
  exact ⟨fun q => (h q).choose, fun q hq => (h q).choose_spec hq⟩
end
section
/-! the class's freeBy: by places, and yet the same sum -/
theorem ixg {z c : Int32} (hz : 0 ≤ z ∧ z < 8) (hc : 0 ≤ c ∧ c < 3) : (0 ≤ z * 3 + c ∧ z * 3 + c < 24) ∧ (z * 3 + c).toNatClampNeg = 3 * z.toNatClampNeg + c.toNatClampNeg := by
  obtain ⟨⟨a, b⟩, e⟩ := ix3' (p := z) (w := c) ⟨hz.1, Int32.le_trans (Int32.le_of_lt hz.2) (by decide)⟩ hc
  refine ⟨⟨a, ?_⟩, e⟩
  have p := i32_cl a
  have q := i32_cl hz.1
  have r := i32_cl hc.1
  have s := Int32.lt_iff_toInt_lt.mp hz.2
  have t := Int32.lt_iff_toInt_lt.mp hc.2
  have e8 : (8 : Int32).toInt = 8 := by decide
  have e3 : (3 : Int32).toInt = 3 := by decide
  have e24 : (24 : Int32).toInt = 24 := by decide
  refine Int32.lt_iff_toInt_lt.mpr ?_
  omega
theorem ofGoodsV {x2_lineCount : Int32} {x2_goodsCount : Int32} {x2_workCount : Int32} {x2_years : Int32} {x2_lines : (Nat → Int32)} {x2_goods : (Nat → Int32)} {x2_works : (Nat → Int32)} {x2_change : (Nat → Int32)} {x2_coin : (Nat → Int32)} {x2_knownFree : (Nat → Int32)} {x2_isKnown : Int32} {z c : Int32} (hz : 0 ≤ z ∧ z < 8) (hc : 0 ≤ c ∧ c < 3) : Sf (fX1_ofGoods (x2_lineCount, x2_goodsCount, x2_workCount, x2_years, x2_lines, x2_goods, x2_works, x2_change, x2_coin, x2_knownFree, x2_isKnown) z c) (fun r => r = x2_goods (3 * z.toNatClampNeg + c.toNatClampNeg)) := by
  unfold fX1_ofGoods
  dsimp only [u11]
  obtain ⟨hi, he⟩ := ixg hz hc
  refine Sf.rdb 24 rfl hi (fun v e => ?_)
  rw [he] at e
  exact Sf.ok e
theorem costS {n : Nat} {x1_edgeA : (Nat → Int32)} {x1_edgeB : (Nat → Int32)} {x1_edgeCost : (Nat → Int32)} {x1_edgeLine : (Nat → Int32)} {x1_change : (Nat → Int32)} {x1_away : (Nat → Int32)} {x1_steps : (Nat → Int32)} {x1_nodes : (Nat → Int32)} {x1_stepCount : Int32} {x1_open : (Nat → Int32)} {x1_openCount : Int32} {x1_seen : Int64} {x1_edgeCount : Int32} {x1_aim : Int32} {p1 : Int32} (hn : 1000000000000 ≤ n) (hp : 0 ≤ p1 ∧ p1 ≤ 11) : Sf (fX5_costFrom n (x1_edgeA, x1_edgeB, x1_edgeCost, x1_edgeLine, x1_change, x1_away, x1_steps, x1_nodes, x1_stepCount, x1_open, x1_openCount, x1_seen, x1_edgeCount, x1_aim) p1) (fun r => ∃ m, Ls 1000000 x1_away p1.toNatClampNeg m ∧ r = if 1000000 ≤ m then (-1) else m) := by
  unfold fX5_costFrom
  dsimp only [u14]
  refine Sf.bind (costL hn hp) ?_
  intro m h
  refine Sf.ite (fun hc => ?_) (fun hc => ?_)
  · exact Sf.ok ⟨m, h, by rw [if_pos hc]⟩
  · exact Sf.ok ⟨m, h, by rw [if_neg hc]⟩
/-- the goods that go to one place -/
def byP (f : Nat → Int32) (to : Nat → Nat) (P g : Nat) : Int32 := if to g = P then f g else 0
def upP (f : Nat → Int32) (to : Nat → Nat) (P g : Nat) : Int32 := if to g < P then f g else 0
theorem upP_next (f : Nat → Int32) (to : Nat → Nat) (P K : Nat) : sm (upP f to P) K + sm (byP f to P) K = sm (upP f to (P + 1)) K := by
  rw [sm_add]
  refine sm_congr K (fun g _ => ?_)
  unfold upP byP
  by_cases h1 : to g < P
  · rw [if_pos h1, if_neg (by omega), if_pos (by omega)]
    exact Int32.add_zero _
  · rw [if_neg h1]
    by_cases h2 : to g = P
    · rw [if_pos h2, if_pos (by omega)]
      exact Int32.zero_add _
    · rw [if_neg h2, if_neg (by omega)]
      exact Int32.zero_add _
theorem upP_all (f : Nat → Int32) (to : Nat → Nat) (P K : Nat) (h : ∀ g, g < K → to g < P) : sm (upP f to P) K = sm f K :=
  sm_congr K (fun g hg => by unfold upP; rw [if_pos (h g hg)])
theorem upP_none (f : Nat → Int32) (to : Nat → Nat) : ∀ K : Nat, sm (upP f to 0) K = 0
  | 0 => rfl
  | K + 1 => by
    show sm (upP f to 0) K + upP f to 0 K = 0
    rw [upP_none f to K]
    unfold upP
    rw [if_neg (Nat.not_lt_zero _)]
    rfl
/-- the two lands are alike, as FREE asks of them -/
def LaF (lc gc : Int32) (lines goods chg coin : Nat → Int32) (line good : Nat → Nat → Int32) (changes coins : Nat → Int32) : Prop :=
  (∀ l, l < lc.toNatClampNeg → ∀ c, c < 6 → line l c = lines (7 * l + c)) ∧ (∀ g, g < gc.toNatClampNeg → ∀ c, c < 3 → good g c = goods (3 * g + c)) ∧ (∀ p, p < 12 → changes p = chg p) ∧ (∀ w, w < 3 → coins w = coin w)
def AwT (Tq : Nat → Nat → Int32) (aw : Nat → Int32) (am : Int32) : Prop := ∀ p : Int32, 0 ≤ p ∧ p ≤ 11 → am = p → ∀ v, v < 36 → aw v = Tq p.toNatClampNeg v
theorem freeByT {n : Nat} {x0_left : (Nat → Int32)} {x0_earned : (Nat → Int32)} {x0_turnCost : Int32} {x0_turnWayless : Int32} {x1_edgeA : (Nat → Int32)} {x1_edgeB : (Nat → Int32)} {x1_edgeCost : (Nat → Int32)} {x1_edgeLine : (Nat → Int32)} {x1_change : (Nat → Int32)} {x1_away : (Nat → Int32)} {x1_steps : (Nat → Int32)} {x1_nodes : (Nat → Int32)} {x1_stepCount : Int32} {x1_open : (Nat → Int32)} {x1_openCount : Int32} {x1_seen : Int64} {x1_edgeCount : Int32} {x1_aim : Int32} {x2_lineCount : Int32} {x2_goodsCount : Int32} {x2_workCount : Int32} {x2_years : Int32} {x2_lines : (Nat → Int32)} {x2_goods : (Nat → Int32)} {x2_works : (Nat → Int32)} {x2_change : (Nat → Int32)} {x2_coin : (Nat → Int32)} {x2_knownFree : (Nat → Int32)} {x2_isKnown : Int32} {p2 : Int32} (hn : 1000000000000 ≤ n) (h_x1_edgeA : (AI 0 35 x1_edgeA)) (h_x1_edgeB : (AI 0 35 x1_edgeB)) (h_x1_edgeLine : (AI 0 19 x1_edgeLine)) (h_x1_steps : (AI 0 22 x1_steps)) (h_x1_nodes : (AI 0 35 x1_nodes)) (h_x1_stepCount : (0 ≤ x1_stepCount ∧ x1_stepCount ≤ 36)) (h_x1_open : (AI 0 35 x1_open)) (h_x1_openCount : (0 ≤ x1_openCount ∧ x1_openCount ≤ 36)) (h_x1_edgeCount : (0 ≤ x1_edgeCount ∧ x1_edgeCount ≤ 60)) (h_x2_lineCount : (0 ≤ x2_lineCount ∧ x2_lineCount ≤ 20)) (h_x2_goodsCount : (0 ≤ x2_goodsCount ∧ x2_goodsCount ≤ 8)) (h_x2_workCount : (0 ≤ x2_workCount ∧ x2_workCount ≤ 7)) (h_x2_years : (1 ≤ x2_years ∧ x2_years ≤ 30)) (h_x2_lines : (LnOk x2_lines)) (h_x2_goods : (GdOk x2_goods)) (h_x2_works : (WkOk x2_works)) (h_x2_change : (AI 0 99 x2_change)) (h_x2_coin : (AI 0 9 x2_coin)) {line good : Nat → Nat → Int32} {changes coins : Nat → Int32} {Tq : Nat → Nat → Int32} (ha : LaF x2_lineCount x2_goodsCount x2_lines x2_goods x2_change x2_coin line good changes coins) (hb : ∀ l, l < 20 → (tq p2 l = true ↔ (l < x2_lineCount.toNatClampNeg ∧ line l 6 = 0))) (hT : Tz (EdL x2_lineCount.toNatClampNeg line changes coins) Tq) : Sf (fX4_freeBy n (x0_left, x0_earned, x0_turnCost, x0_turnWayless) (x1_edgeA, x1_edgeB, x1_edgeCost, x1_edgeLine, x1_change, x1_away, x1_steps, x1_nodes, x1_stepCount, x1_open, x1_openCount, x1_seen, x1_edgeCount, x1_aim) (x2_lineCount, x2_goodsCount, x2_workCount, x2_years, x2_lines, x2_goods, x2_works, x2_change, x2_coin, x2_knownFree, x2_isKnown) p2) (fun r => r.1 = FreeF Tq good x2_goodsCount.toNatClampNeg) := by
  obtain ⟨ha1, ha2, ha3, ha4⟩ := ha
  unfold fX4_freeBy
  dsimp only [u4, u14, u11]
  refine Sf.bind (prepS hn h_x2_lines h_x2_coin h_x2_lineCount h_x1_edgeA h_x1_edgeB) ?_
  rintro ⟨g2, g3, g4, g5, g6, g7, g8⟩ ⟨q1, q2, q3, q4, q5, q6, q7⟩
  have q1 : g8 = (-1) := q1
  have q2 : AI 0 35 g2 := q2
  have q3 : AI 0 35 g3 := q3
  have q4 : 0 ≤ g7 ∧ g7 ≤ 60 := q4
  have q5 : ∀ e, e < g7.toNatClampNeg → 0 ≤ g4 e ∧ g4 e ≤ 999 := q5
  have q6 : ∀ k, k < 12 → g6 k = x2_change k := q6
  have q7 : EgOk x2_lines x2_coin p2 (fun l _ => l < x2_lineCount.toNatClampNeg) g2 g3 g4 g7.toNatClampNeg := q7
  have hL20 : x2_lineCount.toNatClampNeg ≤ 20 := by
    have a := i32_cl h_x2_lineCount.1
    have b := (i32_b h_x2_lineCount).2
    have e : (20 : Int32).toInt = 20 := by decide
    omega
  have hE : EdC g7.toNatClampNeg g2 g3 g4 g6 = EdL x2_lineCount.toNatClampNeg line changes coins := by
    funext u v c
    exact propext (EdC_Ed q7 hb hL20 ha1 ha4 (fun p hp => by rw [ha3 p hp, q6 p hp]) (fun l _ => by decide) u v c)
  have hC12 : C12 g6 := fun p hp => by rw [q6 p hp]; exact h_x2_change p
  try dsimp only [u7]
  have hto : ∀ g, g < x2_goodsCount.toNatClampNeg → (good g 1).toNatClampNeg < 12 ∧ (good g 0).toNatClampNeg < 12 := by
    intro g hg
    have b := fun c => h_x2_goods (3 * g + c)
    constructor
    · rw [ha2 g hg 1 (by decide)]
      refine p_of ?_
      have := b 1
      rw [show (3 * g + 1) % 3 = 1 by omega] at this
      exact this
    · rw [ha2 g hg 0 (by decide)]
      refine p_of ?_
      have := b 0
      rw [show (3 * g + 0) % 3 = 0 by omega] at this
      exact this
  have hG8 : x2_goodsCount ≤ 1000 := Int32.le_trans h_x2_goodsCount.2 (by decide)
  refine Sf.bind (P := fun r : Int32 × (Nat → Int32) × Int32 => r.1 = FreeF Tq good x2_goodsCount.toNatClampNeg) ?_ ?_
  · refine Sf.loop4 (fun (z11 z12 : Int32) (z13 : Nat → Int32) (z14 : Int32) => (0 ≤ z12 ∧ z12 ≤ 12) ∧ AwT Tq z13 z14 ∧ z11 = sm (upP (tm Tq good) (fun g => (good g 1).toNatClampNeg) z12.toNatClampNeg) x2_goodsCount.toNatClampNeg) (fun z11 z12 z13 z14 => muUp z12) (fun z11 z12 z13 z14 h => ?_) (show (0 ≤ (0 : Int32) ∧ (0 : Int32) ≤ 12) ∧ AwT Tq x1_away g8 ∧ (0 : Int32) = sm (upP (tm Tq good) (fun g => (good g 1).toNatClampNeg) (0 : Int32).toNatClampNeg) x2_goodsCount.toNatClampNeg from ⟨⟨by decide, by decide⟩, fun p hp e => ?_, (upP_none _ _ _).symm⟩) (muUp_n hn)
    · obtain ⟨⟨h0, h1⟩, h2, h3⟩ := h
      unfold fX4_freeBy_s14
      refine Sf.ite (fun hc => ?_) (fun hc => ?_)
      · refine Sf.inr (show z11 = FreeF Tq good x2_goodsCount.toNatClampNeg from ?_)
        have e : z12 = 12 := Int32.le_antisymm h1 hc
        rw [h3, e]
        exact upP_all _ _ _ _ (fun g hg => (hto g hg).1)
      · obtain ⟨u1, u2, u3⟩ := up1 h0 (B := 12) (by decide) hc
        have hz12 : 0 ≤ z12 ∧ z12 ≤ 11 := ⟨h0, by clear h3 hT hE; grind⟩
        refine Sf.bind (P := fun r : Int32 × (Nat → Int32) × Int32 => AwT Tq r.2.1 r.2.2 ∧ r.1 = z11 + sm (byP (tm Tq good) (fun g => (good g 1).toNatClampNeg) z12.toNatClampNeg) x2_goodsCount.toNatClampNeg) ?_ ?_
        · refine Sf.loop4 (fun (z20 z21 : Int32) (z22 : Nat → Int32) (z23 : Int32) => (0 ≤ z21 ∧ z21 ≤ x2_goodsCount) ∧ AwT Tq z22 z23 ∧ z20 = z11 + sm (byP (tm Tq good) (fun g => (good g 1).toNatClampNeg) z12.toNatClampNeg) z21.toNatClampNeg) (fun z20 z21 z22 z23 => muUp z21) (fun z20 z21 z22 z23 h => ?_) (show (0 ≤ (0 : Int32) ∧ (0 : Int32) ≤ x2_goodsCount) ∧ AwT Tq z13 z14 ∧ z11 = z11 + sm (byP (tm Tq good) (fun g => (good g 1).toNatClampNeg) z12.toNatClampNeg) (0 : Int32).toNatClampNeg from ⟨⟨by decide, h_x2_goodsCount.1⟩, h2, (Int32.add_zero z11).symm⟩) (muUp_n hn)
          obtain ⟨⟨i0, i1⟩, i2, i3⟩ := h
          unfold fX4_freeBy_s24
          refine Sf.ite (fun hd => ?_) (fun hd => ?_)
          · have e : z21 = x2_goodsCount := Int32.le_antisymm i1 hd
            exact Sf.inr (show AwT Tq z22 z23 ∧ z20 = z11 + sm (byP (tm Tq good) (fun g => (good g 1).toNatClampNeg) z12.toNatClampNeg) x2_goodsCount.toNatClampNeg from ⟨i2, by rw [i3, e]⟩)
          · obtain ⟨v1, v2, v3⟩ := up1 i0 hG8 hd
            have hz : 0 ≤ z21 ∧ z21 < 8 := ⟨i0, Int32.lt_of_lt_of_le v3 h_x2_goodsCount.2⟩
            have hz1 : z21 + 1 ≤ x2_goodsCount := by clear h3 i3 hT hE; grind
            have hgn : z21.toNatClampNeg < x2_goodsCount.toNatClampNeg := by
              have a := i32_cl i0
              have b := i32_cl h_x2_goodsCount.1
              have c := Int32.lt_iff_toInt_lt.mp v3
              omega
            have nx : sm (byP (tm Tq good) (fun g => (good g 1).toNatClampNeg) z12.toNatClampNeg) (z21 + 1).toNatClampNeg = sm (byP (tm Tq good) (fun g => (good g 1).toNatClampNeg) z12.toNatClampNeg) z21.toNatClampNeg + byP (tm Tq good) (fun g => (good g 1).toNatClampNeg) z12.toNatClampNeg z21.toNatClampNeg := by
              rw [v2]
              rfl
            refine Sf.bind (ofGoodsV hz (c := 1) ⟨by decide, by decide⟩) ?_
            intro v28 e28
            have e28 : v28 = good z21.toNatClampNeg 1 := by rw [e28, ha2 _ hgn 1 (by decide)]; rfl
            refine Sf.ite (fun hs => ?_) (fun hs => ?_)
            · have hto1 : (good z21.toNatClampNeg 1).toNatClampNeg = z12.toNatClampNeg := by rw [← e28, hs]
              have hTF := hT z12.toNatClampNeg (p_of hz12)
              refine Sf.bind (aimS hn q2 q3 q4 q5 hC12 hz12 (T := Tq z12.toNatClampNeg) (by rw [hE]; exact hTF) (fun e => i2 z12 hz12 e)) ?_
              rintro ⟨g30, g31⟩ ⟨r1, r2⟩
              have r1 : ∀ v, v < 36 → g30 v = Tq z12.toNatClampNeg v := r1
              have r2 : g31 = z12 := r2
              have hAw : AwT Tq g30 g31 := by
                intro p hp e v hv
                rw [r1 v hv, ← e, r2]
              try dsimp only [u2]
              refine Sf.bind (ofGoodsV hz (c := 0) ⟨by decide, by decide⟩) ?_
              intro v33 e33
              have e33 : v33 = good z21.toNatClampNeg 0 := by rw [e33, ha2 _ hgn 0 (by decide)]; rfl
              have h33 : 0 ≤ v33 ∧ v33 ≤ 11 := by
                rw [e33, ha2 _ hgn 0 (by decide)]
                have := h_x2_goods (3 * z21.toNatClampNeg + 0)
                rw [show (3 * z21.toNatClampNeg + 0) % 3 = 0 by omega] at this
                exact this
              refine Sf.bind (costS hn h33) ?_
              rintro v35 ⟨m, hm, e35⟩
              have hcst := cst_Ls hTF.1 (p_of h33) (Ls_congr (p_of h33) r1 hm)
              refine Sf.bind (ofGoodsV hz (c := 2) ⟨by decide, by decide⟩) ?_
              intro v37 e37
              have e37 : v37 = good z21.toNatClampNeg 2 := by rw [e37, ha2 _ hgn 2 (by decide)]; rfl
              have key : ∀ x : Int32, cst (Tq z12.toNatClampNeg) v33.toNatClampNeg = x → z20 + v37 * x = z11 + sm (byP (tm Tq good) (fun g => (good g 1).toNatClampNeg) z12.toNatClampNeg) (z21 + 1).toNatClampNeg := by
                intro x hx
                rw [nx, ← Int32.add_assoc, ← i3, ← hx]
                unfold byP
                rw [if_pos hto1]
                unfold tm
                rw [hto1, e37, e33]
              have hmpos : 0 ≤ m := by
                rcases hm.2.2 with e | ⟨w, hw, e⟩
                · rw [e]; decide
                · have h36 : 3 * v33.toNatClampNeg + w < 36 := by have := p_of h33; omega
                  have hx : 0 ≤ g30 (3 * v33.toNatClampNeg + w) := by rw [r1 _ h36]; exact (hTF.1 _ h36).1
                  rw [e]
                  exact hx
              refine Sf.ite (fun ht => ?_) (fun ht => ?_)
              · have hc1 : 1000000 ≤ m := by
                  refine Classical.byContradiction fun hn' => ?_
                  rw [if_neg hn'] at e35
                  rw [← e35, ht] at hmpos
                  exact absurd hmpos (by decide)
                rw [if_neg (Int32.not_lt.mpr hc1)] at hcst
                exact Sf.inl (show (0 ≤ z21 + 1 ∧ z21 + 1 ≤ x2_goodsCount) ∧ AwT Tq g30 g31 ∧ z20 + v37 * 999 = z11 + sm (byP (tm Tq good) (fun g => (good g 1).toNatClampNeg) z12.toNatClampNeg) (z21 + 1).toNatClampNeg from ⟨⟨v1, hz1⟩, hAw, key _ hcst⟩) (muUp_lt hd)
              · have hc1 : ¬ 1000000 ≤ m := by
                  intro hn'
                  rw [if_pos hn'] at e35
                  exact ht e35
                rw [if_neg hc1] at e35
                rw [if_pos (Int32.not_le.mp hc1), ← e35] at hcst
                exact Sf.inl (show (0 ≤ z21 + 1 ∧ z21 + 1 ≤ x2_goodsCount) ∧ AwT Tq g30 g31 ∧ z20 + v37 * v35 = z11 + sm (byP (tm Tq good) (fun g => (good g 1).toNatClampNeg) z12.toNatClampNeg) (z21 + 1).toNatClampNeg from ⟨⟨v1, hz1⟩, hAw, key _ hcst⟩) (muUp_lt hd)
            · have hto1 : ¬ (good z21.toNatClampNeg 1).toNatClampNeg = z12.toNatClampNeg := by
                rw [← e28]
                intro hh
                refine hs (Int32.toInt_inj.mp ?_)
                have h28 : 0 ≤ v28 := by
                  rw [e28, ha2 _ hgn 1 (by decide)]
                  exact (h_x2_goods _).1
                have a := i32_cl h28
                have b := i32_cl h0
                omega
              refine Sf.inl (show (0 ≤ z21 + 1 ∧ z21 + 1 ≤ x2_goodsCount) ∧ AwT Tq z22 z23 ∧ z20 = z11 + sm (byP (tm Tq good) (fun g => (good g 1).toNatClampNeg) z12.toNatClampNeg) (z21 + 1).toNatClampNeg from ⟨⟨v1, hz1⟩, i2, ?_⟩) (muUp_lt hd)
              rw [nx, i3]
              unfold byP
              rw [if_neg hto1, Int32.add_zero]
        · rintro ⟨w25, w26, w27⟩ ⟨k1, k2⟩
          have k2 : w25 = z11 + sm (byP (tm Tq good) (fun g => (good g 1).toNatClampNeg) z12.toNatClampNeg) x2_goodsCount.toNatClampNeg := k2
          try dsimp only [u3]
          refine Sf.inl (show (0 ≤ z12 + 1 ∧ z12 + 1 ≤ 12) ∧ AwT Tq w26 w27 ∧ w25 = sm (upP (tm Tq good) (fun g => (good g 1).toNatClampNeg) (z12 + 1).toNatClampNeg) x2_goodsCount.toNatClampNeg from ⟨⟨u1, by clear k2 h3 hT hE; grind⟩, k1, ?_⟩) (muUp_lt hc)
          rw [k2, h3, u2, upP_next]
    · rw [q1] at e
      rw [← e] at hp
      exact absurd hp.1 (by decide)
  · rintro ⟨w16, w17, w18⟩ h
    exact Sf.ok h
end
section
/-! FREE as a function of the land, and works done on it -/
theorem va_eq {α : Type} (f : Nat → α) (k : Nat) (a : α) : va_up f k a k = a := by
  unfold va_up
  exact if_pos rfl
theorem va_ne {α : Type} (f : Nat → α) {k j : Nat} (a : α) (h : j ≠ k) : va_up f k a j = f j := by
  unfold va_up
  exact if_neg h
noncomputable def Free (L : Int32) (line : Nat → Nat → Int32) (changes coins : Nat → Int32) (good : Nat → Nat → Int32) (G : Int32) : Int32 :=
  FreeF (Classical.epsilon (Tz (EdL L.toNatClampNeg line changes coins))) good G.toNatClampNeg
theorem Free_eq {L : Int32} {line : Nat → Nat → Int32} {changes coins : Nat → Int32} {good : Nat → Nat → Int32} {G : Int32} {Tq : Nat → Nat → Int32} (h : Tz (EdL L.toNatClampNeg line changes coins) Tq) (hg : GdM good) : FreeF Tq good G.toNatClampNeg = Free L line changes coins good G :=
  FreeF_uniq h (Classical.epsilon_spec ⟨Tq, h⟩) hg _
theorem EdL_congr {L : Nat} {line line' : Nat → Nat → Int32} {changes coins changes' coins' : Nat → Int32} (hl : ∀ l, l < L → ∀ c, c < 7 → line l c = line' l c) (hch : ∀ p, p < 12 → changes p = changes' p) (hco : ∀ w, w < 3 → coins w = coins' w) : EdL L line changes coins = EdL L line' changes' coins' := by
  have one : ∀ {line line' : Nat → Nat → Int32} {changes coins changes' coins' : Nat → Int32}, (∀ l, l < L → ∀ c, c < 7 → line l c = line' l c) → (∀ p, p < 12 → changes p = changes' p) → (∀ w, w < 3 → coins w = coins' w) → ∀ u v c, EdL L line changes coins u v c → EdL L line' changes' coins' u v c := by
    intro line line' changes coins changes' coins' hl hch hco u v c h
    rcases h with ⟨l, w, hL, hw, ⟨b1, b2, b3⟩, e, hh⟩ | ⟨p, w, w', hp, hw, hw', e1, e2, e3⟩
    · rw [hl l hL 6 (by decide)] at b1
      rw [hl l hL 2 (by decide)] at b2
      rw [hl l hL 3 (by decide), hco w hw] at e
      rw [hl l hL 0 (by decide), hl l hL 1 (by decide)] at hh
      exact Or.inl ⟨l, w, hL, hw, ⟨b1, b2, b3⟩, e, hh⟩
    · rw [hch p hp] at e3
      exact Or.inr ⟨p, w, w', hp, hw, hw', e1, e2, e3⟩
  funext u v c
  exact propext ⟨one hl hch hco u v c, one (fun l hL c hc => (hl l hL c hc).symm) (fun p hp => (hch p hp).symm) (fun w hw => (hco w hw).symm) u v c⟩
theorem Free_congr {L : Int32} {line line' : Nat → Nat → Int32} {changes coins changes' coins' : Nat → Int32} {good good' : Nat → Nat → Int32} {G : Int32} (hl : ∀ l, l < L.toNatClampNeg → ∀ c, c < 7 → line l c = line' l c) (hch : ∀ p, p < 12 → changes p = changes' p) (hco : ∀ w, w < 3 → coins w = coins' w) (hg : ∀ g, g < G.toNatClampNeg → ∀ c, c < 3 → good g c = good' g c) : Free L line changes coins good G = Free L line' changes' coins' good' G := by
  unfold Free
  rw [EdL_congr hl hch hco]
  refine sm_congr _ (fun g h => ?_)
  unfold tm
  rw [hg g h 0 (by decide), hg g h 1 (by decide), hg g h 2 (by decide)]
theorem freeR {n : Nat} {x0_shelf : (Nat → Int32)} {x0_rowSort : (Nat → Int32)} {x0_rowSize : (Nat → Int32)} {x0_rows : (Nat → Nat → Int64)} {x0_moved : (Nat → Int64)} {x0_shown : (Nat → Int32)} {x0_tape : (Nat → Int32)} {x0_tapeSize : Int32} {x0_refused : (Nat → Int32)} {x0_lines : Int32} {x0_line : (Nat → Nat → Int32)} {x0_changes : (Nat → Int32)} {x0_coins : (Nat → Int32)} {x0_goods : Int32} {x0_good : (Nat → Nat → Int32)} {x0_works : Int32} {x0_work : (Nat → Nat → Int32)} {x0_years : Int32} {x0_gone : Int32} {x0_spent : Int32} {x0_at : Int32} {x0_token : Int32} {x0_from : Int32} {x0_figures : Int64} {x0_fault : Int32} {x0_numbers : (Nat → Int32)} {x0_statements : Int32} {x0_left : (Nat → Int32)} {x0_far : (Nat → Int32)} {x0_tons : Int32} {x0_way : (Nat → Int32)} {x0_steps : Int32} {x0_met : Int64} {x0_queue : (Nat → Int32)} {x0_totals : (Nat → Int32)} (hn : 1000000000000 ≤ n) (h_x0_shelf : (AI 0 2 x0_shelf)) (h_x0_rowSize : (AI 0 40 x0_rowSize)) (h_x0_tapeSize : (0 ≤ x0_tapeSize ∧ x0_tapeSize ≤ 250)) (h_x0_lines : (0 ≤ x0_lines ∧ x0_lines ≤ 20)) (h_x0_line : (LnM x0_line)) (h_x0_changes : (AI 0 99 x0_changes)) (h_x0_coins : (AI 0 9 x0_coins)) (h_x0_goods : (0 ≤ x0_goods ∧ x0_goods ≤ 8)) (h_x0_good : (GdM x0_good)) (h_x0_works : (0 ≤ x0_works ∧ x0_works ≤ 7)) (h_x0_work : (WkM x0_work)) (h_x0_years : (1 ≤ x0_years ∧ x0_years ≤ 30)) (h_x0_from : (0 ≤ x0_from ∧ x0_from ≤ 250)) (h_x0_far : (AI 0 1000000000 x0_far)) (h_x0_way : (AI 0 22 x0_way)) (h_x0_steps : (0 ≤ x0_steps ∧ x0_steps ≤ 37)) (h_x0_queue : (AI 0 35 x0_queue)) : Sf (fX7_free n (x0_shelf, x0_rowSort, x0_rowSize, x0_rows, x0_moved, x0_shown, x0_tape, x0_tapeSize, x0_refused, x0_lines, x0_line, x0_changes, x0_coins, x0_goods, x0_good, x0_works, x0_work, x0_years, x0_gone, x0_spent, x0_at, x0_token, x0_from, x0_figures, x0_fault, x0_numbers, x0_statements, x0_left, x0_far, x0_tons, x0_way, x0_steps, x0_met, x0_queue, x0_totals)) (fun r => r.1 = Free x0_lines x0_line x0_changes x0_coins x0_good x0_goods) := by
  obtain ⟨Tq, hT⟩ := Tz_ex h_x0_lines h_x0_line h_x0_changes h_x0_coins
  exact Sf.mono (freeT hn h_x0_shelf h_x0_rowSize h_x0_tapeSize h_x0_lines h_x0_line h_x0_changes h_x0_coins h_x0_goods h_x0_good h_x0_works h_x0_work h_x0_years h_x0_from h_x0_far h_x0_way h_x0_steps h_x0_queue hT) (fun r h => h.trans (Free_eq hT h_x0_good))
/-- a flat row as rows -/
def ro (m : Nat) (f : Nat → Int32) (q c : Nat) : Int32 := if c < m then f (m * q + c) else 0
theorem ro_eq {m : Nat} {f : Nat → Int32} {q c : Nat} (h : c < m) : ro m f q c = f (m * q + c) := if_pos h
theorem ro_GI {B : Nat → Int32} {m : Nat} {f : Nat → Int32} (hB : ∀ k, 0 ≤ B k) (h : BI B m f) : GI B (ro m f) := by
  intro q c
  by_cases hc : c < m
  · rw [ro_eq hc]
    have := h (m * q + c)
    rw [Nat.mul_add_mod, Nat.mod_eq_of_lt hc] at this
    exact this
  · unfold ro
    rw [if_neg hc]
    exact ⟨Int32.le_refl 0, hB c⟩
theorem lnB0 : ∀ k, 0 ≤ lnB k := by
  intro k
  unfold lnB
  rcases k with _ | _ | _ | _ | _ | _ | _ | k <;> first | decide | exact Int32.le_refl 0
theorem gdB0 : ∀ k, 0 ≤ gdB k := by
  intro k
  unfold gdB
  rcases k with _ | _ | _ | k <;> first | decide | exact Int32.le_refl 0
theorem freeByC {n : Nat} {x0_left : (Nat → Int32)} {x0_earned : (Nat → Int32)} {x0_turnCost : Int32} {x0_turnWayless : Int32} {x1_edgeA : (Nat → Int32)} {x1_edgeB : (Nat → Int32)} {x1_edgeCost : (Nat → Int32)} {x1_edgeLine : (Nat → Int32)} {x1_change : (Nat → Int32)} {x1_away : (Nat → Int32)} {x1_steps : (Nat → Int32)} {x1_nodes : (Nat → Int32)} {x1_stepCount : Int32} {x1_open : (Nat → Int32)} {x1_openCount : Int32} {x1_seen : Int64} {x1_edgeCount : Int32} {x1_aim : Int32} {x2_lineCount : Int32} {x2_goodsCount : Int32} {x2_workCount : Int32} {x2_years : Int32} {x2_lines : (Nat → Int32)} {x2_goods : (Nat → Int32)} {x2_works : (Nat → Int32)} {x2_change : (Nat → Int32)} {x2_coin : (Nat → Int32)} {x2_knownFree : (Nat → Int32)} {x2_isKnown : Int32} {p2 : Int32} (hn : 1000000000000 ≤ n) (h_x1_edgeA : (AI 0 35 x1_edgeA)) (h_x1_edgeB : (AI 0 35 x1_edgeB)) (h_x1_edgeLine : (AI 0 19 x1_edgeLine)) (h_x1_steps : (AI 0 22 x1_steps)) (h_x1_nodes : (AI 0 35 x1_nodes)) (h_x1_stepCount : (0 ≤ x1_stepCount ∧ x1_stepCount ≤ 36)) (h_x1_open : (AI 0 35 x1_open)) (h_x1_openCount : (0 ≤ x1_openCount ∧ x1_openCount ≤ 36)) (h_x1_edgeCount : (0 ≤ x1_edgeCount ∧ x1_edgeCount ≤ 60)) (h_x2_lineCount : (0 ≤ x2_lineCount ∧ x2_lineCount ≤ 20)) (h_x2_goodsCount : (0 ≤ x2_goodsCount ∧ x2_goodsCount ≤ 8)) (h_x2_workCount : (0 ≤ x2_workCount ∧ x2_workCount ≤ 7)) (h_x2_years : (1 ≤ x2_years ∧ x2_years ≤ 30)) (h_x2_lines : (LnOk x2_lines)) (h_x2_goods : (GdOk x2_goods)) (h_x2_works : (WkOk x2_works)) (h_x2_change : (AI 0 99 x2_change)) (h_x2_coin : (AI 0 9 x2_coin)) (hb : ∀ l, l < 20 → (tq p2 l = true ↔ (l < x2_lineCount.toNatClampNeg ∧ x2_lines (7 * l + 6) = 0))) : Sf (fX4_freeBy n (x0_left, x0_earned, x0_turnCost, x0_turnWayless) (x1_edgeA, x1_edgeB, x1_edgeCost, x1_edgeLine, x1_change, x1_away, x1_steps, x1_nodes, x1_stepCount, x1_open, x1_openCount, x1_seen, x1_edgeCount, x1_aim) (x2_lineCount, x2_goodsCount, x2_workCount, x2_years, x2_lines, x2_goods, x2_works, x2_change, x2_coin, x2_knownFree, x2_isKnown) p2) (fun r => r.1 = Free x2_lineCount (ro 7 x2_lines) x2_change x2_coin (ro 3 x2_goods) x2_goodsCount) := by
  have hl : LnM (ro 7 x2_lines) := ro_GI lnB0 h_x2_lines
  have hg : GdM (ro 3 x2_goods) := ro_GI gdB0 h_x2_goods
  obtain ⟨Tq, hT⟩ := Tz_ex h_x2_lineCount hl h_x2_change h_x2_coin
  refine Sf.mono (freeByT hn h_x1_edgeA h_x1_edgeB h_x1_edgeLine h_x1_steps h_x1_nodes h_x1_stepCount h_x1_open h_x1_openCount h_x1_edgeCount h_x2_lineCount h_x2_goodsCount h_x2_workCount h_x2_years h_x2_lines h_x2_goods h_x2_works h_x2_change h_x2_coin (line := ro 7 x2_lines) (good := ro 3 x2_goods) ⟨fun l _ c hc => ro_eq (by omega), fun g _ c hc => ro_eq hc, fun p _ => rfl, fun w _ => rfl⟩ (fun l hl' => ?_) hT) (fun r h => h.trans (Free_eq hT hg))
  rw [ro_eq (by decide)]
  exact hb l hl'
abbrev Ab : Type := Int32 × (Nat → Nat → Int32) × (Nat → Int32)
def AbEq (A B : Ab) : Prop := A.1 = B.1 ∧ (∀ l, l < A.1.toNatClampNeg → ∀ c, c < 7 → A.2.1 l c = B.2.1 l c) ∧ ∀ p, p < 12 → A.2.2 p = B.2.2 p
theorem AbEq.refl (A : Ab) : AbEq A A := ⟨rfl, fun _ _ _ _ => rfl, fun _ _ => rfl⟩
theorem AbEq.symm {A B : Ab} (h : AbEq A B) : AbEq B A := ⟨h.1.symm, fun l hl c hc => (h.2.1 l (by rw [h.1]; exact hl) c hc).symm, fun p hp => (h.2.2 p hp).symm⟩
theorem AbEq.trans {A B C : Ab} (h : AbEq A B) (h' : AbEq B C) : AbEq A C := ⟨h.1.trans h'.1, fun l hl c hc => (h.2.1 l hl c hc).trans (h'.2.1 l (by rw [← h.1]; exact hl) c hc), fun p hp => (h.2.2 p hp).trans (h'.2.2 p hp)⟩
/-- a new line's row -/
def nlR (a b B : Int32) (c : Nat) : Int32 := ([a, b, 7, 10, B, 0, 0] : List Int32).getD c 0
def doA (work : Nat → Nat → Int32) (k : Nat) (A : Ab) : Ab :=
  if work k 0 = 1 then (A.1, va_up A.2.1 (work k 1).toNatClampNeg (va_up (A.2.1 (work k 1).toNatClampNeg) 2 ((1 : Int32) <<< (work k 2 &&& 31))), A.2.2)
  else if work k 0 = 2 then (A.1, va_up A.2.1 (work k 1).toNatClampNeg (va_up (A.2.1 (work k 1).toNatClampNeg) 2 (A.2.1 (work k 1).toNatClampNeg 2 ||| ((1 : Int32) <<< (work k 2 &&& 31)))), A.2.2)
  else if work k 0 = 3 then (A.1, A.2.1, va_up A.2.2 (work k 1).toNatClampNeg (work k 2))
  else if 20 ≤ A.1 then A
  else (A.1 + 1, va_up A.2.1 A.1.toNatClampNeg (nlR (work k 1) (work k 2) (if work k 0 = 4 then 99 else 198)), A.2.2)
/-- a work is well-formed on a land -/
def Wf1 (work : Nat → Nat → Int32) (L : Int32) (k : Nat) : Prop := (1 ≤ work k 0 ∧ work k 0 ≤ 5) ∧ 0 ≤ work k 1 ∧ (work k 0 = 1 ∨ work k 0 = 2 → work k 1 < L) ∧ (work k 0 = 3 → work k 1 ≤ 11)
theorem doA_congr {work work' : Nat → Nat → Int32} {k : Nat} {A B : Ab} (h : AbEq A B) (hw : ∀ c, c < 3 → work k c = work' k c) (hf : Wf1 work A.1 k) (h0 : 0 ≤ A.1 ∧ A.1 ≤ 20) : AbEq (doA work k A) (doA work' k B) := by
  obtain ⟨e1, e2, e3⟩ := h
  obtain ⟨f1, f2, f3, f4⟩ := hf
  have lt : work k 0 = 1 ∨ work k 0 = 2 → (work k 1).toNatClampNeg < A.1.toNatClampNeg := by
    intro hk
    have a := i32_cl f2
    have b := i32_cl h0.1
    have c := Int32.lt_iff_toInt_lt.mp (f3 hk)
    omega
  have row : ∀ (a : Nat) (x y : Int32) (l : Nat), l < A.1.toNatClampNeg → x = y → ∀ c, c < 7 → va_up A.2.1 a (va_up (A.2.1 a) 2 x) l c = va_up B.2.1 a (va_up (B.2.1 a) 2 y) l c := by
    intro a x y l hl hx c hc
    subst hx
    by_cases hla : l = a
    · subst hla
      rw [va_eq, va_eq]
      by_cases h2 : c = 2
      · subst h2
        rw [va_eq, va_eq]
      · rw [va_ne _ _ h2, va_ne _ _ h2]
        exact e2 l hl c hc
    · rw [va_ne _ _ hla, va_ne _ _ hla]
      exact e2 l hl c hc
  unfold doA
  rw [← hw 0 (by decide), ← hw 1 (by decide), ← hw 2 (by decide)]
  by_cases k1 : work k 0 = 1
  · rw [if_pos k1, if_pos k1]
    exact ⟨e1, fun l hl c hc => row _ _ _ l hl rfl c hc, e3⟩
  rw [if_neg k1, if_neg k1]
  by_cases k2 : work k 0 = 2
  · rw [if_pos k2, if_pos k2]
    exact ⟨e1, fun l hl c hc => row _ _ _ l hl (by rw [e2 _ (lt (Or.inr k2)) 2 (by decide)]) c hc, e3⟩
  rw [if_neg k2, if_neg k2]
  by_cases k3 : work k 0 = 3
  · rw [if_pos k3, if_pos k3]
    refine ⟨e1, e2, fun p hp => ?_⟩
    show va_up A.2.2 _ _ p = va_up B.2.2 _ _ p
    by_cases hpa : p = (work k 1).toNatClampNeg
    · subst hpa
      rw [va_eq, va_eq]
    · rw [va_ne _ _ hpa, va_ne _ _ hpa]
      exact e3 p hp
  rw [if_neg k3, if_neg k3, ← e1]
  by_cases k4 : 20 ≤ A.1
  · rw [if_pos k4, if_pos k4]
    exact ⟨e1, e2, e3⟩
  · rw [if_neg k4, if_neg k4]
    refine ⟨rfl, fun l hl c hc => ?_, e3⟩
    have hl : l < (A.1 + 1).toNatClampNeg := hl
    obtain ⟨u1, u2, u3⟩ := up1 h0.1 (B := 20) (by decide) k4
    rw [u2] at hl
    show va_up A.2.1 _ _ l c = va_up B.2.1 _ _ l c
    by_cases hla : l = A.1.toNatClampNeg
    · subst hla
      rw [va_eq, va_eq]
    · rw [va_ne _ _ hla, va_ne _ _ hla]
      exact e2 l (by omega) c hc
theorem doA_L {work : Nat → Nat → Int32} {k : Nat} {A : Ab} (h0 : 0 ≤ A.1 ∧ A.1 ≤ 20) : A.1 ≤ (doA work k A).1 ∧ 0 ≤ (doA work k A).1 ∧ (doA work k A).1 ≤ 20 := by
  unfold doA
  by_cases k1 : work k 0 = 1
  · rw [if_pos k1]; exact ⟨Int32.le_refl _, h0⟩
  rw [if_neg k1]
  by_cases k2 : work k 0 = 2
  · rw [if_pos k2]; exact ⟨Int32.le_refl _, h0⟩
  rw [if_neg k2]
  by_cases k3 : work k 0 = 3
  · rw [if_pos k3]; exact ⟨Int32.le_refl _, h0⟩
  rw [if_neg k3]
  by_cases k4 : 20 ≤ A.1
  · rw [if_pos k4]; exact ⟨Int32.le_refl _, h0⟩
  · rw [if_neg k4]
    show A.1 ≤ A.1 + 1 ∧ 0 ≤ A.1 + 1 ∧ A.1 + 1 ≤ 20
    obtain ⟨u1, u2, u3⟩ := up1 h0.1 (B := 20) (by decide) k4
    clear k1 k2 k3
    grind
end
section
/-! works done: both sides do doA -/
theorem newLineS {x0_shelf : (Nat → Int32)} {x0_rowSort : (Nat → Int32)} {x0_rowSize : (Nat → Int32)} {x0_rows : (Nat → Nat → Int64)} {x0_moved : (Nat → Int64)} {x0_shown : (Nat → Int32)} {x0_tape : (Nat → Int32)} {x0_tapeSize : Int32} {x0_refused : (Nat → Int32)} {x0_lines : Int32} {x0_line : (Nat → Nat → Int32)} {x0_changes : (Nat → Int32)} {x0_coins : (Nat → Int32)} {x0_goods : Int32} {x0_good : (Nat → Nat → Int32)} {x0_works : Int32} {x0_work : (Nat → Nat → Int32)} {x0_years : Int32} {x0_gone : Int32} {x0_spent : Int32} {x0_at : Int32} {x0_token : Int32} {x0_from : Int32} {x0_figures : Int64} {x0_fault : Int32} {x0_numbers : (Nat → Int32)} {x0_statements : Int32} {x0_left : (Nat → Int32)} {x0_far : (Nat → Int32)} {x0_tons : Int32} {x0_way : (Nat → Int32)} {x0_steps : Int32} {x0_met : Int64} {x0_queue : (Nat → Int32)} {x0_totals : (Nat → Int32)} {p1 p2 : Int32} (hL : 0 ≤ x0_lines ∧ x0_lines < 20) : Sf (fX7_newLine (x0_shelf, x0_rowSort, x0_rowSize, x0_rows, x0_moved, x0_shown, x0_tape, x0_tapeSize, x0_refused, x0_lines, x0_line, x0_changes, x0_coins, x0_goods, x0_good, x0_works, x0_work, x0_years, x0_gone, x0_spent, x0_at, x0_token, x0_from, x0_figures, x0_fault, x0_numbers, x0_statements, x0_left, x0_far, x0_tons, x0_way, x0_steps, x0_met, x0_queue, x0_totals) p1 p2) (fun g => (∀ l, l ≠ x0_lines.toNatClampNeg → g l = x0_line l) ∧ ∀ c, c < 7 → g x0_lines.toNatClampNeg c = nlR p1 p2 999 c) := by
  unfold fX7_newLine
  dsimp only [u35]
  refine Sf.ckb 20 rfl hL (fun q1 e_q1 h_q1 => ?_)
  refine Sf.wrb 7 rfl (by decide) (fun f2 e2 => ?_)
  refine Sf.wrb 7 rfl (by decide) (fun f3 e3 => ?_)
  refine Sf.wrb 7 rfl (by decide) (fun f4 e4 => ?_)
  refine Sf.wrb 7 rfl (by decide) (fun f5 e5 => ?_)
  refine Sf.wrb 7 rfl (by decide) (fun f6 e6 => ?_)
  refine Sf.wrb 7 rfl (by decide) (fun f7 e7 => ?_)
  refine Sf.wrb 7 rfl (by decide) (fun f8 e8 => ?_)
  rw [va_eq] at e3 e4 e5 e6 e7 e8
  refine Sf.ok ⟨fun l hl => ?_, fun c hc => ?_⟩
  · rw [← e_q1] at hl
    rw [va_ne _ _ hl, va_ne _ _ hl, va_ne _ _ hl, va_ne _ _ hl, va_ne _ _ hl, va_ne _ _ hl, va_ne _ _ hl]
  · rw [← e_q1, va_eq, e8, e7, e6, e5, e4, e3, e2]
    rcases (show c = 0 ∨ c = 1 ∨ c = 2 ∨ c = 3 ∨ c = 4 ∨ c = 5 ∨ c = 6 by omega) with rfl | rfl | rfl | rfl | rfl | rfl | rfl <;> rfl
theorem nlR4 {a b x y : Int32} {c : Nat} (hc : c < 7) (f : Nat → Int32) (hf : ∀ c, c < 7 → f c = nlR a b x c) : va_up f 4 y c = nlR a b y c := by
  by_cases h : c = 4
  · subst h
    rw [va_eq]
    rfl
  · rw [va_ne _ _ h, hf c hc]
    rcases (show c = 0 ∨ c = 1 ∨ c = 2 ∨ c = 3 ∨ c = 5 ∨ c = 6 by omega) with rfl | rfl | rfl | rfl | rfl | rfl <;> rfl
theorem doesR {x0_shelf : (Nat → Int32)} {x0_rowSort : (Nat → Int32)} {x0_rowSize : (Nat → Int32)} {x0_rows : (Nat → Nat → Int64)} {x0_moved : (Nat → Int64)} {x0_shown : (Nat → Int32)} {x0_tape : (Nat → Int32)} {x0_tapeSize : Int32} {x0_refused : (Nat → Int32)} {x0_lines : Int32} {x0_line : (Nat → Nat → Int32)} {x0_changes : (Nat → Int32)} {x0_coins : (Nat → Int32)} {x0_goods : Int32} {x0_good : (Nat → Nat → Int32)} {x0_works : Int32} {x0_work : (Nat → Nat → Int32)} {x0_years : Int32} {x0_gone : Int32} {x0_spent : Int32} {x0_at : Int32} {x0_token : Int32} {x0_from : Int32} {x0_figures : Int64} {x0_fault : Int32} {x0_numbers : (Nat → Int32)} {x0_statements : Int32} {x0_left : (Nat → Int32)} {x0_far : (Nat → Int32)} {x0_tons : Int32} {x0_way : (Nat → Int32)} {x0_steps : Int32} {x0_met : Int64} {x0_queue : (Nat → Int32)} {x0_totals : (Nat → Int32)} {p1 : Int32} (h_x0_lines : (0 ≤ x0_lines ∧ x0_lines ≤ 20)) (h_x0_work : WkM x0_work) (h_p1 : 0 ≤ p1 ∧ p1 ≤ 6) : Sf (fX7_does (x0_shelf, x0_rowSort, x0_rowSize, x0_rows, x0_moved, x0_shown, x0_tape, x0_tapeSize, x0_refused, x0_lines, x0_line, x0_changes, x0_coins, x0_goods, x0_good, x0_works, x0_work, x0_years, x0_gone, x0_spent, x0_at, x0_token, x0_from, x0_figures, x0_fault, x0_numbers, x0_statements, x0_left, x0_far, x0_tons, x0_way, x0_steps, x0_met, x0_queue, x0_totals) p1) (fun r => AbEq (r.1, r.2.1, r.2.2.1) (doA x0_work p1.toNatClampNeg (x0_lines, x0_line, x0_changes)) ∧ r.2.2.2 = va_up x0_work p1.toNatClampNeg (va_up (x0_work p1.toNatClampNeg) 4 1)) := by
  unfold fX7_does
  dsimp only [u35]
  refine Sf.ckb 7 rfl (by grind) (fun q1 e_q1 h_q1 => ?_)
  refine Sf.wrb 5 rfl (by decide) (fun f2 e2 => ?_)
  have e2 : f2 = va_up (x0_work q1) 4 1 := e2
  have er : va_up x0_work q1 f2 q1 = f2 := va_eq _ _ _
  have n0 : f2 0 = x0_work q1 0 := by rw [e2]; exact va_ne _ _ (by decide)
  have n1 : f2 1 = x0_work q1 1 := by rw [e2]; exact va_ne _ _ (by decide)
  have n2 : f2 2 = x0_work q1 2 := by rw [e2]; exact va_ne _ _ (by decide)
  rw [er]
  obtain ⟨hB, hR⟩ := h_x0_work
  have hR := hR q1 (by omega)
  obtain ⟨r1, r2, r3⟩ := hR
  have hb1 : 0 ≤ x0_work q1 1 ∧ x0_work q1 1 ≤ 19 := hB q1 1
  have last : va_up x0_work q1 f2 = va_up x0_work p1.toNatClampNeg (va_up (x0_work p1.toNatClampNeg) 4 1) := by rw [e2, e_q1]
  refine Sf.rdl 0 rfl rfl (fun v3 e3 => ?_)
  rw [n0] at e3
  rw [← e_q1]
  rw [← e_q1] at last
  refine Sf.ite (fun k1 => ?_) (fun k1 => ?_)
  · rw [e3] at k1
    refine Sf.rdl 1 rfl rfl (fun v4 e4 => ?_)
    rw [n1] at e4
    refine Sf.ckb 20 rfl (by rw [e4]; grind) (fun q5 e_q5 h_q5 => ?_)
    refine Sf.rdl 2 rfl rfl (fun v6 e6 => ?_)
    rw [n2] at e6
    refine Sf.someb (fun t7 e7 => ?_)
    refine Sf.wrb 7 rfl (by decide) (fun f8 e8 => ?_)
    refine Sf.ok ⟨?_, last⟩
    unfold doA
    rw [if_pos k1]
    show AbEq (x0_lines, va_up x0_line q5 f8, x0_changes) (x0_lines, va_up x0_line (x0_work q1 1).toNatClampNeg (va_up (x0_line (x0_work q1 1).toNatClampNeg) 2 ((1 : Int32) <<< (x0_work q1 2 &&& 31))), x0_changes)
    have e8 : f8 = va_up (x0_line q5) 2 t7 := e8
    rw [e8, e7, e6, e_q5, e4]
    exact AbEq.refl _
  rw [e3] at k1
  refine Sf.ite (fun k2 => ?_) (fun k2 => ?_)
  · rw [e3] at k2
    refine Sf.rdl 1 rfl rfl (fun v4 e4 => ?_)
    rw [n1] at e4
    refine Sf.ckb 20 rfl (by rw [e4]; grind) (fun q5 e_q5 h_q5 => ?_)
    refine Sf.rdl 2 rfl rfl (fun v11 e11 => ?_)
    refine Sf.rdl 2 rfl rfl (fun v6 e6 => ?_)
    rw [n2] at e6
    refine Sf.someb (fun t7 e7 => ?_)
    refine Sf.wrb 7 rfl (by decide) (fun f8 e8 => ?_)
    refine Sf.ok ⟨?_, last⟩
    unfold doA
    rw [if_neg k1, if_pos k2]
    show AbEq (x0_lines, va_up x0_line q5 f8, x0_changes) (x0_lines, va_up x0_line (x0_work q1 1).toNatClampNeg (va_up (x0_line (x0_work q1 1).toNatClampNeg) 2 (x0_line (x0_work q1 1).toNatClampNeg 2 ||| ((1 : Int32) <<< (x0_work q1 2 &&& 31)))), x0_changes)
    have e8 : f8 = va_up (x0_line q5) 2 t7 := e8
    rw [e8, e7, e6, e11, e_q5, e4]
    exact AbEq.refl _
  rw [e3] at k2
  refine Sf.ite (fun k3 => ?_) (fun k3 => ?_)
  · rw [e3] at k3
    refine Sf.rdl 1 rfl rfl (fun v4 e4 => ?_)
    rw [n1] at e4
    refine Sf.rdl 2 rfl rfl (fun v6 e6 => ?_)
    rw [n2] at e6
    have r2 := r2 k3
    refine Sf.wrb 12 rfl (by rw [e4]; grind) (fun f17 e17 => ?_)
    refine Sf.ok ⟨?_, last⟩
    unfold doA
    rw [if_neg k1, if_neg k2, if_pos k3]
    show AbEq (x0_lines, x0_line, f17) (x0_lines, x0_line, va_up x0_changes (x0_work q1 1).toNatClampNeg (x0_work q1 2))
    rw [e17, e6, e4]
    exact AbEq.refl _
  rw [e3] at k3
  refine Sf.ite (fun k4 => ?_) (fun k4 => ?_)
  · refine Sf.ok ⟨?_, last⟩
    unfold doA
    rw [if_neg k1, if_neg k2, if_neg k3, if_pos k4]
    exact AbEq.refl _
  · have hL : 0 ≤ x0_lines ∧ x0_lines < 20 := ⟨h_x0_lines.1, Int32.not_le.mp k4⟩
    refine Sf.rdl 1 rfl rfl (fun v18 e18 => ?_)
    rw [n1] at e18
    refine Sf.rdl 2 rfl rfl (fun v19 e19 => ?_)
    rw [n2] at e19
    refine Sf.bind (newLineS hL) ?_
    rintro g20 ⟨hg1, hg2⟩
    refine Sf.ckb 20 rfl hL (fun q22 e_q22 h_q22 => ?_)
    refine Sf.rdl 0 rfl rfl (fun v23 e23 => ?_)
    rw [n0] at e23
    obtain ⟨u1, u2, u3⟩ := up1 h_x0_lines.1 (B := 20) (by decide) k4
    have fin : ∀ y : Int32, (if x0_work q1 0 = 4 then (99 : Int32) else 198) = y → Sf (fX7_does_j137 x0_lines x0_changes x0_work q1 f2 g20 q22 y) (fun r => AbEq (r.1, r.2.1, r.2.2.1) (doA x0_work q1 (x0_lines, x0_line, x0_changes)) ∧ r.2.2.2 = va_up x0_work q1 (va_up (x0_work q1) 4 1)) := by
      intro y hy
      unfold fX7_does_j137
      refine Sf.wrb 7 rfl (by decide) (fun f25 e25 => ?_)
      refine Sf.ok ⟨?_, last⟩
      unfold doA
      rw [if_neg k1, if_neg k2, if_neg k3, if_neg k4, hy]
      refine ⟨rfl, fun l hl c hc => ?_, fun p hp => rfl⟩
      show va_up g20 q22 f25 l c = va_up x0_line x0_lines.toNatClampNeg (nlR (x0_work q1 1) (x0_work q1 2) y) l c
      by_cases hla : l = x0_lines.toNatClampNeg
      · rw [hla, e_q22, va_eq, va_eq, e25, ← e18, ← e19]
        refine nlR4 (x := 999) hc _ ?_
        rw [e_q22]
        exact hg2
      · rw [e_q22, va_ne _ _ hla, va_ne _ _ hla, hg1 l hla]
    refine Sf.ite (fun k5 => ?_) (fun k5 => ?_)
    · exact fin _ (by rw [← e23, if_pos k5])
    · exact fin _ (by rw [← e23, if_neg k5])
/-- class: the row of a line that is put -/
theorem hasWorkS {x0_lineCount : Int32} {x0_goodsCount : Int32} {x0_workCount : Int32} {x0_years : Int32} {x0_lines : (Nat → Int32)} {x0_goods : (Nat → Int32)} {x0_works : (Nat → Int32)} {x0_change : (Nat → Int32)} {x0_coin : (Nat → Int32)} {x0_knownFree : (Nat → Int32)} {x0_isKnown : Int32} {p1 : Int32} : Sf (fX1_hasWork (x0_lineCount, x0_goodsCount, x0_workCount, x0_years, x0_lines, x0_goods, x0_works, x0_change, x0_coin, x0_knownFree, x0_isKnown) p1) (fun r => (r = 1 ∧ 0 ≤ p1 ∧ p1 ≤ x0_workCount - 1) ∨ (r = 0 ∧ (p1 < 0 ∨ x0_workCount - 1 < p1))) := by
  unfold fX1_hasWork
  dsimp only [u11]
  refine Sf.bind sX6_within (fun v h => ?_)
  exact Sf.zbb (by rcases h with h | h; exact Or.inr h.1; exact Or.inl h.1) (fun r e => Sf.ok (by rw [e]; exact h))
theorem hasLineS {x0_lineCount : Int32} {x0_goodsCount : Int32} {x0_workCount : Int32} {x0_years : Int32} {x0_lines : (Nat → Int32)} {x0_goods : (Nat → Int32)} {x0_works : (Nat → Int32)} {x0_change : (Nat → Int32)} {x0_coin : (Nat → Int32)} {x0_knownFree : (Nat → Int32)} {x0_isKnown : Int32} {p1 : Int32} : Sf (fX1_hasLine (x0_lineCount, x0_goodsCount, x0_workCount, x0_years, x0_lines, x0_goods, x0_works, x0_change, x0_coin, x0_knownFree, x0_isKnown) p1) (fun r => (r = 1 ∧ 0 ≤ p1 ∧ p1 ≤ x0_lineCount - 1) ∨ (r = 0 ∧ (p1 < 0 ∨ x0_lineCount - 1 < p1))) := by
  unfold fX1_hasLine
  dsimp only [u11]
  refine Sf.bind sX6_within (fun v h => ?_)
  exact Sf.zbb (by rcases h with h | h; exact Or.inr h.1; exact Or.inl h.1) (fun r e => Sf.ok (by rw [e]; exact h))
theorem putWidthsS {x0_lineCount : Int32} {x0_goodsCount : Int32} {x0_workCount : Int32} {x0_years : Int32} {x0_lines : (Nat → Int32)} {x0_goods : (Nat → Int32)} {x0_works : (Nat → Int32)} {x0_change : (Nat → Int32)} {x0_coin : (Nat → Int32)} {x0_knownFree : (Nat → Int32)} {x0_isKnown : Int32} {p1 p2 : Int32} (hp : 0 ≤ p1 ∧ p1 < x0_lineCount) (h20 : x0_lineCount ≤ 20) : Sf (fX1_putWidths (x0_lineCount, x0_goodsCount, x0_workCount, x0_years, x0_lines, x0_goods, x0_works, x0_change, x0_coin, x0_knownFree, x0_isKnown) p1 p2) (fun r => r.1 = va_up x0_lines (7 * p1.toNatClampNeg + 2) p2 ∧ r.2 = 0) := by
  unfold fX1_putWidths
  dsimp only [u11]
  refine Sf.ite (fun h => absurd h (Int32.not_lt.mpr hp.1)) (fun _ => ?_)
  refine Sf.ite (fun h => absurd h (Int32.not_le.mpr hp.2)) (fun _ => ?_)
  obtain ⟨hi, he⟩ := ix7 (z := p1) (c := 2) ⟨hp.1, Int32.lt_of_lt_of_le hp.2 h20⟩ (by decide)
  refine Sf.wrb 140 rfl hi (fun f1 e1 => ?_)
  rw [he] at e1
  exact Sf.ok ⟨e1, rfl⟩
theorem ro_put {lines : Nat → Int32} {a : Nat} {x : Int32} (l c : Nat) (hc : c < 7) : ro 7 (va_up lines (7 * a + 2) x) l c = va_up (ro 7 lines) a (va_up (ro 7 lines a) 2 x) l c := by
  rw [ro_eq hc]
  by_cases hla : l = a
  · subst hla
    rw [va_eq]
    by_cases h2 : c = 2
    · subst h2
      rw [va_eq, va_eq]
    · rw [va_ne _ _ h2, ro_eq hc, va_ne _ _ (by omega)]
  · rw [va_ne _ _ hla, ro_eq hc, va_ne _ _ (by omega)]
theorem addLineS {x0_lineCount : Int32} {x0_goodsCount : Int32} {x0_workCount : Int32} {x0_years : Int32} {x0_lines : (Nat → Int32)} {x0_goods : (Nat → Int32)} {x0_works : (Nat → Int32)} {x0_change : (Nat → Int32)} {x0_coin : (Nat → Int32)} {x0_knownFree : (Nat → Int32)} {x0_isKnown : Int32} {p1 p2 p3 p4 p5 p6 : Int32} (hL : 0 ≤ x0_lineCount ∧ x0_lineCount ≤ 20) : Sf (fX1_addLine (x0_lineCount, x0_goodsCount, x0_workCount, x0_years, x0_lines, x0_goods, x0_works, x0_change, x0_coin, x0_knownFree, x0_isKnown) p1 p2 p3 p4 p5 p6) (fun r => (20 ≤ x0_lineCount ∧ r = (x0_lineCount, x0_lines, x0_isKnown)) ∨ (x0_lineCount < 20 ∧ r.1 = x0_lineCount + 1 ∧ r.2.2 = 0 ∧ (∀ l c, c < 7 → l ≠ x0_lineCount.toNatClampNeg → r.2.1 (7 * l + c) = x0_lines (7 * l + c)) ∧ ∀ c, c < 7 → r.2.1 (7 * x0_lineCount.toNatClampNeg + c) = ([p1, p2, p3, p4, p5, p6, 0] : List Int32).getD c 0)) := by
  unfold fX1_addLine
  dsimp only [u11]
  refine Sf.ite (fun h => ?_) (fun h => Sf.ok (Or.inl ⟨Int32.not_lt.mp h, rfl⟩))
  have ix : ∀ c : Int32, 0 ≤ c ∧ c < 7 → _ := fun c hc => ix7 (z := x0_lineCount) (c := c) ⟨hL.1, h⟩ hc
  refine Sf.wrb 140 rfl (ix 0 (by decide)).1 (fun f1 e1 => ?_)
  refine Sf.wrb 140 rfl (ix 1 (by decide)).1 (fun f2 e2 => ?_)
  refine Sf.wrb 140 rfl (ix 2 (by decide)).1 (fun f3 e3 => ?_)
  refine Sf.wrb 140 rfl (ix 3 (by decide)).1 (fun f4 e4 => ?_)
  refine Sf.wrb 140 rfl (ix 4 (by decide)).1 (fun f5 e5 => ?_)
  refine Sf.wrb 140 rfl (ix 5 (by decide)).1 (fun f6 e6 => ?_)
  refine Sf.wrb 140 rfl (ix 6 (by decide)).1 (fun f7 e7 => ?_)
  rw [(ix 0 (by decide)).2, show (0 : Int32).toNatClampNeg = 0 from rfl] at e1
  rw [(ix 1 (by decide)).2, show (1 : Int32).toNatClampNeg = 1 from rfl] at e2
  rw [(ix 2 (by decide)).2, show (2 : Int32).toNatClampNeg = 2 from rfl] at e3
  rw [(ix 3 (by decide)).2, show (3 : Int32).toNatClampNeg = 3 from rfl] at e4
  rw [(ix 4 (by decide)).2, show (4 : Int32).toNatClampNeg = 4 from rfl] at e5
  rw [(ix 5 (by decide)).2, show (5 : Int32).toNatClampNeg = 5 from rfl] at e6
  rw [(ix 6 (by decide)).2, show (6 : Int32).toNatClampNeg = 6 from rfl] at e7
  refine Sf.ok (Or.inr ⟨h, rfl, rfl, fun l c hc hl => ?_, fun c hc => ?_⟩)
  · show f7 _ = _
    rw [e7, va_ne _ _ (by omega), e6, va_ne _ _ (by omega), e5, va_ne _ _ (by omega), e4, va_ne _ _ (by omega), e3, va_ne _ _ (by omega), e2, va_ne _ _ (by omega), e1, va_ne _ _ (by omega)]
  · show f7 _ = _
    rw [e7, e6, e5, e4, e3, e2, e1]
    rcases (show c = 0 ∨ c = 1 ∨ c = 2 ∨ c = 3 ∨ c = 4 ∨ c = 5 ∨ c = 6 by omega) with rfl | rfl | rfl | rfl | rfl | rfl | rfl
    · rw [va_ne _ _ (by omega), va_ne _ _ (by omega), va_ne _ _ (by omega), va_ne _ _ (by omega), va_ne _ _ (by omega), va_ne _ _ (by omega), va_eq]; rfl
    · rw [va_ne _ _ (by omega), va_ne _ _ (by omega), va_ne _ _ (by omega), va_ne _ _ (by omega), va_ne _ _ (by omega), va_eq]; rfl
    · rw [va_ne _ _ (by omega), va_ne _ _ (by omega), va_ne _ _ (by omega), va_ne _ _ (by omega), va_eq]; rfl
    · rw [va_ne _ _ (by omega), va_ne _ _ (by omega), va_ne _ _ (by omega), va_eq]; rfl
    · rw [va_ne _ _ (by omega), va_ne _ _ (by omega), va_eq]; rfl
    · rw [va_ne _ _ (by omega), va_eq]; rfl
    · rw [va_eq]; rfl
theorem ofWorkV {x0_lineCount : Int32} {x0_goodsCount : Int32} {x0_workCount : Int32} {x0_years : Int32} {x0_lines : (Nat → Int32)} {x0_goods : (Nat → Int32)} {x0_works : (Nat → Int32)} {x0_change : (Nat → Int32)} {x0_coin : (Nat → Int32)} {x0_knownFree : (Nat → Int32)} {x0_isKnown : Int32} {z c : Int32} (h : WkOk x0_works) (hz : 0 ≤ z ∧ z ≤ 6) (hc : 0 ≤ c ∧ c < 5) : Sf (fX1_ofWork (x0_lineCount, x0_goodsCount, x0_workCount, x0_years, x0_lines, x0_goods, x0_works, x0_change, x0_coin, x0_knownFree, x0_isKnown) z c) (fun r => r = ro 5 x0_works z.toNatClampNeg c.toNatClampNeg) := by
  refine Sf.mono (s_ofWork h hz hc) (fun r e => ?_)
  have e := e.2
  rw [e, ro_eq, Nat.mul_comm]
  have a := i32_cl hc.1
  have b := Int32.lt_iff_toInt_lt.mp hc.2
  have e5 : (5 : Int32).toInt = 5 := by decide
  omega
theorem performC {x0_lineCount : Int32} {x0_goodsCount : Int32} {x0_workCount : Int32} {x0_years : Int32} {x0_lines : (Nat → Int32)} {x0_goods : (Nat → Int32)} {x0_works : (Nat → Int32)} {x0_change : (Nat → Int32)} {x0_coin : (Nat → Int32)} {x0_knownFree : (Nat → Int32)} {x0_isKnown : Int32} {p1 : Int32} (h_x0_lineCount : (0 ≤ x0_lineCount ∧ x0_lineCount ≤ 20)) (h_x0_goodsCount : (0 ≤ x0_goodsCount ∧ x0_goodsCount ≤ 8)) (h_x0_workCount : (0 ≤ x0_workCount ∧ x0_workCount ≤ 7)) (h_x0_years : (1 ≤ x0_years ∧ x0_years ≤ 30)) (h_x0_lines : (LnOk x0_lines)) (h_x0_goods : (GdOk x0_goods)) (h_x0_works : (WkOk x0_works)) (h_x0_change : (AI 0 99 x0_change)) (h_x0_coin : (AI 0 9 x0_coin)) (h_p1 : 0 ≤ p1 ∧ p1 < x0_workCount) (hf : Wf1 (ro 5 x0_works) x0_lineCount p1.toNatClampNeg) : Sf (fX1_perform (x0_lineCount, x0_goodsCount, x0_workCount, x0_years, x0_lines, x0_goods, x0_works, x0_change, x0_coin, x0_knownFree, x0_isKnown) p1) (fun r => AbEq (r.1, ro 7 r.2.1, r.2.2.1) (doA (ro 5 x0_works) p1.toNatClampNeg (x0_lineCount, ro 7 x0_lines, x0_change))) := by
  obtain ⟨f1, f2, f3, f4⟩ := hf
  have hp6 : 0 ≤ p1 ∧ p1 ≤ 6 := by clear f1 f2 f3 f4; grind
  unfold fX1_perform
  dsimp only [u11]
  refine Sf.bind hasWorkS (fun v1 h1 => ?_)
  refine Sf.ite (fun hz => ?_) (fun _ => ?_)
  · exfalso
    rcases h1 with h1 | h1
    · rw [h1.1] at hz; exact absurd hz (by decide)
    · clear f1 f2 f3 f4; grind
  refine Sf.bind (ofWorkV h_x0_works hp6 (by decide)) (fun v3 e3 => ?_)
  refine Sf.bind (ofWorkV h_x0_works hp6 (by decide)) (fun v5 e5 => ?_)
  refine Sf.bind (ofWorkV h_x0_works hp6 (by decide)) (fun v7 e7 => ?_)
  have e3 : v3 = ro 5 x0_works p1.toNatClampNeg 1 := e3
  have e5 : v5 = ro 5 x0_works p1.toNatClampNeg 2 := e5
  have e7 : v7 = ro 5 x0_works p1.toNatClampNeg 0 := e7
  rw [← e3] at f2 f3 f4
  rw [← e7] at f1 f3 f4
  unfold doA
  rw [← e3, ← e5, ← e7]
  refine Sf.ite (fun k1 => ?_) (fun k1 => ?_)
  · refine Sf.bind (putWidthsS ⟨f2, f3 (Or.inl k1)⟩ h_x0_lineCount.2) ?_
    rintro ⟨g9, g10⟩ ⟨e9, _⟩
    have e9 : g9 = _ := e9
    rw [if_pos k1]
    refine Sf.ok ⟨rfl, fun l hl c hc => ?_, fun p hp => rfl⟩
    show ro 7 g9 l c = va_up (ro 7 x0_lines) v3.toNatClampNeg _ l c
    rw [e9]
    exact ro_put l c hc
  rw [if_neg k1]
  refine Sf.ite (fun k2 => ?_) (fun k2 => ?_)
  · have f3 := f3 (Or.inr k2)
    refine Sf.bind hasLineS (fun v12 h12 => ?_)
    refine Sf.ite (fun hz => ?_) (fun _ => ?_)
    · exfalso
      rcases h12 with hx | hx
      · rw [hx.1] at hz; exact absurd hz (by decide)
      · have hx := hx.2
        clear f1 f4 h1 k1 k2 e3 e5 e7 h_p1 hp6 h_x0_works h_x0_goods h_x0_lines h_x0_change h_x0_coin; grind
    refine Sf.bind (ofLineV (z := v3) (c := 2) ⟨f2, Int32.lt_of_lt_of_le f3 h_x0_lineCount.2⟩ (by decide)) (fun v14 e14 => ?_)
    have e14 : v14 = x0_lines (7 * v3.toNatClampNeg + 2) := e14
    refine Sf.bind (putWidthsS ⟨f2, f3⟩ h_x0_lineCount.2) ?_
    rintro ⟨g16, g17⟩ ⟨e16, _⟩
    have e16 : g16 = _ := e16
    rw [if_pos k2]
    refine Sf.ok ⟨rfl, fun l hl c hc => ?_, fun p hp => rfl⟩
    show ro 7 g16 l c = va_up (ro 7 x0_lines) v3.toNatClampNeg (va_up (ro 7 x0_lines v3.toNatClampNeg) 2 (ro 7 x0_lines v3.toNatClampNeg 2 ||| _)) l c
    rw [e16, e14, ro_eq (m := 7) (f := x0_lines) (q := v3.toNatClampNeg) (c := 2) (by decide)]
    exact ro_put l c hc
  rw [if_neg k2]
  refine Sf.ite (fun k3 => ?_) (fun k3 => ?_)
  · have f4 := f4 k3
    unfold fX1_putChange
    dsimp only [u11]
    rw [if_pos k3, if_neg (Int32.not_lt.mpr f2), if_neg (Int32.not_le.mpr (Int32.lt_of_le_of_lt f4 (by decide)))]
    refine Sf.bind (P := fun r : (Nat → Int32) × Int32 => r.1 = va_up x0_change v3.toNatClampNeg v5) (Sf.wrb 12 rfl ⟨f2, Int32.lt_of_le_of_lt f4 (by decide)⟩ (fun f1 e1 => Sf.ok e1)) ?_
    rintro ⟨g19, g20⟩ e19
    have e19 : g19 = _ := e19
    refine Sf.ok ⟨rfl, fun l hl c hc => rfl, fun p hp => ?_⟩
    show g19 p = _
    rw [e19]
  rw [if_neg k3]
  have fin : ∀ (y : Int32), (if v7 = 4 then (99 : Int32) else 198) = y → ∀ r : Int32 × (Nat → Int32) × Int32, ((20 ≤ x0_lineCount ∧ r = (x0_lineCount, x0_lines, x0_isKnown)) ∨ (x0_lineCount < 20 ∧ r.1 = x0_lineCount + 1 ∧ r.2.2 = 0 ∧ (∀ l c, c < 7 → l ≠ x0_lineCount.toNatClampNeg → r.2.1 (7 * l + c) = x0_lines (7 * l + c)) ∧ ∀ c, c < 7 → r.2.1 (7 * x0_lineCount.toNatClampNeg + c) = ([v3, v5, 7, 10, y, 0, 0] : List Int32).getD c 0)) → AbEq (r.1, ro 7 r.2.1, x0_change) (if 20 ≤ x0_lineCount then (x0_lineCount, ro 7 x0_lines, x0_change) else (x0_lineCount + 1, va_up (ro 7 x0_lines) x0_lineCount.toNatClampNeg (nlR v3 v5 (if v7 = 4 then 99 else 198)), x0_change)) := by
    rintro y hy ⟨g22, g23, g24⟩ h
    rcases h with ⟨h, e⟩ | ⟨h, e1, _, e2, e3⟩
    · rw [if_pos h]
      cases e
      exact AbEq.refl _
    · have e1 : g22 = x0_lineCount + 1 := e1
      have e2 : ∀ l c, c < 7 → l ≠ x0_lineCount.toNatClampNeg → g23 (7 * l + c) = x0_lines (7 * l + c) := e2
      have e3 : ∀ c, c < 7 → g23 (7 * x0_lineCount.toNatClampNeg + c) = ([v3, v5, 7, 10, y, 0, 0] : List Int32).getD c 0 := e3
      rw [if_neg (Int32.not_le.mpr h), hy]
      refine ⟨e1, fun l hl c hc => ?_, fun p hp => rfl⟩
      show ro 7 g23 l c = va_up (ro 7 x0_lines) x0_lineCount.toNatClampNeg (nlR v3 v5 y) l c
      rw [ro_eq hc]
      by_cases hla : l = x0_lineCount.toNatClampNeg
      · rw [hla, va_eq, e3 c hc]
        rfl
      · rw [va_ne _ _ hla, ro_eq hc, e2 l c hc hla]
  refine Sf.ite (fun k4 => ?_) (fun k4 => ?_)
  · refine Sf.bind (addLineS h_x0_lineCount) ?_
    rintro ⟨g22, g23, g24⟩ h
    exact Sf.ok (fin 99 (if_pos k4) _ h)
  refine Sf.ite (fun k5 => ?_) (fun k5 => ?_)
  · refine Sf.bind (addLineS h_x0_lineCount) ?_
    rintro ⟨g22, g23, g24⟩ h
    exact Sf.ok (fin 198 (if_neg k4) _ h)
  · exfalso
    clear f3 f4 h1 e3 e5 e7 h_p1 hp6 h_x0_works h_x0_goods h_x0_lines h_x0_change h_x0_coin fin
    grind
end
section
/-! freeWith: FREE with a set of works done, and what is kept of it -/
theorem tq_and (a b : Int32) (u : Nat) : tq (a &&& b) u = (tq a u && tq b u) := by
  unfold tq
  rw [Int32.toBitVec_and, BitVec.getLsbD_and]
theorem tq_or (a b : Int32) (u : Nat) : tq (a ||| b) u = (tq a u || tq b u) := by
  unfold tq
  rw [Int32.toBitVec_or, BitVec.getLsbD_or]
theorem tq_not (a : Int32) {u : Nat} (hu : u < 32) : tq (a ^^^ (-1)) u = !tq a u := by
  have key : ∀ i : Fin 32, (-1 : Int32).toBitVec.getLsbD i.1 = true := by decide +kernel
  have k := key ⟨u, hu⟩
  unfold tq
  rw [Int32.toBitVec_xor, BitVec.getLsbD_xor, k]
  cases a.toBitVec.getLsbD u <;> rfl
theorem tq_shl {k : Nat} (h : k < 31) (u : Nat) (hu : u < 31) : tq ((1 : Int32) <<< (Int32.ofNat k &&& 31)) u = decide (u = k) := by
  have e := tq_set (s := 0) h u hu
  rw [tq_or, tq_zero, Bool.false_or, Bool.false_or] at e
  exact e
theorem bit_at {s z : Int32} (hz : 0 ≤ z ∧ z ≤ 30) : ((s >>> (z &&& 31)) &&& 1) = 0 ↔ tq s z.toNatClampNeg = false := by
  have e : Int32.ofNat z.toNatClampNeg = z := Int32.ofNat_toNatClampNeg z hz.1
  have l : z.toNatClampNeg < 31 := i32_lt (M := 31) rfl ⟨hz.1, Int32.lt_of_le_of_lt hz.2 (by decide)⟩
  have q := tq_get (s := s) l
  rw [e] at q
  exact q
theorem isDoneS {x0_lineCount : Int32} {x0_goodsCount : Int32} {x0_workCount : Int32} {x0_years : Int32} {x0_lines : (Nat → Int32)} {x0_goods : (Nat → Int32)} {x0_works : (Nat → Int32)} {x0_change : (Nat → Int32)} {x0_coin : (Nat → Int32)} {x0_knownFree : (Nat → Int32)} {x0_isKnown : Int32} {z : Int32} (h : WkOk x0_works) (hz : 0 ≤ z ∧ z ≤ 6) : Sf (fX1_isDone (x0_lineCount, x0_goodsCount, x0_workCount, x0_years, x0_lines, x0_goods, x0_works, x0_change, x0_coin, x0_knownFree, x0_isKnown) z) (fun r => r = if ro 5 x0_works z.toNatClampNeg 4 = 0 then 0 else 1) := by
  unfold fX1_isDone
  dsimp only [u11]
  refine Sf.bind (ofWorkV h hz (by decide)) (fun v1 e1 => ?_)
  have e1 : v1 = ro 5 x0_works z.toNatClampNeg 4 := e1
  rw [← e1]
  exact Sf.ite (fun hc => Sf.ok (by rw [if_pos hc])) (fun hc => Sf.ok (by rw [if_neg hc]))
theorem doneS {n : Nat} {x0_lineCount : Int32} {x0_goodsCount : Int32} {x0_workCount : Int32} {x0_years : Int32} {x0_lines : (Nat → Int32)} {x0_goods : (Nat → Int32)} {x0_works : (Nat → Int32)} {x0_change : (Nat → Int32)} {x0_coin : (Nat → Int32)} {x0_knownFree : (Nat → Int32)} {x0_isKnown : Int32} (hn : 1000000000000 ≤ n) (h : WkOk x0_works) (hw : 0 ≤ x0_workCount ∧ x0_workCount ≤ 7) : Sf (fX1_doneWorks n (x0_lineCount, x0_goodsCount, x0_workCount, x0_years, x0_lines, x0_goods, x0_works, x0_change, x0_coin, x0_knownFree, x0_isKnown)) (fun r => ∀ k, k < 31 → (tq r k = true ↔ (k < x0_workCount.toNatClampNeg ∧ ro 5 x0_works k 4 ≠ 0))) := by
  unfold fX1_doneWorks
  dsimp only [u11]
  refine Sf.bind (P := fun r => ∀ k, k < 31 → (tq r k = true ↔ (k < x0_workCount.toNatClampNeg ∧ ro 5 x0_works k 4 ≠ 0))) ?_ (fun r h => Sf.ok h)
  refine Sf.loop2 (fun (z2 z3 : Int32) => (0 ≤ z3 ∧ z3 ≤ x0_workCount) ∧ ∀ k, k < 31 → (tq z2 k = true ↔ (k < z3.toNatClampNeg ∧ ro 5 x0_works k 4 ≠ 0))) (fun z2 z3 => muUp z3) (fun z2 z3 h => ?_) ⟨⟨Int32.le_refl 0, hw.1⟩, fun l hl => ?_⟩ (muUp_n hn)
  · obtain ⟨h0, h1⟩ := h
    unfold fX1_doneWorks_s4
    refine Sf.ite (fun hc => ?_) (fun hc => ?_)
    · have ez : z3 = x0_workCount := Int32.le_antisymm h0.2 hc
      rw [ez] at h1
      exact Sf.inr h1
    · obtain ⟨p0, p1, p3⟩ := up1 h0.1 (Int32.le_trans hw.2 (by decide)) hc
      have hz6 : 0 ≤ z3 ∧ z3 ≤ 6 := ⟨h0.1, by clear h1 h; grind⟩
      have hz1 : z3 + 1 ≤ x0_workCount := by clear h1 h; grind
      have n7 : z3.toNatClampNeg < 7 := i32_lt (M := 7) rfl ⟨h0.1, Int32.lt_of_lt_of_le p3 hw.2⟩
      have ez3 : Int32.ofNat z3.toNatClampNeg = z3 := Int32.ofNat_toNatClampNeg z3 h0.1
      refine Sf.bind (isDoneS h hz6) (fun v6 e6 => ?_)
      refine Sf.ite (fun hv => ?_) (fun hv => ?_)
      · have hd : ro 5 x0_works z3.toNatClampNeg 4 = 0 := by
          refine Classical.byContradiction fun hn' => ?_
          rw [if_neg hn'] at e6
          rw [e6] at hv
          exact absurd hv (by decide)
        refine Sf.inl (show (0 ≤ z3 + 1 ∧ z3 + 1 ≤ x0_workCount) ∧ ∀ k, k < 31 → (tq z2 k = true ↔ (k < (z3 + 1).toNatClampNeg ∧ ro 5 x0_works k 4 ≠ 0)) from ⟨⟨p0, hz1⟩, fun k hk => ?_⟩) (muUp_lt hc)
        rw [h1 k hk, p1]
        constructor
        · rintro ⟨a, b⟩
          exact ⟨by omega, b⟩
        · rintro ⟨a, b⟩
          refine ⟨?_, b⟩
          have : k ≠ z3.toNatClampNeg := fun e => b (by rw [e]; exact hd)
          omega
      · have hd : ro 5 x0_works z3.toNatClampNeg 4 ≠ 0 := by
          intro hn'
          rw [if_pos hn'] at e6
          exact hv e6
        refine Sf.someb (fun t8 e8 => ?_)
        refine Sf.inl (show (0 ≤ z3 + 1 ∧ z3 + 1 ≤ x0_workCount) ∧ ∀ k, k < 31 → (tq t8 k = true ↔ (k < (z3 + 1).toNatClampNeg ∧ ro 5 x0_works k 4 ≠ 0)) from ⟨⟨p0, hz1⟩, fun k hk => ?_⟩) (muUp_lt hc)
        rw [e8, ← ez3, tq_set (by omega) k hk, ez3, p1, Bool.or_eq_true, decide_eq_true_eq, h1 k hk]
        constructor
        · rintro (⟨a, b⟩ | e)
          · exact ⟨by omega, b⟩
          · exact ⟨by omega, by rw [e]; exact hd⟩
        · rintro ⟨a, b⟩
          by_cases hz : k = z3.toNatClampNeg
          · exact Or.inr hz
          · exact Or.inl ⟨by omega, b⟩
  · rw [tq_zero]
    constructor
    · intro h
      cases h
    · intro h
      exact absurd h.1 (Nat.not_lt_zero _)
/-- the works of a set, done in their order -/
def doS (work : Nat → Nat → Int32) (s : Int32) : Nat → Ab → Ab
  | 0, A => A
  | k + 1, A => if tq s k = true then doA work k (doS work s k A) else doS work s k A
theorem Wf1.mono {work : Nat → Nat → Int32} {L L' : Int32} {k : Nat} (h : Wf1 work L k) (hL : L ≤ L') : Wf1 work L' k := ⟨h.1, h.2.1, fun e => Int32.lt_of_lt_of_le (h.2.2.1 e) hL, h.2.2.2⟩
theorem Wf1.congr {work work' : Nat → Nat → Int32} {L : Int32} {k : Nat} (h : Wf1 work L k) (e : ∀ c, c < 3 → work k c = work' k c) : Wf1 work' L k := by
  unfold Wf1 at h ⊢
  rw [← e 0 (by decide), ← e 1 (by decide)]
  exact h
theorem doS_L {work : Nat → Nat → Int32} {s : Int32} {A : Ab} (h0 : 0 ≤ A.1 ∧ A.1 ≤ 20) : ∀ K : Nat, A.1 ≤ (doS work s K A).1 ∧ 0 ≤ (doS work s K A).1 ∧ (doS work s K A).1 ≤ 20
  | 0 => ⟨Int32.le_refl _, h0⟩
  | K + 1 => by
    have ih := doS_L h0 (s := s) (work := work) K
    show A.1 ≤ (if tq s K = true then doA work K (doS work s K A) else doS work s K A).1 ∧ 0 ≤ (if tq s K = true then doA work K (doS work s K A) else doS work s K A).1 ∧ (if tq s K = true then doA work K (doS work s K A) else doS work s K A).1 ≤ 20
    by_cases hb : tq s K = true
    · rw [if_pos hb]
      have q := doA_L (work := work) (k := K) ih.2
      exact ⟨Int32.le_trans ih.1 q.1, q.2⟩
    · rw [if_neg hb]
      exact ih
theorem doS_congr {work work' : Nat → Nat → Int32} {s s' : Int32} {A B : Ab} (h : AbEq A B) (h0 : 0 ≤ A.1 ∧ A.1 ≤ 20) : ∀ K : Nat, (∀ k, k < K → tq s k = tq s' k) → (∀ k, k < K → ∀ c, c < 3 → work k c = work' k c) → (∀ k, k < K → Wf1 work A.1 k) → AbEq (doS work s K A) (doS work' s' K B)
  | 0, _, _, _ => h
  | K + 1, hs, hw, hf => by
    have ih := doS_congr h h0 K (fun k hk => hs k (by omega)) (fun k hk => hw k (by omega)) (fun k hk => hf k (by omega))
    show AbEq (if tq s K = true then doA work K (doS work s K A) else doS work s K A) (if tq s' K = true then doA work' K (doS work' s' K B) else doS work' s' K B)
    rw [← hs K (by omega)]
    have q := doS_L h0 (s := s) (work := work) K
    by_cases hb : tq s K = true
    · rw [if_pos hb, if_pos hb]
      exact doA_congr ih (hw K (by omega)) ((hf K (by omega)).mono q.1) q.2
    · rw [if_neg hb, if_neg hb]
      exact ih
theorem doS_none {work : Nat → Nat → Int32} {s : Int32} {A : Ab} : ∀ K : Nat, (∀ k, k < K → tq s k = false) → doS work s K A = A
  | 0, _ => rfl
  | K + 1, h => by
    show (if tq s K = true then doA work K (doS work s K A) else doS work s K A) = A
    rw [h K (by omega), if_neg (by decide)]
    exact doS_none K (fun k hk => h k (by omega))
theorem doS_one {work : Nat → Nat → Int32} {s : Int32} {A : Ab} {j : Nat} : ∀ K : Nat, j < K → (∀ k, k < K → tq s k = decide (k = j)) → doS work s K A = doA work j A
  | 0, hj, _ => absurd hj (Nat.not_lt_zero _)
  | K + 1, hj, h => by
    show (if tq s K = true then doA work K (doS work s K A) else doS work s K A) = doA work j A
    by_cases e : K = j
    · rw [h K (by omega), if_pos (by rw [decide_eq_true_eq]; exact e), doS_none K (fun k hk => by rw [h k (by omega), decide_eq_false_iff_not]; omega), e]
    · rw [h K (by omega), if_neg (by rw [decide_eq_true_eq]; exact e)]
      exact doS_one K (by omega) (fun k hk => h k (by omega))
noncomputable def FrA (A : Ab) (coins : Nat → Int32) (good : Nat → Nat → Int32) (G : Int32) : Int32 := Free A.1 A.2.1 A.2.2 coins good G
theorem FrA_congr {A B : Ab} {coins coins' : Nat → Int32} {good good' : Nat → Nat → Int32} {G : Int32} (h : AbEq A B) (hco : ∀ w, w < 3 → coins w = coins' w) (hg : ∀ g, g < G.toNatClampNeg → ∀ c, c < 3 → good g c = good' g c) : FrA A coins good G = FrA B coins' good' G := by
  obtain ⟨L, line, ch⟩ := A
  obtain ⟨L', line', ch'⟩ := B
  obtain ⟨e1, e2, e3⟩ := h
  have e1 : L = L' := e1
  subst e1
  exact Free_congr e2 e3 hco hg
/-- FREE with the works of a set done -/
noncomputable def FrS (L : Int32) (line : Nat → Nat → Int32) (ch coins : Nat → Int32) (good : Nat → Nat → Int32) (G : Int32) (work : Nat → Nat → Int32) (W s : Int32) : Int32 := FrA (doS work s W.toNatClampNeg (L, line, ch)) coins good G
def Kn (F : Int32 → Int32) (kf : Nat → Int32) (ik : Int32) : Prop := ik = 0 ∨ ∀ s : Int32, 0 ≤ s ∧ s ≤ 127 → kf s.toNatClampNeg = -1 ∨ kf s.toNatClampNeg = F s
theorem knownS {n : Nat} {x0_lineCount : Int32} {x0_goodsCount : Int32} {x0_workCount : Int32} {x0_years : Int32} {x0_lines : (Nat → Int32)} {x0_goods : (Nat → Int32)} {x0_works : (Nat → Int32)} {x0_change : (Nat → Int32)} {x0_coin : (Nat → Int32)} {x0_knownFree : (Nat → Int32)} {x0_isKnown : Int32} {p1 : Int32} {F : Int32 → Int32} (hn : 1000000000000 ≤ n) (h : Kn F x0_knownFree x0_isKnown) : Sf (fX1_freeKnown n (x0_lineCount, x0_goodsCount, x0_workCount, x0_years, x0_lines, x0_goods, x0_works, x0_change, x0_coin, x0_knownFree, x0_isKnown) p1) (fun r => (r.1 = -1 ∨ r.1 = F p1) ∧ Kn F r.2.1 r.2.2 ∧ r.2.2 ≠ 0) := by
  have j : ∀ (f : Nat → Int32) (i : Int32), i ≠ 0 → (∀ s : Int32, 0 ≤ s ∧ s ≤ 127 → f s.toNatClampNeg = -1 ∨ f s.toNatClampNeg = F s) → Sf (fX1_freeKnown_j20 p1 f i) (fun r => (r.1 = -1 ∨ r.1 = F p1) ∧ Kn F r.2.1 r.2.2 ∧ r.2.2 ≠ 0) := by
    intro f i hi hf
    unfold fX1_freeKnown_j20
    refine Sf.bind sX6_within (fun v hv => ?_)
    refine Sf.ite (fun hc => Sf.ok ⟨Or.inl rfl, Or.inr hf, hi⟩) (fun hc => ?_)
    have hp : 0 ≤ p1 ∧ p1 ≤ 127 := by
      rcases hv with hv | hv
      · exact hv.2
      · exact absurd hv.1 hc
    refine Sf.rdb 128 rfl ⟨hp.1, Int32.lt_of_le_of_lt hp.2 (by decide)⟩ (fun v5 e5 => ?_)
    exact Sf.ok ⟨by rw [e5]; exact hf p1 hp, Or.inr hf, hi⟩
  unfold fX1_freeKnown
  dsimp only [u11]
  refine Sf.ite (fun hc => ?_) (fun hc => ?_)
  · refine Sf.bind (sJ7_fill hn (by decide)) (fun g6 e6 => ?_)
    refine j _ _ (by decide) (fun s hs => Or.inl ?_)
    rw [e6]
    exact if_pos (i32_lt (M := 128) (N := 128) rfl ⟨hs.1, Int32.lt_of_le_of_lt hs.2 (by decide)⟩)
  · rcases h with h | h
    · exact absurd h hc
    · exact j _ _ hc h
theorem keepS {x0_lineCount : Int32} {x0_goodsCount : Int32} {x0_workCount : Int32} {x0_years : Int32} {x0_lines : (Nat → Int32)} {x0_goods : (Nat → Int32)} {x0_works : (Nat → Int32)} {x0_change : (Nat → Int32)} {x0_coin : (Nat → Int32)} {x0_knownFree : (Nat → Int32)} {x0_isKnown : Int32} {p1 p2 : Int32} {F : Int32 → Int32} (h : Kn F x0_knownFree x0_isKnown) (hp : p2 = F p1) : Sf (fX1_keepFree (x0_lineCount, x0_goodsCount, x0_workCount, x0_years, x0_lines, x0_goods, x0_works, x0_change, x0_coin, x0_knownFree, x0_isKnown) p1 p2) (fun r => Kn F r x0_isKnown) := by
  unfold fX1_keepFree
  dsimp only [u11]
  refine Sf.bind sX6_within (fun v hv => ?_)
  refine Sf.ite (fun hc => Sf.ok h) (fun hc => ?_)
  have hq : 0 ≤ p1 ∧ p1 ≤ 127 := by
    rcases hv with hv | hv
    · exact hv.2
    · exact absurd hv.1 hc
  refine Sf.wrb 128 rfl ⟨hq.1, Int32.lt_of_le_of_lt hq.2 (by decide)⟩ (fun f3 e3 => ?_)
  refine Sf.ok ?_
  rcases h with h | h
  · exact Or.inl h
  · refine Or.inr (fun s hs => ?_)
    rw [e3]
    by_cases e : s.toNatClampNeg = p1.toNatClampNeg
    · have e' : s = p1 := by
        refine Int32.toInt_inj.mp ?_
        have a := i32_cl hs.1
        have b := i32_cl hq.1
        omega
      rw [e', va_eq]
      exact Or.inr hp
    · rw [va_ne _ _ e]
      exact h s hs
theorem cp0 {f g : Nat → Int32} {m k : Nat} (h : k < m) : va_cpy f g 0 0 m k = f k := by
  unfold va_cpy
  rw [if_pos ⟨Nat.zero_le k, by omega⟩]
  congr 1
  omega
theorem mlt {z m : Int32} {M : Nat} (hz : 0 ≤ z ∧ z ≤ 20) (hm : 0 ≤ m ∧ m ≤ 7) (hM : m.toNatClampNeg = M) : 0 ≤ z * m ∧ (z * m).toInt = z.toInt * (M : Int) ∧ (z * m).toNatClampNeg = M * z.toNatClampNeg := by
  have z0 : (0 : Int32).toInt = 0 := by decide
  have e20 : (20 : Int32).toInt = 20 := by decide
  have e7 : (7 : Int32).toInt = 7 := by decide
  have a := i32_b hz
  have b := i32_b hm
  rw [z0, e20] at a
  rw [z0, e7] at b
  have c := i32_cl hm.1
  rw [hM] at c
  have p0 : 0 ≤ z.toInt * m.toInt := Int.mul_nonneg a.1 b.1
  have p1 : z.toInt * m.toInt ≤ 20 * 7 := Int.mul_le_mul a.2 b.2 b.1 (by decide)
  have e : (z * m).toInt = z.toInt * m.toInt := i32_mul (by omega) (by omega)
  have h0 : 0 ≤ z * m := Int32.le_iff_toInt_le.mpr (by rw [e, z0]; exact p0)
  refine ⟨h0, by rw [e, ← c], ?_⟩
  have d := i32_cl h0
  have g := i32_cl hz.1
  have : (((z * m).toNatClampNeg : Nat) : Int) = ((M * z.toNatClampNeg : Nat) : Int) := by
    rw [d, e, Int.natCast_mul, g, c, Int.mul_comm]
  omega
theorem takeC {x0_lineCount : Int32} {x0_goodsCount : Int32} {x0_workCount : Int32} {x0_years : Int32} {x0_lines : (Nat → Int32)} {x0_goods : (Nat → Int32)} {x0_works : (Nat → Int32)} {x0_change : (Nat → Int32)} {x0_coin : (Nat → Int32)} {x0_knownFree : (Nat → Int32)} {x0_isKnown : Int32} {x1_lineCount : Int32} {x1_goodsCount : Int32} {x1_workCount : Int32} {x1_years : Int32} {x1_lines : (Nat → Int32)} {x1_goods : (Nat → Int32)} {x1_works : (Nat → Int32)} {x1_change : (Nat → Int32)} {x1_coin : (Nat → Int32)} {x1_knownFree : (Nat → Int32)} {x1_isKnown : Int32} (h_x1_lineCount : (0 ≤ x1_lineCount ∧ x1_lineCount ≤ 20)) (h_x1_goodsCount : (0 ≤ x1_goodsCount ∧ x1_goodsCount ≤ 8)) (h_x1_workCount : (0 ≤ x1_workCount ∧ x1_workCount ≤ 7)) (h_x1_years : (1 ≤ x1_years ∧ x1_years ≤ 30)) (h_x1_lines : (LnOk x1_lines)) (h_x1_goods : (GdOk x1_goods)) (h_x1_works : (WkOk x1_works)) (h_x1_change : (AI 0 99 x1_change)) (h_x1_coin : (AI 0 9 x1_coin)) : Sf (fX1_take (x0_lineCount, x0_goodsCount, x0_workCount, x0_years, x0_lines, x0_goods, x0_works, x0_change, x0_coin, x0_knownFree, x0_isKnown) (x1_lineCount, x1_goodsCount, x1_workCount, x1_years, x1_lines, x1_goods, x1_works, x1_change, x1_coin, x1_knownFree, x1_isKnown)) (fun r => r.1 = x1_lineCount ∧ r.2.1 = x1_goodsCount ∧ r.2.2.1 = x1_workCount ∧ r.2.2.2.1 = x1_years ∧ (∀ l, l < x1_lineCount.toNatClampNeg → ∀ c, c < 7 → ro 7 r.2.2.2.2.1 l c = ro 7 x1_lines l c) ∧ (∀ g, g < x1_goodsCount.toNatClampNeg → ∀ c, c < 3 → ro 3 r.2.2.2.2.2.1 g c = ro 3 x1_goods g c) ∧ (∀ k, k < x1_workCount.toNatClampNeg → ∀ c, c < 5 → ro 5 r.2.2.2.2.2.2.1 k c = ro 5 x1_works k c) ∧ (∀ p, p < 12 → r.2.2.2.2.2.2.2.1 p = x1_change p) ∧ (∀ w, w < 3 → r.2.2.2.2.2.2.2.2.1 w = x1_coin w) ∧ r.2.2.2.2.2.2.2.2.2 = 0) := by
  unfold fX1_take
  dsimp only [u11]
  have e20 : (20 : Int32).toInt = 20 := by decide
  have e8 : (8 : Int32).toInt = 8 := by decide
  have e7 : (7 : Int32).toInt = 7 := by decide
  have z0 : (0 : Int32).toInt = 0 := by decide
  have bl := i32_b h_x1_lineCount
  have bg := i32_b h_x1_goodsCount
  have bw := i32_b h_x1_workCount
  obtain ⟨l1, l2, l3⟩ := mlt (z := x1_lineCount) (m := 7) (M := 7) h_x1_lineCount (by decide) rfl
  obtain ⟨g1, g2, g3⟩ := mlt (z := x1_goodsCount) (m := 3) (M := 3) ⟨h_x1_goodsCount.1, Int32.le_trans h_x1_goodsCount.2 (by decide)⟩ (by decide) rfl
  obtain ⟨w1, w2, w3⟩ := mlt (z := x1_workCount) (m := 5) (M := 5) ⟨h_x1_workCount.1, Int32.le_trans h_x1_workCount.2 (by decide)⟩ (by decide) rfl
  refine Sf.cpyb ⟨by decide, by decide, l1⟩ (by omega) (by omega) (fun f1 e1 => ?_)
  refine Sf.cpyb ⟨by decide, by decide, g1⟩ (by omega) (by omega) (fun f2 e2 => ?_)
  refine Sf.cpyb ⟨by decide, by decide, w1⟩ (by omega) (by omega) (fun f3 e3 => ?_)
  refine Sf.cpyb ⟨by decide, by decide, by decide⟩ (by decide) (by decide) (fun f4 e4 => ?_)
  refine Sf.cpyb ⟨by decide, by decide, by decide⟩ (by decide) (by decide) (fun f5 e5 => ?_)
  rw [l3] at e1
  rw [g3] at e2
  rw [w3] at e3
  refine Sf.ok ⟨rfl, rfl, rfl, rfl, fun l hl c hc => ?_, fun g hg c hc => ?_, fun k hk c hc => ?_, fun p hp => ?_, fun w hw => ?_, rfl⟩
  · show ro 7 f1 l c = _
    rw [ro_eq hc, ro_eq hc, e1]
    exact cp0 (by omega)
  · show ro 3 f2 g c = _
    rw [ro_eq hc, ro_eq hc, e2]
    exact cp0 (by omega)
  · show ro 5 f3 k c = _
    rw [ro_eq hc, ro_eq hc, e3]
    exact cp0 (by omega)
  · show f4 p = _
    rw [e4]
    exact cp0 hp
  · show f5 w = _
    rw [e5]
    exact cp0 hw
end
section
/-! freeWith answers FREE with the undone ones of a set done; the land stays, what is kept stays right -/
theorem fwLoop0 {n : Nat} {p2 v1 wc gc yr : Int32} {goods works coin kf : Nat → Int32} (hn : 1000000000000 ≤ n) (hw : 0 ≤ wc ∧ wc ≤ 7) (h0 : (p2 &&& (v1 ^^^ (-1))) = 0) {a0 a3 b0 b3 : Int32} {a1 a2 b1 b2 : Nat → Int32} : Sf (lp (u9 (fX0_freeWith_s47 p2 gc wc yr goods works coin v1 kf)) n (0, a0, a1, a2, a3, b0, b1, b2, b3)) (fun r => r = (a0, a1, a2, a3, b0, b1, b2, b3)) := by
  refine Sf.loop9 (fun z c0 c1 c2 c3 d0 d1 d2 d3 => (0 ≤ z ∧ z ≤ wc) ∧ (c0, c1, c2, c3, d0, d1, d2, d3) = (a0, a1, a2, a3, b0, b1, b2, b3)) (fun z c0 c1 c2 c3 d0 d1 d2 d3 => muUp z) (fun z c0 c1 c2 c3 d0 d1 d2 d3 h => ?_) (show (0 ≤ (0 : Int32) ∧ (0 : Int32) ≤ wc) ∧ (a0, a1, a2, a3, b0, b1, b2, b3) = (a0, a1, a2, a3, b0, b1, b2, b3) from ⟨⟨by decide, hw.1⟩, rfl⟩) (muUp_n hn)
  obtain ⟨h1, h2⟩ := h
  unfold fX0_freeWith_s47
  refine Sf.ite (fun hc => Sf.inr h2) (fun hc => ?_)
  obtain ⟨p0, p1, p3⟩ := up1 h1.1 (Int32.le_trans hw.2 (by decide)) hc
  have hz1 : z + 1 ≤ wc := by clear h2 h0; grind
  have hz : 0 ≤ z ∧ z ≤ 30 := ⟨h1.1, by clear h2 h0; grind⟩
  rw [h0, if_pos ((bit_at hz).mpr (tq_zero _))]
  exact Sf.inl (show (0 ≤ z + 1 ∧ z + 1 ≤ wc) ∧ (c0, c1, c2, c3, d0, d1, d2, d3) = (a0, a1, a2, a3, b0, b1, b2, b3) from ⟨⟨p0, hz1⟩, h2⟩) (muUp_lt hc)
theorem fwLoop1 {n : Nat} {p2 v1 gc wc yr : Int32} {goods works coin kf : Nat → Int32} (hn : 1000000000000 ≤ n) (hgc : 0 ≤ gc ∧ gc ≤ 8) (hw : 0 ≤ wc ∧ wc ≤ 7) (hyr : 1 ≤ yr ∧ yr ≤ 30) (hgd : GdOk goods) (hwk : WkOk works) (hco : AI 0 9 coin) {a0 a3 b0 b3 : Int32} {a1 a2 b1 b2 : Nat → Int32} (h0 : 0 ≤ a0 ∧ a0 ≤ 20) (h1 : LnOk a1) (h2 : AI 0 99 a2) (hf : ∀ k, k < wc.toNatClampNeg → Wf1 (ro 5 works) a0 k) : Sf (lp (u9 (fX0_freeWith_s47b p2 kf wc v1 gc wc yr goods works coin)) n (0, a0, a1, a2, a3, b0, b1, b2, b3)) (fun r => ((0 ≤ r.1 ∧ r.1 ≤ 20) ∧ LnOk r.2.1 ∧ AI 0 99 r.2.2.1) ∧ AbEq (r.1, ro 7 r.2.1, r.2.2.1) (doS (ro 5 works) (p2 &&& (v1 ^^^ (-1))) wc.toNatClampNeg (a0, ro 7 a1, a2)) ∧ (r.2.2.2.2.1, r.2.2.2.2.2.1, r.2.2.2.2.2.2.1, r.2.2.2.2.2.2.2) = (b0, b1, b2, b3)) := by
  refine Sf.loop9 (fun z c0 c1 c2 c3 d0 d1 d2 d3 => (0 ≤ z ∧ z ≤ wc) ∧ ((0 ≤ c0 ∧ c0 ≤ 20) ∧ LnOk c1 ∧ AI 0 99 c2) ∧ AbEq (c0, ro 7 c1, c2) (doS (ro 5 works) (p2 &&& (v1 ^^^ (-1))) z.toNatClampNeg (a0, ro 7 a1, a2)) ∧ (d0, d1, d2, d3) = (b0, b1, b2, b3)) (fun z c0 c1 c2 c3 d0 d1 d2 d3 => muUp z) (fun z c0 c1 c2 c3 d0 d1 d2 d3 h => ?_) (show (0 ≤ (0 : Int32) ∧ (0 : Int32) ≤ wc) ∧ ((0 ≤ a0 ∧ a0 ≤ 20) ∧ LnOk a1 ∧ AI 0 99 a2) ∧ AbEq (a0, ro 7 a1, a2) (doS (ro 5 works) (p2 &&& (v1 ^^^ (-1))) (0 : Int32).toNatClampNeg (a0, ro 7 a1, a2)) ∧ (b0, b1, b2, b3) = (b0, b1, b2, b3) from ⟨⟨by decide, hw.1⟩, ⟨h0, h1, h2⟩, AbEq.refl _, rfl⟩) (muUp_n hn)
  obtain ⟨i0, ⟨i1, i2, i3⟩, i4, i5⟩ := h
  unfold fX0_freeWith_s47b
  refine Sf.ite (fun hc => ?_) (fun hc => ?_)
  · have e : z = wc := Int32.le_antisymm i0.2 hc
    rw [e] at i4
    exact Sf.inr ⟨⟨i1, i2, i3⟩, i4, i5⟩
  obtain ⟨p0, p1, p3⟩ := up1 i0.1 (Int32.le_trans hw.2 (by decide)) hc
  have hz1 : z + 1 ≤ wc := by clear i4 i5; grind
  have hz : 0 ≤ z ∧ z ≤ 30 := ⟨i0.1, by clear i4 i5; grind⟩
  have hzn : z.toNatClampNeg < wc.toNatClampNeg := by
    have a := i32_cl i0.1
    have b := i32_cl hw.1
    have c := Int32.lt_iff_toInt_lt.mp p3
    omega
  have hA := doS_L (work := ro 5 works) (s := (p2 &&& (v1 ^^^ (-1)))) (A := (a0, ro 7 a1, a2)) h0 z.toNatClampNeg
  have nx : doS (ro 5 works) (p2 &&& (v1 ^^^ (-1))) (z + 1).toNatClampNeg (a0, ro 7 a1, a2) = if tq (p2 &&& (v1 ^^^ (-1))) z.toNatClampNeg = true then doA (ro 5 works) z.toNatClampNeg (doS (ro 5 works) (p2 &&& (v1 ^^^ (-1))) z.toNatClampNeg (a0, ro 7 a1, a2)) else doS (ro 5 works) (p2 &&& (v1 ^^^ (-1))) z.toNatClampNeg (a0, ro 7 a1, a2) := by
    rw [p1]
    rfl
  refine Sf.ite (fun hb => ?_) (fun hb => ?_)
  · have hb := (bit_at hz).mp hb
    rw [hb, if_neg (by decide)] at nx
    exact Sf.inl (show (0 ≤ z + 1 ∧ z + 1 ≤ wc) ∧ ((0 ≤ c0 ∧ c0 ≤ 20) ∧ LnOk c1 ∧ AI 0 99 c2) ∧ AbEq (c0, ro 7 c1, c2) (doS (ro 5 works) (p2 &&& (v1 ^^^ (-1))) (z + 1).toNatClampNeg (a0, ro 7 a1, a2)) ∧ (d0, d1, d2, d3) = (b0, b1, b2, b3) from ⟨⟨p0, hz1⟩, ⟨i1, i2, i3⟩, by rw [nx]; exact i4, i5⟩) (muUp_lt hc)
  · have hb : tq (p2 &&& (v1 ^^^ (-1))) z.toNatClampNeg = true := by
      cases hq : tq (p2 &&& (v1 ^^^ (-1))) z.toNatClampNeg with
      | true => rfl
      | false => exact absurd ((bit_at hz).mpr hq) hb
    rw [if_pos hb] at nx
    have e1 : c0 = (doS (ro 5 works) (p2 &&& (v1 ^^^ (-1))) z.toNatClampNeg (a0, ro 7 a1, a2)).1 := i4.1
    have hf' : Wf1 (ro 5 works) c0 z.toNatClampNeg := (hf _ hzn).mono (by rw [e1]; exact hA.1)
    refine Sf.bind (Sf.and (sX1_perform i1 hw i2 hwk i3) (performC (x0_years := yr) (x0_goods := goods) (x0_coin := coin) i1 hgc hw hyr i2 hgd hwk i3 hco ⟨i0.1, p3⟩ hf')) ?_
    rintro ⟨g1, g2, g3, g4⟩ ⟨⟨r1, r2, r3⟩, r4⟩
    try dsimp only [u4]
    refine Sf.inl (show (0 ≤ z + 1 ∧ z + 1 ≤ wc) ∧ ((0 ≤ g1 ∧ g1 ≤ 20) ∧ LnOk g2 ∧ AI 0 99 g3) ∧ AbEq (g1, ro 7 g2, g3) (doS (ro 5 works) (p2 &&& (v1 ^^^ (-1))) (z + 1).toNatClampNeg (a0, ro 7 a1, a2)) ∧ (d0, d1, d2, d3) = (b0, b1, b2, b3) from ⟨⟨p0, hz1⟩, ⟨r1, r2, r3⟩, ?_, i5⟩) (muUp_lt hc)
    rw [nx]
    exact AbEq.trans r4 (doA_congr i4 (fun c _ => rfl) hf' i1)
def FwQ (F : Int32 → Int32) (lc : Int32) (lines chg : Nat → Int32) (r : Int32 × (Nat → Int32) × (Nat → Int32) × (Nat → Int32) × Int32) : Prop := r.1 = lc ∧ r.2.1 = lines ∧ r.2.2.1 = chg ∧ Kn F r.2.2.2.1 r.2.2.2.2
theorem freeWithC {n : Nat} {x0_gained : Nat → Int32} {x1_left : (Nat → Int32)} {x1_earned : (Nat → Int32)} {x1_turnCost : Int32} {x1_turnWayless : Int32} {x2_edgeA : (Nat → Int32)} {x2_edgeB : (Nat → Int32)} {x2_edgeCost : (Nat → Int32)} {x2_edgeLine : (Nat → Int32)} {x2_change : (Nat → Int32)} {x2_away : (Nat → Int32)} {x2_steps : (Nat → Int32)} {x2_nodes : (Nat → Int32)} {x2_stepCount : Int32} {x2_open : (Nat → Int32)} {x2_openCount : Int32} {x2_seen : Int64} {x2_edgeCount : Int32} {x2_aim : Int32} {x3_lineCount : Int32} {x3_goodsCount : Int32} {x3_workCount : Int32} {x3_years : Int32} {x3_lines : (Nat → Int32)} {x3_goods : (Nat → Int32)} {x3_works : (Nat → Int32)} {x3_change : (Nat → Int32)} {x3_coin : (Nat → Int32)} {x3_knownFree : (Nat → Int32)} {x3_isKnown : Int32} {x4_lineCount : Int32} {x4_goodsCount : Int32} {x4_workCount : Int32} {x4_years : Int32} {x4_lines : (Nat → Int32)} {x4_goods : (Nat → Int32)} {x4_works : (Nat → Int32)} {x4_change : (Nat → Int32)} {x4_coin : (Nat → Int32)} {x4_knownFree : (Nat → Int32)} {x4_isKnown : Int32} {p2 : Int32} (hn : 1000000000000 ≤ n) (h_x2_edgeA : (AI 0 35 x2_edgeA)) (h_x2_edgeB : (AI 0 35 x2_edgeB)) (h_x2_edgeLine : (AI 0 19 x2_edgeLine)) (h_x2_steps : (AI 0 22 x2_steps)) (h_x2_nodes : (AI 0 35 x2_nodes)) (h_x2_stepCount : (0 ≤ x2_stepCount ∧ x2_stepCount ≤ 36)) (h_x2_open : (AI 0 35 x2_open)) (h_x2_openCount : (0 ≤ x2_openCount ∧ x2_openCount ≤ 36)) (h_x2_edgeCount : (0 ≤ x2_edgeCount ∧ x2_edgeCount ≤ 60)) (h_x3_lineCount : (0 ≤ x3_lineCount ∧ x3_lineCount ≤ 20)) (h_x3_goodsCount : (0 ≤ x3_goodsCount ∧ x3_goodsCount ≤ 8)) (h_x3_workCount : (0 ≤ x3_workCount ∧ x3_workCount ≤ 7)) (h_x3_years : (1 ≤ x3_years ∧ x3_years ≤ 30)) (h_x3_lines : (LnOk x3_lines)) (h_x3_goods : (GdOk x3_goods)) (h_x3_works : (WkOk x3_works)) (h_x3_change : (AI 0 99 x3_change)) (h_x3_coin : (AI 0 9 x3_coin)) (h_x4_lineCount : (0 ≤ x4_lineCount ∧ x4_lineCount ≤ 20)) (h_x4_goodsCount : (0 ≤ x4_goodsCount ∧ x4_goodsCount ≤ 8)) (h_x4_workCount : (0 ≤ x4_workCount ∧ x4_workCount ≤ 7)) (h_x4_years : (1 ≤ x4_years ∧ x4_years ≤ 30)) (h_x4_lines : (LnOk x4_lines)) (h_x4_goods : (GdOk x4_goods)) (h_x4_works : (WkOk x4_works)) (h_x4_change : (AI 0 99 x4_change)) (h_x4_coin : (AI 0 9 x4_coin)) (hf : ∀ k, k < x4_workCount.toNatClampNeg → Wf1 (ro 5 x4_works) x4_lineCount k) (hk : Kn (FrS x4_lineCount (ro 7 x4_lines) x4_change x4_coin (ro 3 x4_goods) x4_goodsCount (ro 5 x4_works) x4_workCount) x4_knownFree x4_isKnown) : Sf (fX0_freeWith n x0_gained (x1_left, x1_earned, x1_turnCost, x1_turnWayless) (x2_edgeA, x2_edgeB, x2_edgeCost, x2_edgeLine, x2_change, x2_away, x2_steps, x2_nodes, x2_stepCount, x2_open, x2_openCount, x2_seen, x2_edgeCount, x2_aim) (x3_lineCount, x3_goodsCount, x3_workCount, x3_years, x3_lines, x3_goods, x3_works, x3_change, x3_coin, x3_knownFree, x3_isKnown) (x4_lineCount, x4_goodsCount, x4_workCount, x4_years, x4_lines, x4_goods, x4_works, x4_change, x4_coin, x4_knownFree, x4_isKnown) p2) (fun r => (∃ s, (∀ k, k < x4_workCount.toNatClampNeg → tq s k = (tq p2 k && decide (ro 5 x4_works k 4 = 0))) ∧ r.1 = FrS x4_lineCount (ro 7 x4_lines) x4_change x4_coin (ro 3 x4_goods) x4_goodsCount (ro 5 x4_works) x4_workCount s) ∧ FwQ (FrS x4_lineCount (ro 7 x4_lines) x4_change x4_coin (ro 3 x4_goods) x4_goodsCount (ro 5 x4_works) x4_workCount) x4_lineCount x4_lines x4_change r.2.2.2) := by
  unfold fX0_freeWith
  dsimp only [u4, u14, u11]
  refine Sf.bind (doneS hn h_x4_works h_x4_workCount) (fun v1 hv1 => ?_)
  have hbits : ∀ k, k < x4_workCount.toNatClampNeg → tq (p2 &&& (v1 ^^^ (-1))) k = (tq p2 k && decide (ro 5 x4_works k 4 = 0)) := by
    intro k hk'
    have h7 : k < 7 := by
      have a := i32_cl h_x4_workCount.1
      have b := (i32_b h_x4_workCount).2
      have e : (7 : Int32).toInt = 7 := by decide
      omega
    rw [tq_and, tq_not _ (by omega)]
    congr 1
    have q := hv1 k (by omega)
    cases hq : tq v1 k with
    | true =>
      have q := (q.mp hq).2
      rw [decide_eq_false q]
      rfl
    | false =>
      have q2 : ro 5 x4_works k 4 = 0 := by
        refine Classical.byContradiction fun hne => ?_
        have := q.mpr ⟨hk', hne⟩
        rw [hq] at this
        cases this
      rw [decide_eq_true q2]
      rfl
  refine Sf.bind (knownS hn hk) ?_
  rintro ⟨v3, g4, g5⟩ ⟨k1, k2, k3⟩
  have k1 : v3 = -1 ∨ v3 = _ := k1
  try dsimp only [u3]
  refine Sf.ite (fun hc => ?_) (fun hc => ?_)
  · refine Sf.ite (fun hu => ?_) (fun hu => ?_)
    · refine Sf.bind (fwLoop0 hn h_x4_workCount hu) ?_
      rintro ⟨w28, w29, w30, w31, w32, w33, w34, w35⟩ e
      cases e
      try dsimp only [u8]
      refine Sf.bind (thereS hn h_x4_lineCount) (fun v36 h36 => ?_)
      refine Sf.bind (freeByC hn h_x2_edgeA h_x2_edgeB h_x2_edgeLine h_x2_steps h_x2_nodes h_x2_stepCount h_x2_open h_x2_openCount h_x2_edgeCount h_x4_lineCount h_x4_goodsCount h_x4_workCount h_x4_years h_x4_lines h_x4_goods h_x4_works h_x4_change h_x4_coin h36) ?_
      rintro ⟨v38, g40, g41, g42, g43, g44, g45, g46, g47⟩ e38
      have e38 : v38 = _ := e38
      try dsimp only [u2]
      have e39 : v38 = FrS x4_lineCount (ro 7 x4_lines) x4_change x4_coin (ro 3 x4_goods) x4_goodsCount (ro 5 x4_works) x4_workCount (p2 &&& (v1 ^^^ (-1))) := by
        rw [e38, hu]
        unfold FrS
        rw [doS_none _ (fun k _ => tq_zero k)]
        rfl
      refine Sf.bind (keepS k2 e39) (fun g49 h49 => ?_)
      exact Sf.ok ⟨⟨_, hbits, e39⟩, rfl, rfl, rfl, h49⟩
    · refine Sf.bind (Sf.and (sX1_take h_x3_lines h_x3_goods h_x3_works h_x3_change h_x3_coin h_x4_lineCount h_x4_goodsCount h_x4_workCount h_x4_years h_x4_lines h_x4_goods h_x4_works h_x4_change h_x4_coin) (takeC h_x4_lineCount h_x4_goodsCount h_x4_workCount h_x4_years h_x4_lines h_x4_goods h_x4_works h_x4_change h_x4_coin)) ?_
      rintro ⟨g57, g58, g59, g60, g61, g62, g63, g64, g65, g66⟩ ⟨⟨t0, t1, t2, t3, t4, t5, t6, t7, t8⟩, s0, s1, s2, s3, s4, s5, s6, s7, s8, s9⟩
      have s0 : g57 = x4_lineCount := s0
      have s1 : g58 = x4_goodsCount := s1
      have s2 : g59 = x4_workCount := s2
      have s3 : g60 = x4_years := s3
      have s4 : ∀ l, l < x4_lineCount.toNatClampNeg → ∀ c, c < 7 → ro 7 g61 l c = ro 7 x4_lines l c := s4
      have s5 : ∀ g, g < x4_goodsCount.toNatClampNeg → ∀ c, c < 3 → ro 3 g62 g c = ro 3 x4_goods g c := s5
      have s6 : ∀ k, k < x4_workCount.toNatClampNeg → ∀ c, c < 5 → ro 5 g63 k c = ro 5 x4_works k c := s6
      have s7 : ∀ p, p < 12 → g64 p = x4_change p := s7
      have s8 : ∀ w, w < 3 → g65 w = x4_coin w := s8
      have t4 : LnOk g61 := t4
      have t5 : GdOk g62 := t5
      have t6 : WkOk g63 := t6
      have t7 : AI 0 99 g64 := t7
      have t8 : AI 0 9 g65 := t8
      subst s0 s1 s2 s3
      try dsimp only [u10]
      have hf' : ∀ k, k < g59.toNatClampNeg → Wf1 (ro 5 g63) g57 k := fun k hk' => (hf k hk').congr (fun c hc' => (s6 k hk' c (by omega)).symm)
      refine Sf.bind (fwLoop1 hn h_x4_goodsCount h_x4_workCount h_x4_years t5 t6 t8 h_x4_lineCount t4 t7 hf') ?_
      rintro ⟨w79, w80, w81, w82, w83, w84, w85, w86⟩ ⟨⟨r1, r2, r3⟩, r4, r5⟩
      obtain ⟨y1, y2, y3, y4⟩ : g57 = w83 ∧ x4_lines = w84 ∧ x4_change = w85 ∧ g5 = w86 := by cases r5; exact ⟨rfl, rfl, rfl, rfl⟩
      subst y1 y2 y3 y4
      have r1 : 0 ≤ w79 ∧ w79 ≤ 20 := r1
      have r2 : LnOk w80 := r2
      have r3 : AI 0 99 w81 := r3
      try dsimp only [u8]
      refine Sf.bind (thereS hn r1) (fun v87 h87 => ?_)
      refine Sf.bind (freeByC hn h_x2_edgeA h_x2_edgeB h_x2_edgeLine h_x2_steps h_x2_nodes h_x2_stepCount h_x2_open h_x2_openCount h_x2_edgeCount r1 h_x4_goodsCount h_x4_workCount h_x4_years r2 t5 t6 r3 t8 h87) ?_
      rintro ⟨v89, g91, g92, g93, g94, g95, g96, g97, g98⟩ e89
      have e89 : v89 = FrA (w79, ro 7 w80, w81) g65 (ro 3 g62) g58 := e89
      try dsimp only [u2]
      have e90 : v89 = FrS g57 (ro 7 x4_lines) x4_change x4_coin (ro 3 x4_goods) g58 (ro 5 x4_works) g59 (p2 &&& (v1 ^^^ (-1))) := by
        have q : AbEq (w79, ro 7 w80, w81) (doS (ro 5 x4_works) (p2 &&& (v1 ^^^ (-1))) g59.toNatClampNeg (g57, ro 7 x4_lines, x4_change)) := AbEq.trans r4 (doS_congr (A := (g57, ro 7 g61, g64)) (B := (g57, ro 7 x4_lines, x4_change)) ⟨rfl, s4, s7⟩ h_x4_lineCount _ (fun k _ => rfl) (fun k hk' c hc' => s6 k hk' c (by omega)) hf')
        have q2 := FrA_congr (coins := g65) (coins' := x4_coin) (good := ro 3 g62) (good' := ro 3 x4_goods) (G := g58) q s8 s5
        exact e89.trans q2
      refine Sf.bind (keepS k2 e90) (fun g49 h49 => ?_)
      exact Sf.ok ⟨⟨_, hbits, e90⟩, rfl, rfl, rfl, h49⟩
  · refine Sf.ok ⟨⟨_, hbits, ?_⟩, rfl, rfl, rfl, k2⟩
    rcases k1 with k1 | k1
    · exact absurd k1 hc
    · exact k1
end
section
/-! worth and first: the class's and the reference's are one function of the land -/
noncomputable def WoA (A : Ab) (coins : Nat → Int32) (good : Nat → Nat → Int32) (G : Int32) (work : Nat → Nat → Int32) (yr : Int32) (k : Nat) : Int32 := yr * (FrA A coins good G - FrA (doA work k A) coins good G) - work k 3
theorem WoA_congr {A B : Ab} {coins coins' : Nat → Int32} {good good' : Nat → Nat → Int32} {G : Int32} {work work' : Nat → Nat → Int32} {yr : Int32} {k : Nat} (h : AbEq A B) (h0 : 0 ≤ A.1 ∧ A.1 ≤ 20) (hco : ∀ w, w < 3 → coins w = coins' w) (hg : ∀ g, g < G.toNatClampNeg → ∀ c, c < 3 → good g c = good' g c) (hw : ∀ c, c < 5 → work k c = work' k c) (hf : Wf1 work A.1 k) : WoA A coins good G work yr k = WoA B coins' good' G work' yr k := by
  unfold WoA
  rw [FrA_congr h hco hg, FrA_congr (doA_congr h (fun c hc => hw c (by omega)) hf h0) hco hg, hw 3 (by decide)]
theorem worthInC {n : Nat} {x0_gained : Nat → Int32} {x1_left : (Nat → Int32)} {x1_earned : (Nat → Int32)} {x1_turnCost : Int32} {x1_turnWayless : Int32} {x2_edgeA : (Nat → Int32)} {x2_edgeB : (Nat → Int32)} {x2_edgeCost : (Nat → Int32)} {x2_edgeLine : (Nat → Int32)} {x2_change : (Nat → Int32)} {x2_away : (Nat → Int32)} {x2_steps : (Nat → Int32)} {x2_nodes : (Nat → Int32)} {x2_stepCount : Int32} {x2_open : (Nat → Int32)} {x2_openCount : Int32} {x2_seen : Int64} {x2_edgeCount : Int32} {x2_aim : Int32} {x3_lineCount : Int32} {x3_goodsCount : Int32} {x3_workCount : Int32} {x3_years : Int32} {x3_lines : (Nat → Int32)} {x3_goods : (Nat → Int32)} {x3_works : (Nat → Int32)} {x3_change : (Nat → Int32)} {x3_coin : (Nat → Int32)} {x3_knownFree : (Nat → Int32)} {x3_isKnown : Int32} {x4_lineCount : Int32} {x4_goodsCount : Int32} {x4_workCount : Int32} {x4_years : Int32} {x4_lines : (Nat → Int32)} {x4_goods : (Nat → Int32)} {x4_works : (Nat → Int32)} {x4_change : (Nat → Int32)} {x4_coin : (Nat → Int32)} {x4_knownFree : (Nat → Int32)} {x4_isKnown : Int32} {p2 p3 : Int32} (hn : 1000000000000 ≤ n) (h_x2_edgeA : (AI 0 35 x2_edgeA)) (h_x2_edgeB : (AI 0 35 x2_edgeB)) (h_x2_edgeLine : (AI 0 19 x2_edgeLine)) (h_x2_steps : (AI 0 22 x2_steps)) (h_x2_nodes : (AI 0 35 x2_nodes)) (h_x2_stepCount : (0 ≤ x2_stepCount ∧ x2_stepCount ≤ 36)) (h_x2_open : (AI 0 35 x2_open)) (h_x2_openCount : (0 ≤ x2_openCount ∧ x2_openCount ≤ 36)) (h_x2_edgeCount : (0 ≤ x2_edgeCount ∧ x2_edgeCount ≤ 60)) (h_x3_lineCount : (0 ≤ x3_lineCount ∧ x3_lineCount ≤ 20)) (h_x3_goodsCount : (0 ≤ x3_goodsCount ∧ x3_goodsCount ≤ 8)) (h_x3_workCount : (0 ≤ x3_workCount ∧ x3_workCount ≤ 7)) (h_x3_years : (1 ≤ x3_years ∧ x3_years ≤ 30)) (h_x3_lines : (LnOk x3_lines)) (h_x3_goods : (GdOk x3_goods)) (h_x3_works : (WkOk x3_works)) (h_x3_change : (AI 0 99 x3_change)) (h_x3_coin : (AI 0 9 x3_coin)) (h_x4_lineCount : (0 ≤ x4_lineCount ∧ x4_lineCount ≤ 20)) (h_x4_goodsCount : (0 ≤ x4_goodsCount ∧ x4_goodsCount ≤ 8)) (h_x4_workCount : (0 ≤ x4_workCount ∧ x4_workCount ≤ 7)) (h_x4_years : (1 ≤ x4_years ∧ x4_years ≤ 30)) (h_x4_lines : (LnOk x4_lines)) (h_x4_goods : (GdOk x4_goods)) (h_x4_works : (WkOk x4_works)) (h_x4_change : (AI 0 99 x4_change)) (h_x4_coin : (AI 0 9 x4_coin)) (hf : ∀ k, k < x4_workCount.toNatClampNeg → Wf1 (ro 5 x4_works) x4_lineCount k) (hk : Kn (FrS x4_lineCount (ro 7 x4_lines) x4_change x4_coin (ro 3 x4_goods) x4_goodsCount (ro 5 x4_works) x4_workCount) x4_knownFree x4_isKnown) (hp : 0 ≤ p2 ∧ p2 < x4_workCount) (hd : ro 5 x4_works p2.toNatClampNeg 4 = 0) : Sf (fX0_worthIn n x0_gained (x1_left, x1_earned, x1_turnCost, x1_turnWayless) (x2_edgeA, x2_edgeB, x2_edgeCost, x2_edgeLine, x2_change, x2_away, x2_steps, x2_nodes, x2_stepCount, x2_open, x2_openCount, x2_seen, x2_edgeCount, x2_aim) (x3_lineCount, x3_goodsCount, x3_workCount, x3_years, x3_lines, x3_goods, x3_works, x3_change, x3_coin, x3_knownFree, x3_isKnown) (x4_lineCount, x4_goodsCount, x4_workCount, x4_years, x4_lines, x4_goods, x4_works, x4_change, x4_coin, x4_knownFree, x4_isKnown) p2 p3) (fun r => r.1 = WoA (x4_lineCount, ro 7 x4_lines, x4_change) x4_coin (ro 3 x4_goods) x4_goodsCount (ro 5 x4_works) p3 p2.toNatClampNeg ∧ FwQ (FrS x4_lineCount (ro 7 x4_lines) x4_change x4_coin (ro 3 x4_goods) x4_goodsCount (ro 5 x4_works) x4_workCount) x4_lineCount x4_lines x4_change r.2.2.2) := by
  have hp6 : 0 ≤ p2 ∧ p2 ≤ 6 := by clear hk hf hd; grind
  have hpn : p2.toNatClampNeg < x4_workCount.toNatClampNeg := by
    have a := i32_cl hp.1
    have b := i32_cl h_x4_workCount.1
    have c := Int32.lt_iff_toInt_lt.mp hp.2
    omega
  have hw7 : x4_workCount.toNatClampNeg ≤ 7 := by
    have b := i32_cl h_x4_workCount.1
    have c := (i32_b h_x4_workCount).2
    have e : (7 : Int32).toInt = 7 := by decide
    omega
  unfold fX0_worthIn
  dsimp only [u4, u14, u11]
  refine Sf.bind (Sf.and (sX0_freeWith hn h_x2_edgeA h_x2_edgeB h_x2_edgeLine h_x2_steps h_x2_nodes h_x2_stepCount h_x2_open h_x2_openCount h_x2_edgeCount h_x3_lineCount h_x3_goodsCount h_x3_workCount h_x3_years h_x3_lines h_x3_goods h_x3_works h_x3_change h_x3_coin h_x4_lineCount h_x4_goodsCount h_x4_workCount h_x4_years h_x4_lines h_x4_goods h_x4_works h_x4_change h_x4_coin) (freeWithC (x0_gained := x0_gained) (x1_left := x1_left) (x1_earned := x1_earned) (x1_turnCost := x1_turnCost) (x1_turnWayless := x1_turnWayless) hn h_x2_edgeA h_x2_edgeB h_x2_edgeLine h_x2_steps h_x2_nodes h_x2_stepCount h_x2_open h_x2_openCount h_x2_edgeCount h_x3_lineCount h_x3_goodsCount h_x3_workCount h_x3_years h_x3_lines h_x3_goods h_x3_works h_x3_change h_x3_coin h_x4_lineCount h_x4_goodsCount h_x4_workCount h_x4_years h_x4_lines h_x4_goods h_x4_works h_x4_change h_x4_coin hf hk)) ?_
  rintro ⟨v1, ⟨g3, g4, g5, g6, g7, g8, g9, g10⟩, ⟨g12, g13, g14, g15, g16, g17, g18, g19, g20, g21⟩, ⟨g23, g24, g25, g26, g27⟩⟩ ⟨⟨b1, b2, b3, b4, b5, b6, b7, b8, b9, b10, b11, b12, b13, b14, b15, b16⟩, ⟨s, hs, e1⟩, q1, q2, q3, q4⟩
  have e1 : v1 = _ := e1
  have q1 : g23 = x4_lineCount := q1
  have q2 : g24 = x4_lines := q2
  have q3 : g25 = x4_change := q3
  have q4 : Kn _ g26 g27 := q4
  try dsimp only [u8, u10, u5]
  rw [q1, q2, q3]
  refine Sf.bind (Sf.and (sX0_freeWith hn b1 b2 b3 h_x2_steps h_x2_nodes h_x2_stepCount h_x2_open h_x2_openCount b4 b5 b6 b7 b8 b9 b10 b11 b12 b13 h_x4_lineCount h_x4_goodsCount h_x4_workCount h_x4_years h_x4_lines h_x4_goods h_x4_works h_x4_change h_x4_coin) (freeWithC (x0_gained := x0_gained) (x1_left := x1_left) (x1_earned := x1_earned) (x1_turnCost := x1_turnCost) (x1_turnWayless := x1_turnWayless) hn b1 b2 b3 h_x2_steps h_x2_nodes h_x2_stepCount h_x2_open h_x2_openCount b4 b5 b6 b7 b8 b9 b10 b11 b12 b13 h_x4_lineCount h_x4_goodsCount h_x4_workCount h_x4_years h_x4_lines h_x4_goods h_x4_works h_x4_change h_x4_coin hf q4)) ?_
  rintro ⟨v29, ⟨g31, g32, g33, g34, g35, g36, g37, g38⟩, ⟨g40, g41, g42, g43, g44, g45, g46, g47, g48, g49⟩, ⟨g51, g52, g53, g54, g55⟩⟩ ⟨⟨c1, c2, c3, c4, c5, c6, c7, c8, c9, c10, c11, c12, c13, c14, c15, c16⟩, ⟨s', hs', e29⟩, r1, r2, r3, r4⟩
  have e29 : v29 = _ := e29
  try dsimp only [u8, u10, u5]
  refine Sf.bind (ofWorkV h_x4_works hp6 (by decide)) (fun v57 e57 => ?_)
  have e57 : v57 = ro 5 x4_works p2.toNatClampNeg 3 := e57
  refine Sf.ok ⟨?_, r1, r2, r3, r4⟩
  show p3 * (v1 - v29) - v57 = _
  have ep : Int32.ofNat p2.toNatClampNeg = p2 := Int32.ofNat_toNatClampNeg p2 hp.1
  have f1 : v1 = FrA (x4_lineCount, ro 7 x4_lines, x4_change) x4_coin (ro 3 x4_goods) x4_goodsCount := by
    rw [e1]
    unfold FrS
    rw [doS_none _ (fun k hk' => by rw [hs k hk', tq_zero]; rfl)]
  have f29 : v29 = FrA (doA (ro 5 x4_works) p2.toNatClampNeg (x4_lineCount, ro 7 x4_lines, x4_change)) x4_coin (ro 3 x4_goods) x4_goodsCount := by
    rw [e29]
    unfold FrS
    rw [doS_one _ hpn (fun k hk' => ?_)]
    rw [hs' k hk', ← ep, tq_shl (by omega) k (by omega), ep]
    by_cases hkp : k = p2.toNatClampNeg
    · rw [hkp, hd]
      simp
    · rw [decide_eq_false hkp]
      rfl
  rw [f1, f29, e57]
  rfl
/-- the first of the works that are worth most -/
def frW (w : Nat → Int32) (work : Nat → Nat → Int32) : Nat → Int32 × Int32
  | 0 => (-1, 0)
  | k + 1 => if work k 4 = 0 ∧ ¬ w k ≤ (frW w work k).2 then (Int32.ofNat k, w k) else frW w work k
theorem frW_pos (w : Nat → Int32) (work : Nat → Nat → Int32) : ∀ K : Nat, 0 ≤ (frW w work K).2
  | 0 => (show (0 : Int32) ≤ 0 by decide)
  | K + 1 => by
    have ih := frW_pos w work K
    show 0 ≤ (if work K 4 = 0 ∧ ¬ w K ≤ (frW w work K).2 then (Int32.ofNat K, w K) else frW w work K).2
    by_cases h : work K 4 = 0 ∧ ¬ w K ≤ (frW w work K).2
    · rw [if_pos h]
      exact Int32.le_of_lt (Int32.lt_of_le_of_lt ih (Int32.not_le.mp h.2))
    · rw [if_neg h]
      exact ih
theorem frW_congr {w w' : Nat → Int32} {work work' : Nat → Nat → Int32} : ∀ K : Nat, (∀ k, k < K → w k = w' k) → (∀ k, k < K → work k 4 = work' k 4) → frW w work K = frW w' work' K
  | 0, _, _ => rfl
  | K + 1, h, h' => by
    show (if work K 4 = 0 ∧ ¬ w K ≤ (frW w work K).2 then (Int32.ofNat K, w K) else frW w work K) = (if work' K 4 = 0 ∧ ¬ w' K ≤ (frW w' work' K).2 then (Int32.ofNat K, w' K) else frW w' work' K)
    rw [frW_congr K (fun k hk => h k (by omega)) (fun k hk => h' k (by omega)), h K (by omega), h' K (by omega)]
/-- FIRST, said of the land alone -/
noncomputable def FirA (A : Ab) (coins : Nat → Int32) (good : Nat → Nat → Int32) (G : Int32) (work : Nat → Nat → Int32) (W yr : Int32) : Int32 := (frW (WoA A coins good G work yr) work W.toNatClampNeg).1
theorem FirA_congr {A B : Ab} {coins coins' : Nat → Int32} {good good' : Nat → Nat → Int32} {G : Int32} {work work' : Nat → Nat → Int32} {W yr : Int32} (h : AbEq A B) (h0 : 0 ≤ A.1 ∧ A.1 ≤ 20) (hco : ∀ w, w < 3 → coins w = coins' w) (hg : ∀ g, g < G.toNatClampNeg → ∀ c, c < 3 → good g c = good' g c) (hw : ∀ k, k < W.toNatClampNeg → ∀ c, c < 5 → work k c = work' k c) (hf : ∀ k, k < W.toNatClampNeg → Wf1 work A.1 k) : FirA A coins good G work W yr = FirA B coins' good' G work' W yr := by
  unfold FirA
  rw [frW_congr _ (fun k hk => WoA_congr h h0 hco hg (hw k hk) (hf k hk)) (fun k hk => hw k hk 4 (by decide))]
theorem firstOfC {n : Nat} {x0_gained : Nat → Int32} {x1_left : (Nat → Int32)} {x1_earned : (Nat → Int32)} {x1_turnCost : Int32} {x1_turnWayless : Int32} {x2_edgeA : (Nat → Int32)} {x2_edgeB : (Nat → Int32)} {x2_edgeCost : (Nat → Int32)} {x2_edgeLine : (Nat → Int32)} {x2_change : (Nat → Int32)} {x2_away : (Nat → Int32)} {x2_steps : (Nat → Int32)} {x2_nodes : (Nat → Int32)} {x2_stepCount : Int32} {x2_open : (Nat → Int32)} {x2_openCount : Int32} {x2_seen : Int64} {x2_edgeCount : Int32} {x2_aim : Int32} {x3_lineCount : Int32} {x3_goodsCount : Int32} {x3_workCount : Int32} {x3_years : Int32} {x3_lines : (Nat → Int32)} {x3_goods : (Nat → Int32)} {x3_works : (Nat → Int32)} {x3_change : (Nat → Int32)} {x3_coin : (Nat → Int32)} {x3_knownFree : (Nat → Int32)} {x3_isKnown : Int32} {x4_lineCount : Int32} {x4_goodsCount : Int32} {x4_workCount : Int32} {x4_years : Int32} {x4_lines : (Nat → Int32)} {x4_goods : (Nat → Int32)} {x4_works : (Nat → Int32)} {x4_change : (Nat → Int32)} {x4_coin : (Nat → Int32)} {x4_knownFree : (Nat → Int32)} {x4_isKnown : Int32} (hn : 1000000000000 ≤ n) (h_x2_edgeA : (AI 0 35 x2_edgeA)) (h_x2_edgeB : (AI 0 35 x2_edgeB)) (h_x2_edgeLine : (AI 0 19 x2_edgeLine)) (h_x2_steps : (AI 0 22 x2_steps)) (h_x2_nodes : (AI 0 35 x2_nodes)) (h_x2_stepCount : (0 ≤ x2_stepCount ∧ x2_stepCount ≤ 36)) (h_x2_open : (AI 0 35 x2_open)) (h_x2_openCount : (0 ≤ x2_openCount ∧ x2_openCount ≤ 36)) (h_x2_edgeCount : (0 ≤ x2_edgeCount ∧ x2_edgeCount ≤ 60)) (h_x3_lineCount : (0 ≤ x3_lineCount ∧ x3_lineCount ≤ 20)) (h_x3_goodsCount : (0 ≤ x3_goodsCount ∧ x3_goodsCount ≤ 8)) (h_x3_workCount : (0 ≤ x3_workCount ∧ x3_workCount ≤ 7)) (h_x3_years : (1 ≤ x3_years ∧ x3_years ≤ 30)) (h_x3_lines : (LnOk x3_lines)) (h_x3_goods : (GdOk x3_goods)) (h_x3_works : (WkOk x3_works)) (h_x3_change : (AI 0 99 x3_change)) (h_x3_coin : (AI 0 9 x3_coin)) (h_x4_lineCount : (0 ≤ x4_lineCount ∧ x4_lineCount ≤ 20)) (h_x4_goodsCount : (0 ≤ x4_goodsCount ∧ x4_goodsCount ≤ 8)) (h_x4_workCount : (0 ≤ x4_workCount ∧ x4_workCount ≤ 7)) (h_x4_years : (1 ≤ x4_years ∧ x4_years ≤ 30)) (h_x4_lines : (LnOk x4_lines)) (h_x4_goods : (GdOk x4_goods)) (h_x4_works : (WkOk x4_works)) (h_x4_change : (AI 0 99 x4_change)) (h_x4_coin : (AI 0 9 x4_coin)) (hf : ∀ k, k < x4_workCount.toNatClampNeg → Wf1 (ro 5 x4_works) x4_lineCount k) (hk : Kn (FrS x4_lineCount (ro 7 x4_lines) x4_change x4_coin (ro 3 x4_goods) x4_goodsCount (ro 5 x4_works) x4_workCount) x4_knownFree x4_isKnown) : Sf (fX0_firstOf n x0_gained (x1_left, x1_earned, x1_turnCost, x1_turnWayless) (x2_edgeA, x2_edgeB, x2_edgeCost, x2_edgeLine, x2_change, x2_away, x2_steps, x2_nodes, x2_stepCount, x2_open, x2_openCount, x2_seen, x2_edgeCount, x2_aim) (x3_lineCount, x3_goodsCount, x3_workCount, x3_years, x3_lines, x3_goods, x3_works, x3_change, x3_coin, x3_knownFree, x3_isKnown) (x4_lineCount, x4_goodsCount, x4_workCount, x4_years, x4_lines, x4_goods, x4_works, x4_change, x4_coin, x4_knownFree, x4_isKnown)) (fun r => r.1 = FirA (x4_lineCount, ro 7 x4_lines, x4_change) x4_coin (ro 3 x4_goods) x4_goodsCount (ro 5 x4_works) x4_workCount x4_years ∧ FwQ (FrS x4_lineCount (ro 7 x4_lines) x4_change x4_coin (ro 3 x4_goods) x4_goodsCount (ro 5 x4_works) x4_workCount) x4_lineCount x4_lines x4_change r.2.2.2) := by
  unfold fX0_firstOf
  dsimp only [u4, u14, u11]
  refine Sf.bind (P := fun r => r.1 = FirA (x4_lineCount, ro 7 x4_lines, x4_change) x4_coin (ro 3 x4_goods) x4_goodsCount (ro 5 x4_works) x4_workCount x4_years ∧ FwQ (FrS x4_lineCount (ro 7 x4_lines) x4_change x4_coin (ro 3 x4_goods) x4_goodsCount (ro 5 x4_works) x4_workCount) x4_lineCount x4_lines x4_change r.2.2.2.2.2.2.2.2.2.2.2.2.2.2.2.2.2.2.2) ?_ ?_
  · refine Sf.loop26 (fun z2 z3 z4 z5 z6 z7 z8 z9 z10 z11 z12 z13 z14 z15 z16 z17 z18 z19 z20 z21 z22 z23 z24 z25 z26 z27 => (0 ≤ z4 ∧ z4 ≤ x4_workCount) ∧ (z2, z3) = frW (WoA (x4_lineCount, ro 7 x4_lines, x4_change) x4_coin (ro 3 x4_goods) x4_goodsCount (ro 5 x4_works) x4_years) (ro 5 x4_works) z4.toNatClampNeg ∧ (AI 0 35 z5 ∧ AI 0 35 z6 ∧ AI 0 19 z8 ∧ (0 ≤ z11 ∧ z11 ≤ 60)) ∧ ((0 ≤ z13 ∧ z13 ≤ 20) ∧ (0 ≤ z14 ∧ z14 ≤ 8) ∧ (0 ≤ z15 ∧ z15 ≤ 7) ∧ (1 ≤ z16 ∧ z16 ≤ 30) ∧ LnOk z17 ∧ GdOk z18 ∧ WkOk z19 ∧ AI 0 99 z20 ∧ AI 0 9 z21) ∧ FwQ (FrS x4_lineCount (ro 7 x4_lines) x4_change x4_coin (ro 3 x4_goods) x4_goodsCount (ro 5 x4_works) x4_workCount) x4_lineCount x4_lines x4_change (z23, z24, z25, z26, z27)) (fun z2 z3 z4 z5 z6 z7 z8 z9 z10 z11 z12 z13 z14 z15 z16 z17 z18 z19 z20 z21 z22 z23 z24 z25 z26 z27 => muUp z4) (fun z2 z3 z4 z5 z6 z7 z8 z9 z10 z11 z12 z13 z14 z15 z16 z17 z18 z19 z20 z21 z22 z23 z24 z25 z26 z27 h => ?_) ?_ (muUp_n hn)
    · obtain ⟨i0, i1, ⟨j1, j2, j3, j4⟩, ⟨m1, m2, m3, m4, m5, m6, m7, m8, m9⟩, q1, q2, q3, q4⟩ := h
      have q1 : z23 = x4_lineCount := q1
      have q2 : z24 = x4_lines := q2
      have q3 : z25 = x4_change := q3
      have q4 : Kn _ z26 z27 := q4
      unfold fX0_firstOf_s7
      refine Sf.ite (fun hc => ?_) (fun hc => ?_)
      · have e : z4 = x4_workCount := Int32.le_antisymm i0.2 hc
        rw [e] at i1
        refine Sf.inr ⟨?_, q1, q2, q3, q4⟩
        show z2 = _
        unfold FirA
        rw [← i1]
      obtain ⟨p0, p1, p3⟩ := up1 i0.1 (Int32.le_trans h_x4_workCount.2 (by decide)) hc
      have hz1 : z4 + 1 ≤ x4_workCount := by clear i1 q4 hk hf; grind
      have hz6 : 0 ≤ z4 ∧ z4 ≤ 6 := ⟨i0.1, by clear i1 q4 hk hf; grind⟩
      have ez : Int32.ofNat z4.toNatClampNeg = z4 := Int32.ofNat_toNatClampNeg z4 i0.1
      have nx : frW (WoA (x4_lineCount, ro 7 x4_lines, x4_change) x4_coin (ro 3 x4_goods) x4_goodsCount (ro 5 x4_works) x4_years) (ro 5 x4_works) (z4 + 1).toNatClampNeg = if ro 5 x4_works z4.toNatClampNeg 4 = 0 ∧ ¬ WoA (x4_lineCount, ro 7 x4_lines, x4_change) x4_coin (ro 3 x4_goods) x4_goodsCount (ro 5 x4_works) x4_years z4.toNatClampNeg ≤ z3 then (z4, WoA (x4_lineCount, ro 7 x4_lines, x4_change) x4_coin (ro 3 x4_goods) x4_goodsCount (ro 5 x4_works) x4_years z4.toNatClampNeg) else (z2, z3) := by
        rw [p1]
        show (if ro 5 x4_works z4.toNatClampNeg 4 = 0 ∧ ¬ WoA (x4_lineCount, ro 7 x4_lines, x4_change) x4_coin (ro 3 x4_goods) x4_goodsCount (ro 5 x4_works) x4_years z4.toNatClampNeg ≤ (frW (WoA (x4_lineCount, ro 7 x4_lines, x4_change) x4_coin (ro 3 x4_goods) x4_goodsCount (ro 5 x4_works) x4_years) (ro 5 x4_works) z4.toNatClampNeg).2 then (Int32.ofNat z4.toNatClampNeg, _) else frW (WoA (x4_lineCount, ro 7 x4_lines, x4_change) x4_coin (ro 3 x4_goods) x4_goodsCount (ro 5 x4_works) x4_years) (ro 5 x4_works) z4.toNatClampNeg) = _
        rw [← i1, ez]
      rw [q1, q2, q3]
      refine Sf.bind (isDoneS h_x4_works hz6) (fun v53 e53 => ?_)
      refine Sf.ite (fun hv => ?_) (fun hv => ?_)
      · have hd : ro 5 x4_works z4.toNatClampNeg 4 = 0 := by
          refine Classical.byContradiction fun hn' => ?_
          rw [if_neg hn'] at e53
          rw [e53] at hv
          exact absurd hv (by decide)
        refine Sf.bind (Sf.and (sX0_worthIn hn j1 j2 j3 h_x2_steps h_x2_nodes h_x2_stepCount h_x2_open h_x2_openCount j4 m1 m2 m3 m4 m5 m6 m7 m8 m9 h_x4_lineCount h_x4_goodsCount h_x4_workCount h_x4_years h_x4_lines h_x4_goods h_x4_works h_x4_change h_x4_coin hz6) (worthInC (x0_gained := x0_gained) (x1_left := x1_left) (x1_earned := x1_earned) (x1_turnCost := x1_turnCost) (x1_turnWayless := x1_turnWayless) hn j1 j2 j3 h_x2_steps h_x2_nodes h_x2_stepCount h_x2_open h_x2_openCount j4 m1 m2 m3 m4 m5 m6 m7 m8 m9 h_x4_lineCount h_x4_goodsCount h_x4_workCount h_x4_years h_x4_lines h_x4_goods h_x4_works h_x4_change h_x4_coin hf q4 ⟨i0.1, p3⟩ hd)) ?_
        rintro ⟨v55, ⟨g57, g58, g59, g60, g61, g62, g63, g64⟩, ⟨g66, g67, g68, g69, g70, g71, g72, g73, g74, g75⟩, ⟨g77, g78, g79, g80, g81⟩⟩ ⟨⟨b1, b2, b3, b4, b5, b6, b7, b8, b9, b10, b11, b12, b13, b14, b15, b16⟩, e55, r1, r2, r3, r4⟩
        have e55 : v55 = _ := e55
        rw [← e55] at nx
        try dsimp only [u8, u10, u5]
        refine Sf.ite (fun hle => ?_) (fun hle => ?_)
        · rw [if_neg (fun hh => hh.2 hle)] at nx
          exact Sf.inl ⟨⟨p0, hz1⟩, nx.symm, ⟨b1, b2, b3, b4⟩, ⟨b5, b6, b7, b8, b9, b10, b11, b12, b13⟩, r1, r2, r3, r4⟩ (muUp_lt hc)
        · rw [if_pos ⟨hd, hle⟩] at nx
          exact Sf.inl ⟨⟨p0, hz1⟩, nx.symm, ⟨b1, b2, b3, b4⟩, ⟨b5, b6, b7, b8, b9, b10, b11, b12, b13⟩, r1, r2, r3, r4⟩ (muUp_lt hc)
      · have hd : ro 5 x4_works z4.toNatClampNeg 4 ≠ 0 := by
          intro hn'
          rw [if_pos hn'] at e53
          exact hv e53
        rw [if_neg (fun hh => hd hh.1)] at nx
        exact Sf.inl ⟨⟨p0, hz1⟩, nx.symm, ⟨j1, j2, j3, j4⟩, ⟨m1, m2, m3, m4, m5, m6, m7, m8, m9⟩, rfl, rfl, rfl, q4⟩ (muUp_lt hc)
    · exact ⟨⟨(show (0 : Int32) ≤ 0 by decide), h_x4_workCount.1⟩, rfl, ⟨h_x2_edgeA, h_x2_edgeB, h_x2_edgeLine, h_x2_edgeCount⟩, ⟨h_x3_lineCount, h_x3_goodsCount, h_x3_workCount, h_x3_years, h_x3_lines, h_x3_goods, h_x3_works, h_x3_change, h_x3_coin⟩, rfl, rfl, rfl, hk⟩
  · rintro ⟨w29, w30, w31, w32, w33, w34, w35, w36, w37, w38, w39, w40, w41, w42, w43, w44, w45, w46, w47, w48, w49, w50, w51, w52⟩ h
    exact Sf.ok h
end
section
/-! the reference's first() -/
theorem takeFromR {n : Nat} {x0_shelf : (Nat → Int32)} {x0_rowSort : (Nat → Int32)} {x0_rowSize : (Nat → Int32)} {x0_rows : (Nat → Nat → Int64)} {x0_moved : (Nat → Int64)} {x0_shown : (Nat → Int32)} {x0_tape : (Nat → Int32)} {x0_tapeSize : Int32} {x0_refused : (Nat → Int32)} {x0_lines : Int32} {x0_line : (Nat → Nat → Int32)} {x0_changes : (Nat → Int32)} {x0_coins : (Nat → Int32)} {x0_goods : Int32} {x0_good : (Nat → Nat → Int32)} {x0_works : Int32} {x0_work : (Nat → Nat → Int32)} {x0_years : Int32} {x0_gone : Int32} {x0_spent : Int32} {x0_at : Int32} {x0_token : Int32} {x0_from : Int32} {x0_figures : Int64} {x0_fault : Int32} {x0_numbers : (Nat → Int32)} {x0_statements : Int32} {x0_left : (Nat → Int32)} {x0_far : (Nat → Int32)} {x0_tons : Int32} {x0_way : (Nat → Int32)} {x0_steps : Int32} {x0_met : Int64} {x0_queue : (Nat → Int32)} {x0_totals : (Nat → Int32)} {x1_shelf : (Nat → Int32)} {x1_rowSort : (Nat → Int32)} {x1_rowSize : (Nat → Int32)} {x1_rows : (Nat → Nat → Int64)} {x1_moved : (Nat → Int64)} {x1_shown : (Nat → Int32)} {x1_tape : (Nat → Int32)} {x1_tapeSize : Int32} {x1_refused : (Nat → Int32)} {x1_lines : Int32} {x1_line : (Nat → Nat → Int32)} {x1_changes : (Nat → Int32)} {x1_coins : (Nat → Int32)} {x1_goods : Int32} {x1_good : (Nat → Nat → Int32)} {x1_works : Int32} {x1_work : (Nat → Nat → Int32)} {x1_years : Int32} {x1_gone : Int32} {x1_spent : Int32} {x1_at : Int32} {x1_token : Int32} {x1_from : Int32} {x1_figures : Int64} {x1_fault : Int32} {x1_numbers : (Nat → Int32)} {x1_statements : Int32} {x1_left : (Nat → Int32)} {x1_far : (Nat → Int32)} {x1_tons : Int32} {x1_way : (Nat → Int32)} {x1_steps : Int32} {x1_met : Int64} {x1_queue : (Nat → Int32)} {x1_totals : (Nat → Int32)} (hn : 1000000000000 ≤ n) : Sf (fX7_takeFrom n (x0_shelf, x0_rowSort, x0_rowSize, x0_rows, x0_moved, x0_shown, x0_tape, x0_tapeSize, x0_refused, x0_lines, x0_line, x0_changes, x0_coins, x0_goods, x0_good, x0_works, x0_work, x0_years, x0_gone, x0_spent, x0_at, x0_token, x0_from, x0_figures, x0_fault, x0_numbers, x0_statements, x0_left, x0_far, x0_tons, x0_way, x0_steps, x0_met, x0_queue, x0_totals) (x1_shelf, x1_rowSort, x1_rowSize, x1_rows, x1_moved, x1_shown, x1_tape, x1_tapeSize, x1_refused, x1_lines, x1_line, x1_changes, x1_coins, x1_goods, x1_good, x1_works, x1_work, x1_years, x1_gone, x1_spent, x1_at, x1_token, x1_from, x1_figures, x1_fault, x1_numbers, x1_statements, x1_left, x1_far, x1_tons, x1_way, x1_steps, x1_met, x1_queue, x1_totals)) (fun r => r.1 = x1_lines ∧ (∀ l, l < 20 → ∀ c, c < 7 → r.2.1 l c = x1_line l c) ∧ (∀ p, p < 12 → r.2.2.1 p = x1_changes p) ∧ (∀ w, w < 3 → r.2.2.2.1 w = x1_coins w) ∧ r.2.2.2.2.1 = x1_goods ∧ (∀ g, g < 8 → ∀ c, c < 3 → r.2.2.2.2.2.1 g c = x1_good g c) ∧ r.2.2.2.2.2.2.1 = x1_works ∧ (∀ k, k < 7 → ∀ c, c < 5 → r.2.2.2.2.2.2.2.1 k c = x1_work k c) ∧ r.2.2.2.2.2.2.2.2.1 = x1_years ∧ r.2.2.2.2.2.2.2.2.2.1 = x1_gone ∧ r.2.2.2.2.2.2.2.2.2.2 = x1_spent) := by
  unfold fX7_takeFrom
  dsimp only [u35]
  refine Sf.bind (s_overAll hn (by decide) (by decide)) (fun g1 e1 => ?_)
  refine Sf.bind (s_over hn (by decide)) (fun g3 e3 => ?_)
  refine Sf.bind (s_over hn (by decide)) (fun g5 e5 => ?_)
  refine Sf.bind (s_overAll hn (by decide) (by decide)) (fun g7 e7 => ?_)
  refine Sf.bind (s_overAll hn (by decide) (by decide)) (fun g9 e9 => ?_)
  refine Sf.ok ⟨rfl, fun l hl c hc => ?_, fun p hp => ?_, fun w hw => ?_, rfl, fun g hg c hc => ?_, rfl, fun k hk c hc => ?_, rfl, rfl, rfl⟩
  · exact (e1 l c).trans (if_pos ⟨hl, hc⟩)
  · exact (e3 p).trans (if_pos hp)
  · exact (e5 w).trans (if_pos hw)
  · exact (e7 g c).trans (if_pos ⟨hg, hc⟩)
  · exact (e9 k c).trans (if_pos ⟨hk, hc⟩)
theorem freshR {n : Nat} {x0_shelf : (Nat → Int32)} {x0_rowSort : (Nat → Int32)} {x0_rowSize : (Nat → Int32)} {x0_rows : (Nat → Nat → Int64)} {x0_moved : (Nat → Int64)} {x0_shown : (Nat → Int32)} {x0_tape : (Nat → Int32)} {x0_tapeSize : Int32} {x0_refused : (Nat → Int32)} {x0_lines : Int32} {x0_line : (Nat → Nat → Int32)} {x0_changes : (Nat → Int32)} {x0_coins : (Nat → Int32)} {x0_goods : Int32} {x0_good : (Nat → Nat → Int32)} {x0_works : Int32} {x0_work : (Nat → Nat → Int32)} {x0_years : Int32} {x0_gone : Int32} {x0_spent : Int32} {x0_at : Int32} {x0_token : Int32} {x0_from : Int32} {x0_figures : Int64} {x0_fault : Int32} {x0_numbers : (Nat → Int32)} {x0_statements : Int32} {x0_left : (Nat → Int32)} {x0_far : (Nat → Int32)} {x0_tons : Int32} {x0_way : (Nat → Int32)} {x0_steps : Int32} {x0_met : Int64} {x0_queue : (Nat → Int32)} {x0_totals : (Nat → Int32)} {x1_shelf : (Nat → Int32)} {x1_rowSort : (Nat → Int32)} {x1_rowSize : (Nat → Int32)} {x1_rows : (Nat → Nat → Int64)} {x1_moved : (Nat → Int64)} {x1_shown : (Nat → Int32)} {x1_tape : (Nat → Int32)} {x1_tapeSize : Int32} {x1_refused : (Nat → Int32)} {x1_lines : Int32} {x1_line : (Nat → Nat → Int32)} {x1_changes : (Nat → Int32)} {x1_coins : (Nat → Int32)} {x1_goods : Int32} {x1_good : (Nat → Nat → Int32)} {x1_works : Int32} {x1_work : (Nat → Nat → Int32)} {x1_years : Int32} {x1_gone : Int32} {x1_spent : Int32} {x1_at : Int32} {x1_token : Int32} {x1_from : Int32} {x1_figures : Int64} {x1_fault : Int32} {x1_numbers : (Nat → Int32)} {x1_statements : Int32} {x1_left : (Nat → Int32)} {x1_far : (Nat → Int32)} {x1_tons : Int32} {x1_way : (Nat → Int32)} {x1_steps : Int32} {x1_met : Int64} {x1_queue : (Nat → Int32)} {x1_totals : (Nat → Int32)} (hn : 1000000000000 ≤ n) : Sf (fX7_fresh n (x0_shelf, x0_rowSort, x0_rowSize, x0_rows, x0_moved, x0_shown, x0_tape, x0_tapeSize, x0_refused, x0_lines, x0_line, x0_changes, x0_coins, x0_goods, x0_good, x0_works, x0_work, x0_years, x0_gone, x0_spent, x0_at, x0_token, x0_from, x0_figures, x0_fault, x0_numbers, x0_statements, x0_left, x0_far, x0_tons, x0_way, x0_steps, x0_met, x0_queue, x0_totals) (x1_shelf, x1_rowSort, x1_rowSize, x1_rows, x1_moved, x1_shown, x1_tape, x1_tapeSize, x1_refused, x1_lines, x1_line, x1_changes, x1_coins, x1_goods, x1_good, x1_works, x1_work, x1_years, x1_gone, x1_spent, x1_at, x1_token, x1_from, x1_figures, x1_fault, x1_numbers, x1_statements, x1_left, x1_far, x1_tons, x1_way, x1_steps, x1_met, x1_queue, x1_totals)) (fun r => r.1 = x0_lines ∧ (∀ l, l < 20 → ∀ c, c < 7 → r.2.1 l c = x0_line l c) ∧ (∀ p, p < 12 → r.2.2.1 p = x0_changes p) ∧ (∀ w, w < 3 → r.2.2.2.1 w = x0_coins w) ∧ r.2.2.2.2.1 = x0_goods ∧ (∀ g, g < 8 → ∀ c, c < 3 → r.2.2.2.2.2.1 g c = x0_good g c) ∧ r.2.2.2.2.2.2.1 = x0_works ∧ (∀ k, k < 7 → ∀ c, c < 5 → r.2.2.2.2.2.2.2.1 k c = x0_work k c) ∧ r.2.2.2.2.2.2.2.2.1 = x0_years ∧ r.2.2.2.2.2.2.2.2.2.1 = x0_gone ∧ r.2.2.2.2.2.2.2.2.2.2 = x0_spent) := by
  unfold fX7_fresh
  dsimp only [u35]
  unfold fX7_fresh_j18
  refine Sf.bind (takeFromR hn) ?_
  rintro ⟨g2, g3, g4, g5, g6, g7, g8, g9, g10, g11, g12⟩ h
  exact Sf.ok h
theorem nlt {z : Int32} {M : Int32} {N : Nat} (hM : M.toInt = (N : Int)) (h : 0 ≤ z ∧ z ≤ M) : z.toNatClampNeg ≤ N := by
  have a := i32_cl h.1
  have b := (i32_b h).2
  omega
theorem savesR {n : Nat} {x0_shelf : (Nat → Int32)} {x0_rowSort : (Nat → Int32)} {x0_rowSize : (Nat → Int32)} {x0_rows : (Nat → Nat → Int64)} {x0_moved : (Nat → Int64)} {x0_shown : (Nat → Int32)} {x0_tape : (Nat → Int32)} {x0_tapeSize : Int32} {x0_refused : (Nat → Int32)} {x0_lines : Int32} {x0_line : (Nat → Nat → Int32)} {x0_changes : (Nat → Int32)} {x0_coins : (Nat → Int32)} {x0_goods : Int32} {x0_good : (Nat → Nat → Int32)} {x0_works : Int32} {x0_work : (Nat → Nat → Int32)} {x0_years : Int32} {x0_gone : Int32} {x0_spent : Int32} {x0_at : Int32} {x0_token : Int32} {x0_from : Int32} {x0_figures : Int64} {x0_fault : Int32} {x0_numbers : (Nat → Int32)} {x0_statements : Int32} {x0_left : (Nat → Int32)} {x0_far : (Nat → Int32)} {x0_tons : Int32} {x0_way : (Nat → Int32)} {x0_steps : Int32} {x0_met : Int64} {x0_queue : (Nat → Int32)} {x0_totals : (Nat → Int32)} {x1_shelf : (Nat → Int32)} {x1_rowSort : (Nat → Int32)} {x1_rowSize : (Nat → Int32)} {x1_rows : (Nat → Nat → Int64)} {x1_moved : (Nat → Int64)} {x1_shown : (Nat → Int32)} {x1_tape : (Nat → Int32)} {x1_tapeSize : Int32} {x1_refused : (Nat → Int32)} {x1_lines : Int32} {x1_line : (Nat → Nat → Int32)} {x1_changes : (Nat → Int32)} {x1_coins : (Nat → Int32)} {x1_goods : Int32} {x1_good : (Nat → Nat → Int32)} {x1_works : Int32} {x1_work : (Nat → Nat → Int32)} {x1_years : Int32} {x1_gone : Int32} {x1_spent : Int32} {x1_at : Int32} {x1_token : Int32} {x1_from : Int32} {x1_figures : Int64} {x1_fault : Int32} {x1_numbers : (Nat → Int32)} {x1_statements : Int32} {x1_left : (Nat → Int32)} {x1_far : (Nat → Int32)} {x1_tons : Int32} {x1_way : (Nat → Int32)} {x1_steps : Int32} {x1_met : Int64} {x1_queue : (Nat → Int32)} {x1_totals : (Nat → Int32)} {p1 : Int32} (hn : 1000000000000 ≤ n) (h_x0_shelf : (AI 0 2 x0_shelf)) (h_x0_rowSize : (AI 0 40 x0_rowSize)) (h_x0_tapeSize : (0 ≤ x0_tapeSize ∧ x0_tapeSize ≤ 250)) (h_x0_lines : (0 ≤ x0_lines ∧ x0_lines ≤ 20)) (h_x0_line : (LnM x0_line)) (h_x0_changes : (AI 0 99 x0_changes)) (h_x0_coins : (AI 0 9 x0_coins)) (h_x0_goods : (0 ≤ x0_goods ∧ x0_goods ≤ 8)) (h_x0_good : (GdM x0_good)) (h_x0_works : (0 ≤ x0_works ∧ x0_works ≤ 7)) (h_x0_work : (WkM x0_work)) (h_x0_years : (1 ≤ x0_years ∧ x0_years ≤ 30)) (h_x0_from : (0 ≤ x0_from ∧ x0_from ≤ 250)) (h_x0_far : (AI 0 1000000000 x0_far)) (h_x0_way : (AI 0 22 x0_way)) (h_x0_steps : (0 ≤ x0_steps ∧ x0_steps ≤ 37)) (h_x0_queue : (AI 0 35 x0_queue)) (h_x1_shelf : (AI 0 2 x1_shelf)) (h_x1_rowSize : (AI 0 40 x1_rowSize)) (h_x1_tapeSize : (0 ≤ x1_tapeSize ∧ x1_tapeSize ≤ 250)) (h_x1_lines : (0 ≤ x1_lines ∧ x1_lines ≤ 20)) (h_x1_line : (LnM x1_line)) (h_x1_changes : (AI 0 99 x1_changes)) (h_x1_coins : (AI 0 9 x1_coins)) (h_x1_goods : (0 ≤ x1_goods ∧ x1_goods ≤ 8)) (h_x1_good : (GdM x1_good)) (h_x1_works : (0 ≤ x1_works ∧ x1_works ≤ 7)) (h_x1_work : (WkM x1_work)) (h_x1_years : (1 ≤ x1_years ∧ x1_years ≤ 30)) (h_x1_from : (0 ≤ x1_from ∧ x1_from ≤ 250)) (h_x1_far : (AI 0 1000000000 x1_far)) (h_x1_way : (AI 0 22 x1_way)) (h_x1_steps : (0 ≤ x1_steps ∧ x1_steps ≤ 37)) (h_x1_queue : (AI 0 35 x1_queue)) (h_p1 : 0 ≤ p1 ∧ p1 ≤ 6) (hf : Wf1 x0_work x0_lines p1.toNatClampNeg) : Sf (fX7_saves n (x0_shelf, x0_rowSort, x0_rowSize, x0_rows, x0_moved, x0_shown, x0_tape, x0_tapeSize, x0_refused, x0_lines, x0_line, x0_changes, x0_coins, x0_goods, x0_good, x0_works, x0_work, x0_years, x0_gone, x0_spent, x0_at, x0_token, x0_from, x0_figures, x0_fault, x0_numbers, x0_statements, x0_left, x0_far, x0_tons, x0_way, x0_steps, x0_met, x0_queue, x0_totals) (x1_shelf, x1_rowSort, x1_rowSize, x1_rows, x1_moved, x1_shown, x1_tape, x1_tapeSize, x1_refused, x1_lines, x1_line, x1_changes, x1_coins, x1_goods, x1_good, x1_works, x1_work, x1_years, x1_gone, x1_spent, x1_at, x1_token, x1_from, x1_figures, x1_fault, x1_numbers, x1_statements, x1_left, x1_far, x1_tons, x1_way, x1_steps, x1_met, x1_queue, x1_totals) p1) (fun r => r.1 = FrA (x0_lines, x0_line, x0_changes) x0_coins x0_good x0_goods - FrA (doA x0_work p1.toNatClampNeg (x0_lines, x0_line, x0_changes)) x0_coins x0_good x0_goods) := by
  unfold fX7_saves
  dsimp only [u35]
  refine Sf.bind (Sf.and (sX7_fresh hn h_x0_shelf h_x0_rowSize h_x0_tapeSize h_x0_lines h_x0_line h_x0_changes h_x0_coins h_x0_goods h_x0_good h_x0_works h_x0_work h_x0_years h_x0_from h_x0_far h_x0_way h_x0_steps h_x0_queue h_x1_shelf h_x1_rowSize h_x1_tapeSize h_x1_lines h_x1_line h_x1_changes h_x1_coins h_x1_goods h_x1_good h_x1_works h_x1_work h_x1_years h_x1_from h_x1_far h_x1_way h_x1_steps h_x1_queue) (freshR hn)) ?_
  rintro ⟨g2, g3, g4, g5, g6, g7, g8, g9, g10, g11, g12⟩ ⟨⟨b1, b2, b3, b4, b5, b6, b7, b8, b9⟩, s1, s2, s3, s4, s5, s6, s7, s8, s9, _, _⟩
  have s1 : g2 = x0_lines := s1
  have s2 : ∀ l, l < 20 → ∀ c, c < 7 → g3 l c = x0_line l c := s2
  have s3 : ∀ p, p < 12 → g4 p = x0_changes p := s3
  have s4 : ∀ w, w < 3 → g5 w = x0_coins w := s4
  have s5 : g6 = x0_goods := s5
  have s6 : ∀ g, g < 8 → ∀ c, c < 3 → g7 g c = x0_good g c := s6
  have s8 : ∀ k, k < 7 → ∀ c, c < 5 → g9 k c = x0_work k c := s8
  have hL := nlt (M := 20) (N := 20) rfl h_x0_lines
  have hG := nlt (M := 8) (N := 8) rfl h_x0_goods
  have hp7 : p1.toNatClampNeg < 7 := i32_lt (M := 7) rfl ⟨h_p1.1, Int32.lt_of_le_of_lt h_p1.2 (by decide)⟩
  subst s1 s5
  dsimp only [u11]
  refine Sf.bind (Sf.and (sX7_free hn h_x1_shelf h_x1_rowSize h_x1_tapeSize b1 b2 b3 b4 b5 b6 b7 b8 b9 h_x1_from h_x1_far h_x1_way h_x1_steps h_x1_queue) (freeR hn h_x1_shelf h_x1_rowSize h_x1_tapeSize b1 b2 b3 b4 b5 b6 b7 b8 b9 h_x1_from h_x1_far h_x1_way h_x1_steps h_x1_queue)) ?_
  rintro ⟨v14, g15, g16, g17⟩ ⟨c1, e14⟩
  have c1 : AI 0 1000000000 g16 := c1
  have e14 : v14 = FrA (g2, g3, g4) g5 g7 g6 := e14
  try dsimp only [u4]
  refine Sf.bind (Sf.and (sX7_does h_x1_shelf h_x1_rowSize h_x1_tapeSize b1 b2 b3 b4 b5 b6 b7 b8 b9 h_x1_from c1 h_x1_way h_x1_steps h_x1_queue h_p1) (doesR b1 b8 h_p1)) ?_
  rintro ⟨g19, g20, g21, g22⟩ ⟨⟨d1, d2, d3, d4, _⟩, e19, _⟩
  have d1 : 0 ≤ g19 ∧ g19 ≤ 20 := d1
  have d2 : LnM g20 := d2
  have d3 : AI 0 99 g21 := d3
  have d4 : WkM g22 := d4
  have e19 : AbEq (g19, g20, g21) (doA g9 p1.toNatClampNeg (g2, g3, g4)) := e19
  try dsimp only [u4]
  refine Sf.bind (freeR hn h_x1_shelf h_x1_rowSize h_x1_tapeSize d1 d2 d3 b4 b5 b6 b7 d4 b9 h_x1_from c1 h_x1_way h_x1_steps h_x1_queue) ?_
  rintro ⟨v24, g25, g26, g27⟩ e24
  have e24 : v24 = FrA (g19, g20, g21) g5 g7 g6 := e24
  refine Sf.ok ?_
  show v14 - v24 = _
  have hA : AbEq (g2, g3, g4) (g2, x0_line, x0_changes) := ⟨rfl, fun l hl c hc => s2 l (Nat.lt_of_lt_of_le hl hL) c hc, s3⟩
  have hg : ∀ g, g < g6.toNatClampNeg → ∀ c, c < 3 → g7 g c = x0_good g c := fun g hg c hc => s6 g (Nat.lt_of_lt_of_le hg hG) c hc
  have hf' : Wf1 g9 g2 p1.toNatClampNeg := hf.congr (fun c hc => (s8 _ hp7 c (by omega)).symm)
  rw [e14, e24, FrA_congr hA s4 hg, FrA_congr (AbEq.trans e19 (doA_congr hA (fun c hc => s8 _ hp7 c (by omega)) hf' b1)) s4 hg]
theorem worthOfR {n : Nat} {x0_shelf : (Nat → Int32)} {x0_rowSort : (Nat → Int32)} {x0_rowSize : (Nat → Int32)} {x0_rows : (Nat → Nat → Int64)} {x0_moved : (Nat → Int64)} {x0_shown : (Nat → Int32)} {x0_tape : (Nat → Int32)} {x0_tapeSize : Int32} {x0_refused : (Nat → Int32)} {x0_lines : Int32} {x0_line : (Nat → Nat → Int32)} {x0_changes : (Nat → Int32)} {x0_coins : (Nat → Int32)} {x0_goods : Int32} {x0_good : (Nat → Nat → Int32)} {x0_works : Int32} {x0_work : (Nat → Nat → Int32)} {x0_years : Int32} {x0_gone : Int32} {x0_spent : Int32} {x0_at : Int32} {x0_token : Int32} {x0_from : Int32} {x0_figures : Int64} {x0_fault : Int32} {x0_numbers : (Nat → Int32)} {x0_statements : Int32} {x0_left : (Nat → Int32)} {x0_far : (Nat → Int32)} {x0_tons : Int32} {x0_way : (Nat → Int32)} {x0_steps : Int32} {x0_met : Int64} {x0_queue : (Nat → Int32)} {x0_totals : (Nat → Int32)} {x1_shelf : (Nat → Int32)} {x1_rowSort : (Nat → Int32)} {x1_rowSize : (Nat → Int32)} {x1_rows : (Nat → Nat → Int64)} {x1_moved : (Nat → Int64)} {x1_shown : (Nat → Int32)} {x1_tape : (Nat → Int32)} {x1_tapeSize : Int32} {x1_refused : (Nat → Int32)} {x1_lines : Int32} {x1_line : (Nat → Nat → Int32)} {x1_changes : (Nat → Int32)} {x1_coins : (Nat → Int32)} {x1_goods : Int32} {x1_good : (Nat → Nat → Int32)} {x1_works : Int32} {x1_work : (Nat → Nat → Int32)} {x1_years : Int32} {x1_gone : Int32} {x1_spent : Int32} {x1_at : Int32} {x1_token : Int32} {x1_from : Int32} {x1_figures : Int64} {x1_fault : Int32} {x1_numbers : (Nat → Int32)} {x1_statements : Int32} {x1_left : (Nat → Int32)} {x1_far : (Nat → Int32)} {x1_tons : Int32} {x1_way : (Nat → Int32)} {x1_steps : Int32} {x1_met : Int64} {x1_queue : (Nat → Int32)} {x1_totals : (Nat → Int32)} {p1 : Int32} (hn : 1000000000000 ≤ n) (h_x0_shelf : (AI 0 2 x0_shelf)) (h_x0_rowSize : (AI 0 40 x0_rowSize)) (h_x0_tapeSize : (0 ≤ x0_tapeSize ∧ x0_tapeSize ≤ 250)) (h_x0_lines : (0 ≤ x0_lines ∧ x0_lines ≤ 20)) (h_x0_line : (LnM x0_line)) (h_x0_changes : (AI 0 99 x0_changes)) (h_x0_coins : (AI 0 9 x0_coins)) (h_x0_goods : (0 ≤ x0_goods ∧ x0_goods ≤ 8)) (h_x0_good : (GdM x0_good)) (h_x0_works : (0 ≤ x0_works ∧ x0_works ≤ 7)) (h_x0_work : (WkM x0_work)) (h_x0_years : (1 ≤ x0_years ∧ x0_years ≤ 30)) (h_x0_from : (0 ≤ x0_from ∧ x0_from ≤ 250)) (h_x0_far : (AI 0 1000000000 x0_far)) (h_x0_way : (AI 0 22 x0_way)) (h_x0_steps : (0 ≤ x0_steps ∧ x0_steps ≤ 37)) (h_x0_queue : (AI 0 35 x0_queue)) (h_x1_shelf : (AI 0 2 x1_shelf)) (h_x1_rowSize : (AI 0 40 x1_rowSize)) (h_x1_tapeSize : (0 ≤ x1_tapeSize ∧ x1_tapeSize ≤ 250)) (h_x1_lines : (0 ≤ x1_lines ∧ x1_lines ≤ 20)) (h_x1_line : (LnM x1_line)) (h_x1_changes : (AI 0 99 x1_changes)) (h_x1_coins : (AI 0 9 x1_coins)) (h_x1_goods : (0 ≤ x1_goods ∧ x1_goods ≤ 8)) (h_x1_good : (GdM x1_good)) (h_x1_works : (0 ≤ x1_works ∧ x1_works ≤ 7)) (h_x1_work : (WkM x1_work)) (h_x1_years : (1 ≤ x1_years ∧ x1_years ≤ 30)) (h_x1_from : (0 ≤ x1_from ∧ x1_from ≤ 250)) (h_x1_far : (AI 0 1000000000 x1_far)) (h_x1_way : (AI 0 22 x1_way)) (h_x1_steps : (0 ≤ x1_steps ∧ x1_steps ≤ 37)) (h_x1_queue : (AI 0 35 x1_queue)) (h_p1 : 0 ≤ p1 ∧ p1 ≤ 6) (hf : Wf1 x0_work x0_lines p1.toNatClampNeg) : Sf (fX7_worthOf n (x0_shelf, x0_rowSort, x0_rowSize, x0_rows, x0_moved, x0_shown, x0_tape, x0_tapeSize, x0_refused, x0_lines, x0_line, x0_changes, x0_coins, x0_goods, x0_good, x0_works, x0_work, x0_years, x0_gone, x0_spent, x0_at, x0_token, x0_from, x0_figures, x0_fault, x0_numbers, x0_statements, x0_left, x0_far, x0_tons, x0_way, x0_steps, x0_met, x0_queue, x0_totals) (x1_shelf, x1_rowSort, x1_rowSize, x1_rows, x1_moved, x1_shown, x1_tape, x1_tapeSize, x1_refused, x1_lines, x1_line, x1_changes, x1_coins, x1_goods, x1_good, x1_works, x1_work, x1_years, x1_gone, x1_spent, x1_at, x1_token, x1_from, x1_figures, x1_fault, x1_numbers, x1_statements, x1_left, x1_far, x1_tons, x1_way, x1_steps, x1_met, x1_queue, x1_totals) p1) (fun r => r.1 = WoA (x0_lines, x0_line, x0_changes) x0_coins x0_good x0_goods x0_work x0_years p1.toNatClampNeg) := by
  unfold fX7_worthOf
  dsimp only [u35]
  refine Sf.bind (savesR hn h_x0_shelf h_x0_rowSize h_x0_tapeSize h_x0_lines h_x0_line h_x0_changes h_x0_coins h_x0_goods h_x0_good h_x0_works h_x0_work h_x0_years h_x0_from h_x0_far h_x0_way h_x0_steps h_x0_queue h_x1_shelf h_x1_rowSize h_x1_tapeSize h_x1_lines h_x1_line h_x1_changes h_x1_coins h_x1_goods h_x1_good h_x1_works h_x1_work h_x1_years h_x1_from h_x1_far h_x1_way h_x1_steps h_x1_queue h_p1 hf) ?_
  rintro ⟨v1, g3, g4, g5, g6, g7, g8, g9, g10, g11, g12, g13, g14, g15, g16⟩ e1
  have e1 : v1 = _ := e1
  try dsimp only [u2, u14]
  refine Sf.ckb 7 rfl ⟨h_p1.1, Int32.lt_of_le_of_lt h_p1.2 (by decide)⟩ (fun q18 e18 _ => ?_)
  refine Sf.rdl 3 rfl rfl (fun v19 e19 => ?_)
  refine Sf.ok ?_
  show x0_years * v1 - v19 = _
  rw [e1, e19, e18]
  rfl
theorem firstR {n : Nat} {x0_shelf : (Nat → Int32)} {x0_rowSort : (Nat → Int32)} {x0_rowSize : (Nat → Int32)} {x0_rows : (Nat → Nat → Int64)} {x0_moved : (Nat → Int64)} {x0_shown : (Nat → Int32)} {x0_tape : (Nat → Int32)} {x0_tapeSize : Int32} {x0_refused : (Nat → Int32)} {x0_lines : Int32} {x0_line : (Nat → Nat → Int32)} {x0_changes : (Nat → Int32)} {x0_coins : (Nat → Int32)} {x0_goods : Int32} {x0_good : (Nat → Nat → Int32)} {x0_works : Int32} {x0_work : (Nat → Nat → Int32)} {x0_years : Int32} {x0_gone : Int32} {x0_spent : Int32} {x0_at : Int32} {x0_token : Int32} {x0_from : Int32} {x0_figures : Int64} {x0_fault : Int32} {x0_numbers : (Nat → Int32)} {x0_statements : Int32} {x0_left : (Nat → Int32)} {x0_far : (Nat → Int32)} {x0_tons : Int32} {x0_way : (Nat → Int32)} {x0_steps : Int32} {x0_met : Int64} {x0_queue : (Nat → Int32)} {x0_totals : (Nat → Int32)} {x1_shelf : (Nat → Int32)} {x1_rowSort : (Nat → Int32)} {x1_rowSize : (Nat → Int32)} {x1_rows : (Nat → Nat → Int64)} {x1_moved : (Nat → Int64)} {x1_shown : (Nat → Int32)} {x1_tape : (Nat → Int32)} {x1_tapeSize : Int32} {x1_refused : (Nat → Int32)} {x1_lines : Int32} {x1_line : (Nat → Nat → Int32)} {x1_changes : (Nat → Int32)} {x1_coins : (Nat → Int32)} {x1_goods : Int32} {x1_good : (Nat → Nat → Int32)} {x1_works : Int32} {x1_work : (Nat → Nat → Int32)} {x1_years : Int32} {x1_gone : Int32} {x1_spent : Int32} {x1_at : Int32} {x1_token : Int32} {x1_from : Int32} {x1_figures : Int64} {x1_fault : Int32} {x1_numbers : (Nat → Int32)} {x1_statements : Int32} {x1_left : (Nat → Int32)} {x1_far : (Nat → Int32)} {x1_tons : Int32} {x1_way : (Nat → Int32)} {x1_steps : Int32} {x1_met : Int64} {x1_queue : (Nat → Int32)} {x1_totals : (Nat → Int32)} (hn : 1000000000000 ≤ n) (h_x0_shelf : (AI 0 2 x0_shelf)) (h_x0_rowSize : (AI 0 40 x0_rowSize)) (h_x0_tapeSize : (0 ≤ x0_tapeSize ∧ x0_tapeSize ≤ 250)) (h_x0_lines : (0 ≤ x0_lines ∧ x0_lines ≤ 20)) (h_x0_line : (LnM x0_line)) (h_x0_changes : (AI 0 99 x0_changes)) (h_x0_coins : (AI 0 9 x0_coins)) (h_x0_goods : (0 ≤ x0_goods ∧ x0_goods ≤ 8)) (h_x0_good : (GdM x0_good)) (h_x0_works : (0 ≤ x0_works ∧ x0_works ≤ 7)) (h_x0_work : (WkM x0_work)) (h_x0_years : (1 ≤ x0_years ∧ x0_years ≤ 30)) (h_x0_from : (0 ≤ x0_from ∧ x0_from ≤ 250)) (h_x0_far : (AI 0 1000000000 x0_far)) (h_x0_way : (AI 0 22 x0_way)) (h_x0_steps : (0 ≤ x0_steps ∧ x0_steps ≤ 37)) (h_x0_queue : (AI 0 35 x0_queue)) (h_x1_shelf : (AI 0 2 x1_shelf)) (h_x1_rowSize : (AI 0 40 x1_rowSize)) (h_x1_tapeSize : (0 ≤ x1_tapeSize ∧ x1_tapeSize ≤ 250)) (h_x1_lines : (0 ≤ x1_lines ∧ x1_lines ≤ 20)) (h_x1_line : (LnM x1_line)) (h_x1_changes : (AI 0 99 x1_changes)) (h_x1_coins : (AI 0 9 x1_coins)) (h_x1_goods : (0 ≤ x1_goods ∧ x1_goods ≤ 8)) (h_x1_good : (GdM x1_good)) (h_x1_works : (0 ≤ x1_works ∧ x1_works ≤ 7)) (h_x1_work : (WkM x1_work)) (h_x1_years : (1 ≤ x1_years ∧ x1_years ≤ 30)) (h_x1_from : (0 ≤ x1_from ∧ x1_from ≤ 250)) (h_x1_far : (AI 0 1000000000 x1_far)) (h_x1_way : (AI 0 22 x1_way)) (h_x1_steps : (0 ≤ x1_steps ∧ x1_steps ≤ 37)) (h_x1_queue : (AI 0 35 x1_queue)) (hf : ∀ k, k < x0_works.toNatClampNeg → Wf1 x0_work x0_lines k) : Sf (fX7_first n (x0_shelf, x0_rowSort, x0_rowSize, x0_rows, x0_moved, x0_shown, x0_tape, x0_tapeSize, x0_refused, x0_lines, x0_line, x0_changes, x0_coins, x0_goods, x0_good, x0_works, x0_work, x0_years, x0_gone, x0_spent, x0_at, x0_token, x0_from, x0_figures, x0_fault, x0_numbers, x0_statements, x0_left, x0_far, x0_tons, x0_way, x0_steps, x0_met, x0_queue, x0_totals) (x1_shelf, x1_rowSort, x1_rowSize, x1_rows, x1_moved, x1_shown, x1_tape, x1_tapeSize, x1_refused, x1_lines, x1_line, x1_changes, x1_coins, x1_goods, x1_good, x1_works, x1_work, x1_years, x1_gone, x1_spent, x1_at, x1_token, x1_from, x1_figures, x1_fault, x1_numbers, x1_statements, x1_left, x1_far, x1_tons, x1_way, x1_steps, x1_met, x1_queue, x1_totals)) (fun r => r.1 = FirA (x0_lines, x0_line, x0_changes) x0_coins x0_good x0_goods x0_work x0_works x0_years) := by
  unfold fX7_first
  dsimp only [u35]
  refine Sf.bind (P := fun r => r.1 = FirA (x0_lines, x0_line, x0_changes) x0_coins x0_good x0_goods x0_work x0_works x0_years) ?_ ?_
  · refine Sf.loop17 (fun z2 z3 z4 z5 z6 z7 z8 z9 z10 z11 z12 z13 z14 z15 z16 z17 z18 => (0 ≤ z4 ∧ z4 ≤ x0_works) ∧ (z2, z3) = frW (WoA (x0_lines, x0_line, x0_changes) x0_coins x0_good x0_goods x0_work x0_years) x0_work z4.toNatClampNeg ∧ (0 ≤ z5 ∧ z5 ≤ 20) ∧ LnM z6 ∧ AI 0 99 z7 ∧ AI 0 9 z8 ∧ (0 ≤ z9 ∧ z9 ≤ 8) ∧ GdM z10 ∧ (0 ≤ z11 ∧ z11 ≤ 7) ∧ WkM z12 ∧ (1 ≤ z13 ∧ z13 ≤ 30) ∧ AI 0 1000000000 z17) (fun z2 z3 z4 z5 z6 z7 z8 z9 z10 z11 z12 z13 z14 z15 z16 z17 z18 => muUp z4) (fun z2 z3 z4 z5 z6 z7 z8 z9 z10 z11 z12 z13 z14 z15 z16 z17 z18 h => ?_) ?_ (muUp_n hn)
    · obtain ⟨i0, i1, m1, m2, m3, m4, m5, m6, m7, m8, m9, m10⟩ := h
      unfold fX7_first_s6
      refine Sf.ite (fun hc => ?_) (fun hc => ?_)
      · have e : z4 = x0_works := Int32.le_antisymm i0.2 hc
        rw [e] at i1
        refine Sf.inr ?_
        show z2 = _
        unfold FirA
        rw [← i1]
      obtain ⟨p0, p1, p3⟩ := up1 i0.1 (Int32.le_trans h_x0_works.2 (by decide)) hc
      have hz1 : z4 + 1 ≤ x0_works := by clear i1 hf; grind
      have hz6 : 0 ≤ z4 ∧ z4 ≤ 6 := ⟨i0.1, by clear i1 hf; grind⟩
      have ez : Int32.ofNat z4.toNatClampNeg = z4 := Int32.ofNat_toNatClampNeg z4 i0.1
      have hzn : z4.toNatClampNeg < x0_works.toNatClampNeg := by
        have a := i32_cl i0.1
        have b := i32_cl h_x0_works.1
        have c := Int32.lt_iff_toInt_lt.mp p3
        omega
      have hpos : 0 ≤ z3 := by
        have q := frW_pos (WoA (x0_lines, x0_line, x0_changes) x0_coins x0_good x0_goods x0_work x0_years) x0_work z4.toNatClampNeg
        rw [← i1] at q
        exact q
      have nx : frW (WoA (x0_lines, x0_line, x0_changes) x0_coins x0_good x0_goods x0_work x0_years) x0_work (z4 + 1).toNatClampNeg = if x0_work z4.toNatClampNeg 4 = 0 ∧ ¬ WoA (x0_lines, x0_line, x0_changes) x0_coins x0_good x0_goods x0_work x0_years z4.toNatClampNeg ≤ z3 then (z4, WoA (x0_lines, x0_line, x0_changes) x0_coins x0_good x0_goods x0_work x0_years z4.toNatClampNeg) else (z2, z3) := by
        rw [p1]
        show (if x0_work z4.toNatClampNeg 4 = 0 ∧ ¬ WoA (x0_lines, x0_line, x0_changes) x0_coins x0_good x0_goods x0_work x0_years z4.toNatClampNeg ≤ (frW (WoA (x0_lines, x0_line, x0_changes) x0_coins x0_good x0_goods x0_work x0_years) x0_work z4.toNatClampNeg).2 then (Int32.ofNat z4.toNatClampNeg, _) else frW (WoA (x0_lines, x0_line, x0_changes) x0_coins x0_good x0_goods x0_work x0_years) x0_work z4.toNatClampNeg) = _
        rw [← i1, ez]
      refine Sf.ckb 7 rfl ⟨hz6.1, Int32.lt_of_le_of_lt hz6.2 (by decide)⟩ (fun q35 e35 _ => ?_)
      refine Sf.rdl 4 rfl rfl (fun v36 e36 => ?_)
      rw [e35] at e36
      refine Sf.ite (fun hv => ?_) (fun hv => ?_)
      · rw [e36] at hv
        refine Sf.bind (Sf.and (sX7_worthOf hn h_x0_shelf h_x0_rowSize h_x0_tapeSize h_x0_lines h_x0_line h_x0_changes h_x0_coins h_x0_goods h_x0_good h_x0_works h_x0_work h_x0_years h_x0_from h_x0_far h_x0_way h_x0_steps h_x0_queue h_x1_shelf h_x1_rowSize h_x1_tapeSize m1 m2 m3 m4 m5 m6 m7 m8 m9 h_x1_from m10 h_x1_way h_x1_steps h_x1_queue hz6) (worthOfR hn h_x0_shelf h_x0_rowSize h_x0_tapeSize h_x0_lines h_x0_line h_x0_changes h_x0_coins h_x0_goods h_x0_good h_x0_works h_x0_work h_x0_years h_x0_from h_x0_far h_x0_way h_x0_steps h_x0_queue h_x1_shelf h_x1_rowSize h_x1_tapeSize m1 m2 m3 m4 m5 m6 m7 m8 m9 h_x1_from m10 h_x1_way h_x1_steps h_x1_queue hz6 (hf _ hzn))) ?_
        rintro ⟨v52, g54, g55, g56, g57, g58, g59, g60, g61, g62, g63, g64, g65, g66, g67⟩ ⟨⟨b1, b2, b3, b4, b5, b6, b7, b8, b9, b10⟩, e52⟩
        have e52 : v52 = _ := e52
        rw [← e52] at nx
        try dsimp only [u2, u14]
        unfold fX7_first_j34
        refine Sf.ite (fun hle => ?_) (fun hle => ?_)
        · rw [if_neg (fun hh => hh.2 hle)] at nx
          exact Sf.inl ⟨⟨p0, hz1⟩, nx.symm, b1, b2, b3, b4, b5, b6, b7, b8, b9, b10⟩ (muUp_lt hc)
        · rw [if_pos ⟨hv, hle⟩] at nx
          exact Sf.inl ⟨⟨p0, hz1⟩, nx.symm, b1, b2, b3, b4, b5, b6, b7, b8, b9, b10⟩ (muUp_lt hc)
      · rw [e36] at hv
        rw [if_neg (fun hh => hv hh.1)] at nx
        unfold fX7_first_j34
        rw [if_pos hpos]
        exact Sf.inl ⟨⟨p0, hz1⟩, nx.symm, m1, m2, m3, m4, m5, m6, m7, m8, m9, m10⟩ (muUp_lt hc)
    · exact ⟨⟨(show (0 : Int32) ≤ 0 by decide), h_x0_works.1⟩, rfl, h_x1_lines, h_x1_line, h_x1_changes, h_x1_coins, h_x1_goods, h_x1_good, h_x1_works, h_x1_work, h_x1_years, h_x1_far⟩
  · rintro ⟨w20, w21, w22, w23, w24, w25, w26, w27, w28, w29, w30, w31, w32, w33, w34⟩ h
    exact Sf.ok h
end
section
/-! totals: values, and the land stays -/
def StB (a b d : Nat → Int32) (e : Int32) (t0 t1 t2 t3 : Int32) (t4 t5 t6 t7 t8 : Nat → Int32) : Prop := (AI 0 35 a ∧ AI 0 35 b ∧ AI 0 19 d ∧ (0 ≤ e ∧ e ≤ 60)) ∧ ((0 ≤ t0 ∧ t0 ≤ 20) ∧ (0 ≤ t1 ∧ t1 ≤ 8) ∧ (0 ≤ t2 ∧ t2 ≤ 7) ∧ (1 ≤ t3 ∧ t3 ≤ 30) ∧ LnOk t4 ∧ GdOk t5 ∧ WkOk t6 ∧ AI 0 99 t7 ∧ AI 0 9 t8)
/-- the works of a set that are not done, done in their order -/
def doU (work : Nat → Nat → Int32) (s : Int32) : Nat → Ab → Ab
  | 0, A => A
  | k + 1, A => if tq s k = true ∧ work k 4 = 0 then doA work k (doU work s k A) else doU work s k A
theorem doS_doU {work : Nat → Nat → Int32} {s s' : Int32} {A : Ab} : ∀ K : Nat, (∀ k, k < K → tq s' k = (tq s k && decide (work k 4 = 0))) → doS work s' K A = doU work s K A
  | 0, _ => rfl
  | K + 1, h => by
    have ih := doS_doU (A := A) K (fun k hk => h k (by omega))
    have e := h K (by omega)
    show (if tq s' K = true then doA work K (doS work s' K A) else doS work s' K A) = (if tq s K = true ∧ work K 4 = 0 then doA work K (doU work s K A) else doU work s K A)
    rw [ih]
    by_cases hc : tq s K = true ∧ work K 4 = 0
    · rw [if_pos hc, if_pos (by rw [e, hc.1, decide_eq_true hc.2]; rfl)]
    · rw [if_neg hc, if_neg]
      intro hh
      rw [e, Bool.and_eq_true, decide_eq_true_eq] at hh
      exact hc hh
/-- the coin of the works of a set that are not done -/
def cnU (work : Nat → Nat → Int32) (s : Int32) (k : Nat) : Int32 := if tq s k = true ∧ work k 4 = 0 then work k 3 else 0
noncomputable def TotA (A : Ab) (coins : Nat → Int32) (good : Nat → Nat → Int32) (G : Int32) (work : Nat → Nat → Int32) (W yr s : Int32) : Int32 := yr * FrA (doU work s W.toNatClampNeg A) coins good G + sm (cnU work s) W.toNatClampNeg
theorem totalOfC {n : Nat} {x0_gained : Nat → Int32} {x1_left : (Nat → Int32)} {x1_earned : (Nat → Int32)} {x1_turnCost : Int32} {x1_turnWayless : Int32} {x2_edgeA : (Nat → Int32)} {x2_edgeB : (Nat → Int32)} {x2_edgeCost : (Nat → Int32)} {x2_edgeLine : (Nat → Int32)} {x2_change : (Nat → Int32)} {x2_away : (Nat → Int32)} {x2_steps : (Nat → Int32)} {x2_nodes : (Nat → Int32)} {x2_stepCount : Int32} {x2_open : (Nat → Int32)} {x2_openCount : Int32} {x2_seen : Int64} {x2_edgeCount : Int32} {x2_aim : Int32} {x3_lineCount : Int32} {x3_goodsCount : Int32} {x3_workCount : Int32} {x3_years : Int32} {x3_lines : (Nat → Int32)} {x3_goods : (Nat → Int32)} {x3_works : (Nat → Int32)} {x3_change : (Nat → Int32)} {x3_coin : (Nat → Int32)} {x3_knownFree : (Nat → Int32)} {x3_isKnown : Int32} {x4_lineCount : Int32} {x4_goodsCount : Int32} {x4_workCount : Int32} {x4_years : Int32} {x4_lines : (Nat → Int32)} {x4_goods : (Nat → Int32)} {x4_works : (Nat → Int32)} {x4_change : (Nat → Int32)} {x4_coin : (Nat → Int32)} {x4_knownFree : (Nat → Int32)} {x4_isKnown : Int32} {p2 : Int32} (hn : 1000000000000 ≤ n) (h_x2_edgeA : (AI 0 35 x2_edgeA)) (h_x2_edgeB : (AI 0 35 x2_edgeB)) (h_x2_edgeLine : (AI 0 19 x2_edgeLine)) (h_x2_steps : (AI 0 22 x2_steps)) (h_x2_nodes : (AI 0 35 x2_nodes)) (h_x2_stepCount : (0 ≤ x2_stepCount ∧ x2_stepCount ≤ 36)) (h_x2_open : (AI 0 35 x2_open)) (h_x2_openCount : (0 ≤ x2_openCount ∧ x2_openCount ≤ 36)) (h_x2_edgeCount : (0 ≤ x2_edgeCount ∧ x2_edgeCount ≤ 60)) (h_x3_lineCount : (0 ≤ x3_lineCount ∧ x3_lineCount ≤ 20)) (h_x3_goodsCount : (0 ≤ x3_goodsCount ∧ x3_goodsCount ≤ 8)) (h_x3_workCount : (0 ≤ x3_workCount ∧ x3_workCount ≤ 7)) (h_x3_years : (1 ≤ x3_years ∧ x3_years ≤ 30)) (h_x3_lines : (LnOk x3_lines)) (h_x3_goods : (GdOk x3_goods)) (h_x3_works : (WkOk x3_works)) (h_x3_change : (AI 0 99 x3_change)) (h_x3_coin : (AI 0 9 x3_coin)) (h_x4_lineCount : (0 ≤ x4_lineCount ∧ x4_lineCount ≤ 20)) (h_x4_goodsCount : (0 ≤ x4_goodsCount ∧ x4_goodsCount ≤ 8)) (h_x4_workCount : (0 ≤ x4_workCount ∧ x4_workCount ≤ 7)) (h_x4_years : (1 ≤ x4_years ∧ x4_years ≤ 30)) (h_x4_lines : (LnOk x4_lines)) (h_x4_goods : (GdOk x4_goods)) (h_x4_works : (WkOk x4_works)) (h_x4_change : (AI 0 99 x4_change)) (h_x4_coin : (AI 0 9 x4_coin)) (hf : ∀ k, k < x4_workCount.toNatClampNeg → Wf1 (ro 5 x4_works) x4_lineCount k) (hk : Kn (FrS x4_lineCount (ro 7 x4_lines) x4_change x4_coin (ro 3 x4_goods) x4_goodsCount (ro 5 x4_works) x4_workCount) x4_knownFree x4_isKnown) : Sf (fX0_totalOf n x0_gained (x1_left, x1_earned, x1_turnCost, x1_turnWayless) (x2_edgeA, x2_edgeB, x2_edgeCost, x2_edgeLine, x2_change, x2_away, x2_steps, x2_nodes, x2_stepCount, x2_open, x2_openCount, x2_seen, x2_edgeCount, x2_aim) (x3_lineCount, x3_goodsCount, x3_workCount, x3_years, x3_lines, x3_goods, x3_works, x3_change, x3_coin, x3_knownFree, x3_isKnown) (x4_lineCount, x4_goodsCount, x4_workCount, x4_years, x4_lines, x4_goods, x4_works, x4_change, x4_coin, x4_knownFree, x4_isKnown) p2) (fun r => r.1 = TotA (x4_lineCount, ro 7 x4_lines, x4_change) x4_coin (ro 3 x4_goods) x4_goodsCount (ro 5 x4_works) x4_workCount x4_years p2 ∧ FwQ (FrS x4_lineCount (ro 7 x4_lines) x4_change x4_coin (ro 3 x4_goods) x4_goodsCount (ro 5 x4_works) x4_workCount) x4_lineCount x4_lines x4_change r.2.2.2) := by
  unfold fX0_totalOf
  dsimp only [u4, u14, u11]
  refine Sf.bind (freeWithC hn h_x2_edgeA h_x2_edgeB h_x2_edgeLine h_x2_steps h_x2_nodes h_x2_stepCount h_x2_open h_x2_openCount h_x2_edgeCount h_x3_lineCount h_x3_goodsCount h_x3_workCount h_x3_years h_x3_lines h_x3_goods h_x3_works h_x3_change h_x3_coin h_x4_lineCount h_x4_goodsCount h_x4_workCount h_x4_years h_x4_lines h_x4_goods h_x4_works h_x4_change h_x4_coin hf hk) ?_
  rintro ⟨v1, ⟨g3, g4, g5, g6, g7, g8, g9, g10⟩, ⟨g12, g13, g14, g15, g16, g17, g18, g19, g20, g21⟩, ⟨g23, g24, g25, g26, g27⟩⟩ ⟨⟨s, hs, e1⟩, q1, q2, q3, q4⟩
  have e1 : v1 = _ := e1
  try dsimp only [u8, u10, u5]
  refine Sf.bind (P := fun w => w = TotA (x4_lineCount, ro 7 x4_lines, x4_change) x4_coin (ro 3 x4_goods) x4_goodsCount (ro 5 x4_works) x4_workCount x4_years p2) ?_ (fun w h => Sf.ok ⟨h, q1, q2, q3, q4⟩)
  have f1 : v1 = FrA (doU (ro 5 x4_works) p2 x4_workCount.toNatClampNeg (x4_lineCount, ro 7 x4_lines, x4_change)) x4_coin (ro 3 x4_goods) x4_goodsCount := by
    rw [e1]
    unfold FrS
    rw [doS_doU _ hs]
  refine Sf.loop2 (fun (z30 z31 : Int32) => (0 ≤ z31 ∧ z31 ≤ x4_workCount) ∧ z30 = x4_years * v1 + sm (cnU (ro 5 x4_works) p2) z31.toNatClampNeg) (fun z30 z31 => muUp z31) (fun z30 z31 h => ?_) (show (0 ≤ (0 : Int32) ∧ (0 : Int32) ≤ x4_workCount) ∧ x4_years * v1 = x4_years * v1 + sm (cnU (ro 5 x4_works) p2) (0 : Int32).toNatClampNeg from ⟨⟨by decide, h_x4_workCount.1⟩, (Int32.add_zero _).symm⟩) (muUp_n hn)
  obtain ⟨i0, i1⟩ := h
  unfold fX0_totalOf_s15
  refine Sf.ite (fun hc => ?_) (fun hc => ?_)
  · have e : z31 = x4_workCount := Int32.le_antisymm i0.2 hc
    refine Sf.inr (show z30 = _ from ?_)
    rw [i1, e, f1]
    rfl
  obtain ⟨p0, p1, p3⟩ := up1 i0.1 (Int32.le_trans h_x4_workCount.2 (by decide)) hc
  have hz1 : z31 + 1 ≤ x4_workCount := by clear i1 e1 f1 hk hf hs; grind
  have hz6 : 0 ≤ z31 ∧ z31 ≤ 6 := ⟨i0.1, by clear i1 e1 f1 hk hf hs; grind⟩
  have hz30 : 0 ≤ z31 ∧ z31 ≤ 30 := ⟨i0.1, Int32.le_trans hz6.2 (by decide)⟩
  have nx : x4_years * v1 + sm (cnU (ro 5 x4_works) p2) (z31 + 1).toNatClampNeg = z30 + cnU (ro 5 x4_works) p2 z31.toNatClampNeg := by
    rw [p1, i1]
    show _ + (sm (cnU (ro 5 x4_works) p2) z31.toNatClampNeg + cnU (ro 5 x4_works) p2 z31.toNatClampNeg) = _
    rw [Int32.add_assoc]
  have no : ¬ (tq p2 z31.toNatClampNeg = true ∧ ro 5 x4_works z31.toNatClampNeg 4 = 0) → z30 = x4_years * v1 + sm (cnU (ro 5 x4_works) p2) (z31 + 1).toNatClampNeg := by
    intro hno
    rw [nx]
    unfold cnU
    rw [if_neg hno, Int32.add_zero]
  refine Sf.ite (fun hb => ?_) (fun hb => ?_)
  · have hb := (bit_at hz30).mp hb
    exact Sf.inl (show (0 ≤ z31 + 1 ∧ z31 + 1 ≤ x4_workCount) ∧ z30 = x4_years * v1 + sm (cnU (ro 5 x4_works) p2) (z31 + 1).toNatClampNeg from ⟨⟨p0, hz1⟩, no (fun h => by rw [hb] at h; exact absurd h.1 (by decide))⟩) (muUp_lt hc)
  · have hb : tq p2 z31.toNatClampNeg = true := by
      cases hq : tq p2 z31.toNatClampNeg with
      | true => rfl
      | false => exact absurd ((bit_at hz30).mpr hq) hb
    refine Sf.bind (isDoneS h_x4_works hz6) (fun v34 e34 => ?_)
    refine Sf.ite (fun hv => ?_) (fun hv => ?_)
    · have hd : ro 5 x4_works z31.toNatClampNeg 4 = 0 := by
        refine Classical.byContradiction fun hn' => ?_
        rw [if_neg hn'] at e34
        rw [e34] at hv
        exact absurd hv (by decide)
      refine Sf.bind (ofWorkV h_x4_works hz6 (by decide)) (fun v36 e36 => ?_)
      have e36 : v36 = ro 5 x4_works z31.toNatClampNeg 3 := e36
      refine Sf.inl (show (0 ≤ z31 + 1 ∧ z31 + 1 ≤ x4_workCount) ∧ z30 + v36 = x4_years * v1 + sm (cnU (ro 5 x4_works) p2) (z31 + 1).toNatClampNeg from ⟨⟨p0, hz1⟩, ?_⟩) (muUp_lt hc)
      rw [nx, e36]
      unfold cnU
      rw [if_pos ⟨hb, hd⟩]
    · have hd : ro 5 x4_works z31.toNatClampNeg 4 ≠ 0 := by
        intro hn'
        rw [if_pos hn'] at e34
        exact hv e34
      exact Sf.inl (show (0 ≤ z31 + 1 ∧ z31 + 1 ≤ x4_workCount) ∧ z30 = x4_years * v1 + sm (cnU (ro 5 x4_works) p2) (z31 + 1).toNatClampNeg from ⟨⟨p0, hz1⟩, no (fun h => hd h.2)⟩) (muUp_lt hc)
end
section
/-! best, never: the land stays, and what is kept of it stays right -/
theorem bestOfK {n : Nat} {x0_gained : Nat → Int32} {x1_left : (Nat → Int32)} {x1_earned : (Nat → Int32)} {x1_turnCost : Int32} {x1_turnWayless : Int32} {x2_edgeA : (Nat → Int32)} {x2_edgeB : (Nat → Int32)} {x2_edgeCost : (Nat → Int32)} {x2_edgeLine : (Nat → Int32)} {x2_change : (Nat → Int32)} {x2_away : (Nat → Int32)} {x2_steps : (Nat → Int32)} {x2_nodes : (Nat → Int32)} {x2_stepCount : Int32} {x2_open : (Nat → Int32)} {x2_openCount : Int32} {x2_seen : Int64} {x2_edgeCount : Int32} {x2_aim : Int32} {x3_lineCount : Int32} {x3_goodsCount : Int32} {x3_workCount : Int32} {x3_years : Int32} {x3_lines : (Nat → Int32)} {x3_goods : (Nat → Int32)} {x3_works : (Nat → Int32)} {x3_change : (Nat → Int32)} {x3_coin : (Nat → Int32)} {x3_knownFree : (Nat → Int32)} {x3_isKnown : Int32} {x4_lineCount : Int32} {x4_goodsCount : Int32} {x4_workCount : Int32} {x4_years : Int32} {x4_lines : (Nat → Int32)} {x4_goods : (Nat → Int32)} {x4_works : (Nat → Int32)} {x4_change : (Nat → Int32)} {x4_coin : (Nat → Int32)} {x4_knownFree : (Nat → Int32)} {x4_isKnown : Int32} (hn : 1000000000000 ≤ n) (h_x2_edgeA : (AI 0 35 x2_edgeA)) (h_x2_edgeB : (AI 0 35 x2_edgeB)) (h_x2_edgeLine : (AI 0 19 x2_edgeLine)) (h_x2_steps : (AI 0 22 x2_steps)) (h_x2_nodes : (AI 0 35 x2_nodes)) (h_x2_stepCount : (0 ≤ x2_stepCount ∧ x2_stepCount ≤ 36)) (h_x2_open : (AI 0 35 x2_open)) (h_x2_openCount : (0 ≤ x2_openCount ∧ x2_openCount ≤ 36)) (h_x2_edgeCount : (0 ≤ x2_edgeCount ∧ x2_edgeCount ≤ 60)) (h_x3_lineCount : (0 ≤ x3_lineCount ∧ x3_lineCount ≤ 20)) (h_x3_goodsCount : (0 ≤ x3_goodsCount ∧ x3_goodsCount ≤ 8)) (h_x3_workCount : (0 ≤ x3_workCount ∧ x3_workCount ≤ 7)) (h_x3_years : (1 ≤ x3_years ∧ x3_years ≤ 30)) (h_x3_lines : (LnOk x3_lines)) (h_x3_goods : (GdOk x3_goods)) (h_x3_works : (WkOk x3_works)) (h_x3_change : (AI 0 99 x3_change)) (h_x3_coin : (AI 0 9 x3_coin)) (h_x4_lineCount : (0 ≤ x4_lineCount ∧ x4_lineCount ≤ 20)) (h_x4_goodsCount : (0 ≤ x4_goodsCount ∧ x4_goodsCount ≤ 8)) (h_x4_workCount : (0 ≤ x4_workCount ∧ x4_workCount ≤ 7)) (h_x4_years : (1 ≤ x4_years ∧ x4_years ≤ 30)) (h_x4_lines : (LnOk x4_lines)) (h_x4_goods : (GdOk x4_goods)) (h_x4_works : (WkOk x4_works)) (h_x4_change : (AI 0 99 x4_change)) (h_x4_coin : (AI 0 9 x4_coin)) (hf : ∀ k, k < x4_workCount.toNatClampNeg → Wf1 (ro 5 x4_works) x4_lineCount k) (hk : Kn (FrS x4_lineCount (ro 7 x4_lines) x4_change x4_coin (ro 3 x4_goods) x4_goodsCount (ro 5 x4_works) x4_workCount) x4_knownFree x4_isKnown) : Sf (fX0_bestOf n x0_gained (x1_left, x1_earned, x1_turnCost, x1_turnWayless) (x2_edgeA, x2_edgeB, x2_edgeCost, x2_edgeLine, x2_change, x2_away, x2_steps, x2_nodes, x2_stepCount, x2_open, x2_openCount, x2_seen, x2_edgeCount, x2_aim) (x3_lineCount, x3_goodsCount, x3_workCount, x3_years, x3_lines, x3_goods, x3_works, x3_change, x3_coin, x3_knownFree, x3_isKnown) (x4_lineCount, x4_goodsCount, x4_workCount, x4_years, x4_lines, x4_goods, x4_works, x4_change, x4_coin, x4_knownFree, x4_isKnown)) (fun r => FwQ (FrS x4_lineCount (ro 7 x4_lines) x4_change x4_coin (ro 3 x4_goods) x4_goodsCount (ro 5 x4_works) x4_workCount) x4_lineCount x4_lines x4_change r.2.2.2) := by
  unfold fX0_bestOf
  dsimp only [u4, u14, u11]
  refine Sf.bind (Sf.and (sX0_totalOf hn h_x2_edgeA h_x2_edgeB h_x2_edgeLine h_x2_steps h_x2_nodes h_x2_stepCount h_x2_open h_x2_openCount h_x2_edgeCount h_x3_lineCount h_x3_goodsCount h_x3_workCount h_x3_years h_x3_lines h_x3_goods h_x3_works h_x3_change h_x3_coin h_x4_lineCount h_x4_goodsCount h_x4_workCount h_x4_years h_x4_lines h_x4_goods h_x4_works h_x4_change h_x4_coin) (totalOfC (x0_gained := x0_gained) (x1_left := x1_left) (x1_earned := x1_earned) (x1_turnCost := x1_turnCost) (x1_turnWayless := x1_turnWayless) hn h_x2_edgeA h_x2_edgeB h_x2_edgeLine h_x2_steps h_x2_nodes h_x2_stepCount h_x2_open h_x2_openCount h_x2_edgeCount h_x3_lineCount h_x3_goodsCount h_x3_workCount h_x3_years h_x3_lines h_x3_goods h_x3_works h_x3_change h_x3_coin h_x4_lineCount h_x4_goodsCount h_x4_workCount h_x4_years h_x4_lines h_x4_goods h_x4_works h_x4_change h_x4_coin hf hk)) ?_
  rintro ⟨v1, ⟨g3, g4, g5, g6, g7, g8, g9, g10⟩, ⟨g12, g13, g14, g15, g16, g17, g18, g19, g20, g21⟩, ⟨g23, g24, g25, g26, g27⟩⟩ ⟨⟨b1, b2, b3, b4, b5, b6, b7, b8, b9, b10, b11, b12, b13, b14, b15, b16⟩, e1, q1, q2, q3, q4⟩
  have q1 : g23 = x4_lineCount := q1
  have q2 : g24 = x4_lines := q2
  have q3 : g25 = x4_change := q3
  have q4 : Kn _ g26 g27 := q4
  try dsimp only [u8, u10, u5]
  rw [q1, q2, q3]
  refine Sf.bind (doneS hn h_x4_works h_x4_workCount) (fun v29 h29 => ?_)
  refine Sf.bind (P := fun r => FwQ (FrS x4_lineCount (ro 7 x4_lines) x4_change x4_coin (ro 3 x4_goods) x4_goodsCount (ro 5 x4_works) x4_workCount) x4_lineCount x4_lines x4_change r.2.2.2.2.2.2.2.2.2.2.2.2.2.2.2.2.2.2.2) ?_ ?_
  · refine Sf.loop26 (fun z32 z33 z34 z35 z36 z37 z38 z39 z40 z41 z42 z43 z44 z45 z46 z47 z48 z49 z50 z51 z52 z53 z54 z55 z56 z57 => 0 ≤ z34 ∧ StB z35 z36 z38 z41 z43 z44 z45 z46 z47 z48 z49 z50 z51 ∧ FwQ (FrS x4_lineCount (ro 7 x4_lines) x4_change x4_coin (ro 3 x4_goods) x4_goodsCount (ro 5 x4_works) x4_workCount) x4_lineCount x4_lines x4_change (z53, z54, z55, z56, z57)) (fun z32 z33 z34 z35 z36 z37 z38 z39 z40 z41 z42 z43 z44 z45 z46 z47 z48 z49 z50 z51 z52 z53 z54 z55 z56 z57 => muUp z34) (fun z32 z33 z34 z35 z36 z37 z38 z39 z40 z41 z42 z43 z44 z45 z46 z47 z48 z49 z50 z51 z52 z53 z54 z55 z56 z57 h => ?_) ?_ (muUp_n hn)
    · obtain ⟨i0, ⟨⟨j1, j2, j3, j4⟩, m1, m2, m3, m4, m5, m6, m7, m8, m9⟩, q1, q2, q3, q4⟩ := h
      have q1 : z53 = x4_lineCount := q1
      have q2 : z54 = x4_lines := q2
      have q3 : z55 = x4_change := q3
      have q4 : Kn _ z56 z57 := q4
      unfold fX0_bestOf_s18
      refine Sf.ite (fun hc => Sf.inr ⟨q1, q2, q3, q4⟩) (fun hc => ?_)
      rw [q1, q2, q3]
      have p0 : 0 ≤ z34 + 1 := by
        have a := Int32.lt_iff_toInt_lt.mp (Int32.not_le.mp hc)
        have b := Int32.toInt_le ((1 : Int32) <<< (x4_workCount &&& 31))
        have mv : Int32.maxValue.toInt = 2147483647 := by decide
        rw [mv] at b
        have z0 : (0 : Int32).toInt = 0 := by decide
        have z1 : (1 : Int32).toInt = 1 := by decide
        have c := Int32.le_iff_toInt_le.mp i0
        refine Int32.le_iff_toInt_le.mpr ?_
        rw [i32_add (by omega) (by omega)]
        omega
      refine Sf.ite (fun hb => ?_) (fun hb => ?_)
      · refine Sf.bind (Sf.and (sX0_totalOf hn j1 j2 j3 h_x2_steps h_x2_nodes h_x2_stepCount h_x2_open h_x2_openCount j4 m1 m2 m3 m4 m5 m6 m7 m8 m9 h_x4_lineCount h_x4_goodsCount h_x4_workCount h_x4_years h_x4_lines h_x4_goods h_x4_works h_x4_change h_x4_coin) (totalOfC (x0_gained := x0_gained) (x1_left := x1_left) (x1_earned := x1_earned) (x1_turnCost := x1_turnCost) (x1_turnWayless := x1_turnWayless) hn j1 j2 j3 h_x2_steps h_x2_nodes h_x2_stepCount h_x2_open h_x2_openCount j4 m1 m2 m3 m4 m5 m6 m7 m8 m9 h_x4_lineCount h_x4_goodsCount h_x4_workCount h_x4_years h_x4_lines h_x4_goods h_x4_works h_x4_change h_x4_coin hf q4)) ?_
        rintro ⟨v83, ⟨g85, g86, g87, g88, g89, g90, g91, g92⟩, ⟨g94, g95, g96, g97, g98, g99, g100, g101, g102, g103⟩, ⟨g105, g106, g107, g108, g109⟩⟩ ⟨⟨b1, b2, b3, b4, b5, b6, b7, b8, b9, b10, b11, b12, b13, b14, b15, b16⟩, e55, r1, r2, r3, r4⟩
        try dsimp only [u8, u10, u5]
        refine Sf.ite (fun hle => ?_) (fun hle => ?_)
        · exact Sf.inl ⟨p0, ⟨⟨b1, b2, b3, b4⟩, b5, b6, b7, b8, b9, b10, b11, b12, b13⟩, r1, r2, r3, r4⟩ (muUp_lt hc)
        · exact Sf.inl ⟨p0, ⟨⟨b1, b2, b3, b4⟩, b5, b6, b7, b8, b9, b10, b11, b12, b13⟩, r1, r2, r3, r4⟩ (muUp_lt hc)
      · exact Sf.inl ⟨p0, ⟨⟨j1, j2, j3, j4⟩, m1, m2, m3, m4, m5, m6, m7, m8, m9⟩, rfl, rfl, rfl, q4⟩ (muUp_lt hc)
    · exact ⟨(show (0 : Int32) ≤ 1 by decide), ⟨⟨b1, b2, b3, b4⟩, b5, b6, b7, b8, b9, b10, b11, b12, b13⟩, rfl, rfl, rfl, q4⟩
  · rintro ⟨w29, w30, w31, w32, w33, w34, w35, w36, w37, w38, w39, w40, w41, w42, w43, w44, w45, w46, w47, w48, w49, w50, w51, w52⟩ h
    exact Sf.ok h
theorem alwaysK {n : Nat} {x0_gained : Nat → Int32} {x1_left : (Nat → Int32)} {x1_earned : (Nat → Int32)} {x1_turnCost : Int32} {x1_turnWayless : Int32} {x2_edgeA : (Nat → Int32)} {x2_edgeB : (Nat → Int32)} {x2_edgeCost : (Nat → Int32)} {x2_edgeLine : (Nat → Int32)} {x2_change : (Nat → Int32)} {x2_away : (Nat → Int32)} {x2_steps : (Nat → Int32)} {x2_nodes : (Nat → Int32)} {x2_stepCount : Int32} {x2_open : (Nat → Int32)} {x2_openCount : Int32} {x2_seen : Int64} {x2_edgeCount : Int32} {x2_aim : Int32} {x3_lineCount : Int32} {x3_goodsCount : Int32} {x3_workCount : Int32} {x3_years : Int32} {x3_lines : (Nat → Int32)} {x3_goods : (Nat → Int32)} {x3_works : (Nat → Int32)} {x3_change : (Nat → Int32)} {x3_coin : (Nat → Int32)} {x3_knownFree : (Nat → Int32)} {x3_isKnown : Int32} {x4_lineCount : Int32} {x4_goodsCount : Int32} {x4_workCount : Int32} {x4_years : Int32} {x4_lines : (Nat → Int32)} {x4_goods : (Nat → Int32)} {x4_works : (Nat → Int32)} {x4_change : (Nat → Int32)} {x4_coin : (Nat → Int32)} {x4_knownFree : (Nat → Int32)} {x4_isKnown : Int32} {p2 : Int32} (hn : 1000000000000 ≤ n) (h_x2_edgeA : (AI 0 35 x2_edgeA)) (h_x2_edgeB : (AI 0 35 x2_edgeB)) (h_x2_edgeLine : (AI 0 19 x2_edgeLine)) (h_x2_steps : (AI 0 22 x2_steps)) (h_x2_nodes : (AI 0 35 x2_nodes)) (h_x2_stepCount : (0 ≤ x2_stepCount ∧ x2_stepCount ≤ 36)) (h_x2_open : (AI 0 35 x2_open)) (h_x2_openCount : (0 ≤ x2_openCount ∧ x2_openCount ≤ 36)) (h_x2_edgeCount : (0 ≤ x2_edgeCount ∧ x2_edgeCount ≤ 60)) (h_x3_lineCount : (0 ≤ x3_lineCount ∧ x3_lineCount ≤ 20)) (h_x3_goodsCount : (0 ≤ x3_goodsCount ∧ x3_goodsCount ≤ 8)) (h_x3_workCount : (0 ≤ x3_workCount ∧ x3_workCount ≤ 7)) (h_x3_years : (1 ≤ x3_years ∧ x3_years ≤ 30)) (h_x3_lines : (LnOk x3_lines)) (h_x3_goods : (GdOk x3_goods)) (h_x3_works : (WkOk x3_works)) (h_x3_change : (AI 0 99 x3_change)) (h_x3_coin : (AI 0 9 x3_coin)) (h_x4_lineCount : (0 ≤ x4_lineCount ∧ x4_lineCount ≤ 20)) (h_x4_goodsCount : (0 ≤ x4_goodsCount ∧ x4_goodsCount ≤ 8)) (h_x4_workCount : (0 ≤ x4_workCount ∧ x4_workCount ≤ 7)) (h_x4_years : (1 ≤ x4_years ∧ x4_years ≤ 30)) (h_x4_lines : (LnOk x4_lines)) (h_x4_goods : (GdOk x4_goods)) (h_x4_works : (WkOk x4_works)) (h_x4_change : (AI 0 99 x4_change)) (h_x4_coin : (AI 0 9 x4_coin)) (hf : ∀ k, k < x4_workCount.toNatClampNeg → Wf1 (ro 5 x4_works) x4_lineCount k) (hk : Kn (FrS x4_lineCount (ro 7 x4_lines) x4_change x4_coin (ro 3 x4_goods) x4_goodsCount (ro 5 x4_works) x4_workCount) x4_knownFree x4_isKnown) : Sf (fX0_alwaysCostsMore n x0_gained (x1_left, x1_earned, x1_turnCost, x1_turnWayless) (x2_edgeA, x2_edgeB, x2_edgeCost, x2_edgeLine, x2_change, x2_away, x2_steps, x2_nodes, x2_stepCount, x2_open, x2_openCount, x2_seen, x2_edgeCount, x2_aim) (x3_lineCount, x3_goodsCount, x3_workCount, x3_years, x3_lines, x3_goods, x3_works, x3_change, x3_coin, x3_knownFree, x3_isKnown) (x4_lineCount, x4_goodsCount, x4_workCount, x4_years, x4_lines, x4_goods, x4_works, x4_change, x4_coin, x4_knownFree, x4_isKnown) p2) (fun r => FwQ (FrS x4_lineCount (ro 7 x4_lines) x4_change x4_coin (ro 3 x4_goods) x4_goodsCount (ro 5 x4_works) x4_workCount) x4_lineCount x4_lines x4_change r.2.2.2) := by
  unfold fX0_alwaysCostsMore
  dsimp only [u4, u14, u11]
  refine Sf.bind (doneS hn h_x4_works h_x4_workCount) (fun v1 h1 => ?_)
  refine Sf.someb (fun t3 _ => ?_)
  refine Sf.bindS (P := fun r => FwQ (FrS x4_lineCount (ro 7 x4_lines) x4_change x4_coin (ro 3 x4_goods) x4_goodsCount (ro 5 x4_works) x4_workCount) x4_lineCount x4_lines x4_change r.2.2.2.2.2.2.2.2.2.2.2.2.2.2.2.2.2.2) (P' := fun r => FwQ (FrS x4_lineCount (ro 7 x4_lines) x4_change x4_coin (ro 3 x4_goods) x4_goodsCount (ro 5 x4_works) x4_workCount) x4_lineCount x4_lines x4_change r.2.2.2.2.2.2.2.2.2.2.2.2.2.2.2.2.2.2) ?_ ?_ ?_
  · refine Sf.loop24 (fun z5 z6 z7 z8 z9 z10 z11 z12 z13 z14 z15 z16 z17 z18 z19 z20 z21 z22 z23 z24 z25 z26 z27 z28 => 0 ≤ z5 ∧ StB z6 z7 z9 z12 z14 z15 z16 z17 z18 z19 z20 z21 z22 ∧ FwQ (FrS x4_lineCount (ro 7 x4_lines) x4_change x4_coin (ro 3 x4_goods) x4_goodsCount (ro 5 x4_works) x4_workCount) x4_lineCount x4_lines x4_change (z24, z25, z26, z27, z28)) (fun z5 z6 z7 z8 z9 z10 z11 z12 z13 z14 z15 z16 z17 z18 z19 z20 z21 z22 z23 z24 z25 z26 z27 z28 => muUp z5) (fun z5 z6 z7 z8 z9 z10 z11 z12 z13 z14 z15 z16 z17 z18 z19 z20 z21 z22 z23 z24 z25 z26 z27 z28 h => ?_) ?_ (muUp_n hn)
    · obtain ⟨i0, ⟨⟨j1, j2, j3, j4⟩, m1, m2, m3, m4, m5, m6, m7, m8, m9⟩, q1, q2, q3, q4⟩ := h
      have q1 : z24 = x4_lineCount := q1
      have q2 : z25 = x4_lines := q2
      have q3 : z26 = x4_change := q3
      have q4 : Kn _ z27 z28 := q4
      unfold fX0_alwaysCostsMore_s12
      refine Sf.ite (fun hc => Sf.inr ⟨q1, q2, q3, q4⟩) (fun hc => ?_)
      rw [q1, q2, q3]
      have p0 : 0 ≤ z5 + 1 := by
        have a := Int32.lt_iff_toInt_lt.mp (Int32.not_le.mp hc)
        have b := Int32.toInt_le ((1 : Int32) <<< (x4_workCount &&& 31))
        have mv : Int32.maxValue.toInt = 2147483647 := by decide
        rw [mv] at b
        have z0 : (0 : Int32).toInt = 0 := by decide
        have z1 : (1 : Int32).toInt = 1 := by decide
        have c := Int32.le_iff_toInt_le.mp i0
        refine Int32.le_iff_toInt_le.mpr ?_
        rw [i32_add (by omega) (by omega)]
        omega
      refine Sf.ite (fun hb => ?_) (fun hb => ?_)
      · refine Sf.bind (Sf.and (sX0_totalOf hn j1 j2 j3 h_x2_steps h_x2_nodes h_x2_stepCount h_x2_open h_x2_openCount j4 m1 m2 m3 m4 m5 m6 m7 m8 m9 h_x4_lineCount h_x4_goodsCount h_x4_workCount h_x4_years h_x4_lines h_x4_goods h_x4_works h_x4_change h_x4_coin) (totalOfC (x0_gained := x0_gained) (x1_left := x1_left) (x1_earned := x1_earned) (x1_turnCost := x1_turnCost) (x1_turnWayless := x1_turnWayless) hn j1 j2 j3 h_x2_steps h_x2_nodes h_x2_stepCount h_x2_open h_x2_openCount j4 m1 m2 m3 m4 m5 m6 m7 m8 m9 h_x4_lineCount h_x4_goodsCount h_x4_workCount h_x4_years h_x4_lines h_x4_goods h_x4_works h_x4_change h_x4_coin hf q4)) ?_
        rintro ⟨v76, ⟨g78, g79, g80, g81, g82, g83, g84, g85⟩, ⟨g87, g88, g89, g90, g91, g92, g93, g94, g95, g96⟩, ⟨g98, g99, g100, g101, g102⟩⟩ ⟨⟨b1, b2, b3, b4, b5, b6, b7, b8, b9, b10, b11, b12, b13, b14, b15, b16⟩, e55, r1, r2, r3, r4⟩
        have r1 : g98 = x4_lineCount := r1
        have r2 : g99 = x4_lines := r2
        have r3 : g100 = x4_change := r3
        have r4 : Kn _ g101 g102 := r4
        try dsimp only [u8, u10, u5]
        rw [r1, r2, r3]
        refine Sf.bind (Sf.and (sX0_totalOf hn b1 b2 b3 h_x2_steps h_x2_nodes h_x2_stepCount h_x2_open h_x2_openCount b4 b5 b6 b7 b8 b9 b10 b11 b12 b13 h_x4_lineCount h_x4_goodsCount h_x4_workCount h_x4_years h_x4_lines h_x4_goods h_x4_works h_x4_change h_x4_coin) (totalOfC (x0_gained := x0_gained) (x1_left := x1_left) (x1_earned := x1_earned) (x1_turnCost := x1_turnCost) (x1_turnWayless := x1_turnWayless) hn b1 b2 b3 h_x2_steps h_x2_nodes h_x2_stepCount h_x2_open h_x2_openCount b4 b5 b6 b7 b8 b9 b10 b11 b12 b13 h_x4_lineCount h_x4_goodsCount h_x4_workCount h_x4_years h_x4_lines h_x4_goods h_x4_works h_x4_change h_x4_coin hf r4)) ?_
        rintro ⟨v104, ⟨g106, g107, g108, g109, g110, g111, g112, g113⟩, ⟨g115, g116, g117, g118, g119, g120, g121, g122, g123, g124⟩, ⟨g126, g127, g128, g129, g130⟩⟩ ⟨⟨c1, c2, c3, c4, c5, c6, c7, c8, c9, c10, c11, c12, c13, c14, c15, c16⟩, e56, s1, s2, s3, s4⟩
        try dsimp only [u8, u10, u5]
        refine Sf.ite (fun hle => ?_) (fun hle => ?_)
        · exact Sf.inl ⟨p0, ⟨⟨c1, c2, c3, c4⟩, c5, c6, c7, c8, c9, c10, c11, c12, c13⟩, s1, s2, s3, s4⟩ (muUp_lt hc)
        · exact Sf.inr ⟨s1, s2, s3, s4⟩
      · exact Sf.inl ⟨p0, ⟨⟨j1, j2, j3, j4⟩, m1, m2, m3, m4, m5, m6, m7, m8, m9⟩, rfl, rfl, rfl, q4⟩ (muUp_lt hc)
    · exact ⟨(show (0 : Int32) ≤ 0 by decide), ⟨⟨h_x2_edgeA, h_x2_edgeB, h_x2_edgeLine, h_x2_edgeCount⟩, h_x3_lineCount, h_x3_goodsCount, h_x3_workCount, h_x3_years, h_x3_lines, h_x3_goods, h_x3_works, h_x3_change, h_x3_coin⟩, rfl, rfl, rfl, hk⟩
  · rintro ⟨w30, w31, w32, w33, w34, w35, w36, w37, w38, w39, w40, w41, w42, w43, w44, w45, w46, w47, w48, w49, w50, w51, w52⟩ h
    exact Sf.ok h
  · rintro ⟨w30, w31, w32, w33, w34, w35, w36, w37, w38, w39, w40, w41, w42, w43, w44, w45, w46, w47, w48, w49, w50, w51, w52⟩ h
    exact Sf.ok h
theorem neverOfK {n : Nat} {x0_gained : Nat → Int32} {x1_left : (Nat → Int32)} {x1_earned : (Nat → Int32)} {x1_turnCost : Int32} {x1_turnWayless : Int32} {x2_edgeA : (Nat → Int32)} {x2_edgeB : (Nat → Int32)} {x2_edgeCost : (Nat → Int32)} {x2_edgeLine : (Nat → Int32)} {x2_change : (Nat → Int32)} {x2_away : (Nat → Int32)} {x2_steps : (Nat → Int32)} {x2_nodes : (Nat → Int32)} {x2_stepCount : Int32} {x2_open : (Nat → Int32)} {x2_openCount : Int32} {x2_seen : Int64} {x2_edgeCount : Int32} {x2_aim : Int32} {x3_lineCount : Int32} {x3_goodsCount : Int32} {x3_workCount : Int32} {x3_years : Int32} {x3_lines : (Nat → Int32)} {x3_goods : (Nat → Int32)} {x3_works : (Nat → Int32)} {x3_change : (Nat → Int32)} {x3_coin : (Nat → Int32)} {x3_knownFree : (Nat → Int32)} {x3_isKnown : Int32} {x4_lineCount : Int32} {x4_goodsCount : Int32} {x4_workCount : Int32} {x4_years : Int32} {x4_lines : (Nat → Int32)} {x4_goods : (Nat → Int32)} {x4_works : (Nat → Int32)} {x4_change : (Nat → Int32)} {x4_coin : (Nat → Int32)} {x4_knownFree : (Nat → Int32)} {x4_isKnown : Int32} (hn : 1000000000000 ≤ n) (h_x2_edgeA : (AI 0 35 x2_edgeA)) (h_x2_edgeB : (AI 0 35 x2_edgeB)) (h_x2_edgeLine : (AI 0 19 x2_edgeLine)) (h_x2_steps : (AI 0 22 x2_steps)) (h_x2_nodes : (AI 0 35 x2_nodes)) (h_x2_stepCount : (0 ≤ x2_stepCount ∧ x2_stepCount ≤ 36)) (h_x2_open : (AI 0 35 x2_open)) (h_x2_openCount : (0 ≤ x2_openCount ∧ x2_openCount ≤ 36)) (h_x2_edgeCount : (0 ≤ x2_edgeCount ∧ x2_edgeCount ≤ 60)) (h_x3_lineCount : (0 ≤ x3_lineCount ∧ x3_lineCount ≤ 20)) (h_x3_goodsCount : (0 ≤ x3_goodsCount ∧ x3_goodsCount ≤ 8)) (h_x3_workCount : (0 ≤ x3_workCount ∧ x3_workCount ≤ 7)) (h_x3_years : (1 ≤ x3_years ∧ x3_years ≤ 30)) (h_x3_lines : (LnOk x3_lines)) (h_x3_goods : (GdOk x3_goods)) (h_x3_works : (WkOk x3_works)) (h_x3_change : (AI 0 99 x3_change)) (h_x3_coin : (AI 0 9 x3_coin)) (h_x4_lineCount : (0 ≤ x4_lineCount ∧ x4_lineCount ≤ 20)) (h_x4_goodsCount : (0 ≤ x4_goodsCount ∧ x4_goodsCount ≤ 8)) (h_x4_workCount : (0 ≤ x4_workCount ∧ x4_workCount ≤ 7)) (h_x4_years : (1 ≤ x4_years ∧ x4_years ≤ 30)) (h_x4_lines : (LnOk x4_lines)) (h_x4_goods : (GdOk x4_goods)) (h_x4_works : (WkOk x4_works)) (h_x4_change : (AI 0 99 x4_change)) (h_x4_coin : (AI 0 9 x4_coin)) (hf : ∀ k, k < x4_workCount.toNatClampNeg → Wf1 (ro 5 x4_works) x4_lineCount k) (hk : Kn (FrS x4_lineCount (ro 7 x4_lines) x4_change x4_coin (ro 3 x4_goods) x4_goodsCount (ro 5 x4_works) x4_workCount) x4_knownFree x4_isKnown) : Sf (fX0_neverOf n x0_gained (x1_left, x1_earned, x1_turnCost, x1_turnWayless) (x2_edgeA, x2_edgeB, x2_edgeCost, x2_edgeLine, x2_change, x2_away, x2_steps, x2_nodes, x2_stepCount, x2_open, x2_openCount, x2_seen, x2_edgeCount, x2_aim) (x3_lineCount, x3_goodsCount, x3_workCount, x3_years, x3_lines, x3_goods, x3_works, x3_change, x3_coin, x3_knownFree, x3_isKnown) (x4_lineCount, x4_goodsCount, x4_workCount, x4_years, x4_lines, x4_goods, x4_works, x4_change, x4_coin, x4_knownFree, x4_isKnown)) (fun r => FwQ (FrS x4_lineCount (ro 7 x4_lines) x4_change x4_coin (ro 3 x4_goods) x4_goodsCount (ro 5 x4_works) x4_workCount) x4_lineCount x4_lines x4_change r.2.2.2) := by
  unfold fX0_neverOf
  dsimp only [u4, u14, u11]
  refine Sf.bind (P := fun r => FwQ (FrS x4_lineCount (ro 7 x4_lines) x4_change x4_coin (ro 3 x4_goods) x4_goodsCount (ro 5 x4_works) x4_workCount) x4_lineCount x4_lines x4_change r.2.2.2.2.2.2.2.2.2.2.2.2.2.2.2.2.2.2.2) ?_ ?_
  · refine Sf.loop25 (fun z2 z3 z4 z5 z6 z7 z8 z9 z10 z11 z12 z13 z14 z15 z16 z17 z18 z19 z20 z21 z22 z23 z24 z25 z26 => (0 ≤ z3 ∧ z3 ≤ x4_workCount) ∧ StB z4 z5 z7 z10 z12 z13 z14 z15 z16 z17 z18 z19 z20 ∧ FwQ (FrS x4_lineCount (ro 7 x4_lines) x4_change x4_coin (ro 3 x4_goods) x4_goodsCount (ro 5 x4_works) x4_workCount) x4_lineCount x4_lines x4_change (z22, z23, z24, z25, z26)) (fun z2 z3 z4 z5 z6 z7 z8 z9 z10 z11 z12 z13 z14 z15 z16 z17 z18 z19 z20 z21 z22 z23 z24 z25 z26 => muUp z3) (fun z2 z3 z4 z5 z6 z7 z8 z9 z10 z11 z12 z13 z14 z15 z16 z17 z18 z19 z20 z21 z22 z23 z24 z25 z26 h => ?_) ?_ (muUp_n hn)
    · obtain ⟨i0, ⟨⟨j1, j2, j3, j4⟩, m1, m2, m3, m4, m5, m6, m7, m8, m9⟩, q1, q2, q3, q4⟩ := h
      have q1 : z22 = x4_lineCount := q1
      have q2 : z23 = x4_lines := q2
      have q3 : z24 = x4_change := q3
      have q4 : Kn _ z25 z26 := q4
      unfold fX0_neverOf_s4
      refine Sf.ite (fun hc => Sf.inr ⟨q1, q2, q3, q4⟩) (fun hc => ?_)
      rw [q1, q2, q3]
      obtain ⟨p0, p1, p3⟩ := up1 i0.1 (Int32.le_trans h_x4_workCount.2 (by decide)) hc
      have hz1 : z3 + 1 ≤ x4_workCount := by clear q4 hk hf; grind
      have hz6 : 0 ≤ z3 ∧ z3 ≤ 6 := ⟨i0.1, by clear q4 hk hf; grind⟩
      refine Sf.bind (isDoneS h_x4_works hz6) (fun v52 e52 => ?_)
      refine Sf.ite (fun hv => ?_) (fun hv => ?_)
      · refine Sf.bind (Sf.and (sX0_alwaysCostsMore hn j1 j2 j3 h_x2_steps h_x2_nodes h_x2_stepCount h_x2_open h_x2_openCount j4 m1 m2 m3 m4 m5 m6 m7 m8 m9 h_x4_lineCount h_x4_goodsCount h_x4_workCount h_x4_years h_x4_lines h_x4_goods h_x4_works h_x4_change h_x4_coin) (alwaysK (x0_gained := x0_gained) (x1_left := x1_left) (x1_earned := x1_earned) (x1_turnCost := x1_turnCost) (x1_turnWayless := x1_turnWayless) hn j1 j2 j3 h_x2_steps h_x2_nodes h_x2_stepCount h_x2_open h_x2_openCount j4 m1 m2 m3 m4 m5 m6 m7 m8 m9 h_x4_lineCount h_x4_goodsCount h_x4_workCount h_x4_years h_x4_lines h_x4_goods h_x4_works h_x4_change h_x4_coin hf q4)) ?_
        rintro ⟨v54, ⟨g56, g57, g58, g59, g60, g61, g62, g63⟩, ⟨g65, g66, g67, g68, g69, g70, g71, g72, g73, g74⟩, ⟨g76, g77, g78, g79, g80⟩⟩ ⟨⟨b1, b2, b3, b4, b5, b6, b7, b8, b9, b10, b11, b12, b13, b14, b15, b16⟩, r1, r2, r3, r4⟩
        try dsimp only [u8, u10, u5]
        refine Sf.ite (fun hle => ?_) (fun hle => ?_)
        · exact Sf.inl ⟨⟨p0, hz1⟩, ⟨⟨b1, b2, b3, b4⟩, b5, b6, b7, b8, b9, b10, b11, b12, b13⟩, r1, r2, r3, r4⟩ (muUp_lt hc)
        · refine Sf.someb (fun t82 _ => ?_)
          exact Sf.inl ⟨⟨p0, hz1⟩, ⟨⟨b1, b2, b3, b4⟩, b5, b6, b7, b8, b9, b10, b11, b12, b13⟩, r1, r2, r3, r4⟩ (muUp_lt hc)
      · exact Sf.inl ⟨⟨p0, hz1⟩, ⟨⟨j1, j2, j3, j4⟩, m1, m2, m3, m4, m5, m6, m7, m8, m9⟩, rfl, rfl, rfl, q4⟩ (muUp_lt hc)
    · exact ⟨⟨(show (0 : Int32) ≤ 0 by decide), h_x4_workCount.1⟩, ⟨⟨h_x2_edgeA, h_x2_edgeB, h_x2_edgeLine, h_x2_edgeCount⟩, h_x3_lineCount, h_x3_goodsCount, h_x3_workCount, h_x3_years, h_x3_lines, h_x3_goods, h_x3_works, h_x3_change, h_x3_coin⟩, rfl, rfl, rfl, hk⟩
  · rintro ⟨w29, w30, w31, w32, w33, w34, w35, w36, w37, w38, w39, w40, w41, w42, w43, w44, w45, w46, w47, w48, w49, w50, w51, w52⟩ h
    exact Sf.ok h
end
section
/-! years that go by -/
abbrev S1 : Type := Ab × (Nat → Nat → Int32)
def yearA (k : Int32) (S : S1) : S1 := if k = -1 then S else (doA S.2 k.toNatClampNeg S.1, va_up S.2 k.toNatClampNeg (va_up (S.2 k.toNatClampNeg) 4 1))
noncomputable def costA (coins : Nat → Int32) (good : Nat → Nat → Int32) (G k : Int32) (S : S1) : Int32 := (if k = -1 then 0 else S.2 k.toNatClampNeg 3) + FrA (yearA k S).1 coins good G
def SEq (W : Nat) (S S' : S1) : Prop := AbEq S.1 S'.1 ∧ ∀ k, k < W → ∀ c, c < 5 → S.2 k c = S'.2 k c
def WfS (W : Nat) (S : S1) : Prop := (0 ≤ S.1.1 ∧ S.1.1 ≤ 20) ∧ ∀ k, k < W → Wf1 S.2 S.1.1 k
theorem SEq.refl {W : Nat} (S : S1) : SEq W S S := ⟨AbEq.refl _, fun _ _ _ _ => rfl⟩
theorem SEq.symm {W : Nat} {S S' : S1} (h : SEq W S S') : SEq W S' S := ⟨h.1.symm, fun k hk c hc => (h.2 k hk c hc).symm⟩
theorem SEq.trans {W : Nat} {S S' S'' : S1} (h : SEq W S S') (h' : SEq W S' S'') : SEq W S S'' := ⟨h.1.trans h'.1, fun k hk c hc => (h.2 k hk c hc).trans (h'.2 k hk c hc)⟩
theorem WfS.congr {W : Nat} {S S' : S1} (h : WfS W S) (e : SEq W S S') : WfS W S' := by
  obtain ⟨⟨e1, _, _⟩, e2⟩ := e
  refine ⟨by rw [← e1]; exact h.1, fun k hk => ?_⟩
  have := (h.2 k hk).congr (fun c hc => e2 k hk c (by omega))
  rw [e1] at this
  exact this
def okK (W : Nat) (k : Int32) : Prop := k = -1 ∨ (0 ≤ k ∧ k.toNatClampNeg < W)
theorem yearA_congr {W : Nat} {S S' : S1} {k : Int32} (h : SEq W S S') (hw : WfS W S) (hk : okK W k) : SEq W (yearA k S) (yearA k S') := by
  unfold yearA
  by_cases e : k = -1
  · rw [if_pos e, if_pos e]
    exact h
  · rw [if_neg e, if_neg e]
    have hkW : k.toNatClampNeg < W := by
      rcases hk with hk | hk
      · exact absurd hk e
      · exact hk.2
    refine ⟨doA_congr h.1 (fun c hc => h.2 _ hkW c (by omega)) (hw.2 _ hkW) hw.1, fun j hj c hc => ?_⟩
    show va_up S.2 k.toNatClampNeg (va_up (S.2 k.toNatClampNeg) 4 1) j c = va_up S'.2 k.toNatClampNeg (va_up (S'.2 k.toNatClampNeg) 4 1) j c
    by_cases hjk : j = k.toNatClampNeg
    · rw [hjk, va_eq, va_eq]
      by_cases h4 : c = 4
      · rw [h4, va_eq, va_eq]
      · rw [va_ne _ _ h4, va_ne _ _ h4]
        exact h.2 _ hkW c hc
    · rw [va_ne _ _ hjk, va_ne _ _ hjk]
      exact h.2 j hj c hc
theorem yearA_wf {W : Nat} {S : S1} {k : Int32} (hw : WfS W S) : WfS W (yearA k S) := by
  unfold yearA
  by_cases e : k = -1
  · rw [if_pos e]
    exact hw
  · rw [if_neg e]
    have q := doA_L (work := S.2) (k := k.toNatClampNeg) hw.1
    refine ⟨q.2, fun j hj => ?_⟩
    refine ((hw.2 j hj).mono q.1).congr (fun c hc => ?_)
    show S.2 j c = va_up S.2 k.toNatClampNeg (va_up (S.2 k.toNatClampNeg) 4 1) j c
    by_cases hjk : j = k.toNatClampNeg
    · rw [← hjk, va_eq, va_ne _ _ (by omega)]
    · rw [va_ne _ _ hjk]
theorem costA_congr {W : Nat} {S S' : S1} {k G : Int32} {coins coins' : Nat → Int32} {good good' : Nat → Nat → Int32} (h : SEq W S S') (hw : WfS W S) (hk : okK W k) (hco : ∀ w, w < 3 → coins w = coins' w) (hg : ∀ g, g < G.toNatClampNeg → ∀ c, c < 3 → good g c = good' g c) : costA coins good G k S = costA coins' good' G k S' := by
  unfold costA
  rw [FrA_congr (yearA_congr h hw hk).1 hco hg]
  by_cases e : k = -1
  · rw [if_pos e, if_pos e]
  · rw [if_neg e, if_neg e]
    rcases hk with hk | hk
    · exact absurd hk e
    · rw [h.2 _ hk.2 3 (by decide)]
theorem frW_ok (w : Nat → Int32) (work : Nat → Nat → Int32) : ∀ K : Nat, K ≤ 1000 → (frW w work K).1 = -1 ∨ ((0 ≤ (frW w work K).1 ∧ (frW w work K).1.toNatClampNeg < K) ∧ work (frW w work K).1.toNatClampNeg 4 = 0)
  | 0, _ => Or.inl rfl
  | K + 1, hK => by
    have ih := frW_ok w work K (by omega)
    show (if work K 4 = 0 ∧ ¬ w K ≤ (frW w work K).2 then (Int32.ofNat K, w K) else frW w work K).1 = -1 ∨ ((0 ≤ (if work K 4 = 0 ∧ ¬ w K ≤ (frW w work K).2 then (Int32.ofNat K, w K) else frW w work K).1 ∧ (if work K 4 = 0 ∧ ¬ w K ≤ (frW w work K).2 then (Int32.ofNat K, w K) else frW w work K).1.toNatClampNeg < K + 1) ∧ work (if work K 4 = 0 ∧ ¬ w K ≤ (frW w work K).2 then (Int32.ofNat K, w K) else frW w work K).1.toNatClampNeg 4 = 0)
    by_cases h : work K 4 = 0 ∧ ¬ w K ≤ (frW w work K).2
    · rw [if_pos h]
      have ti : (Int32.ofNat K).toInt = (K : Int) := by
        rw [Int32.toInt_ofNat_of_lt (by omega)]
      have h0 : 0 ≤ Int32.ofNat K := Int32.le_iff_toInt_le.mpr (by rw [ti]; exact Int.natCast_nonneg K)
      have hn : (Int32.ofNat K).toNatClampNeg = K := by
        have := i32_cl h0
        omega
      refine Or.inr ⟨⟨h0, ?_⟩, ?_⟩
      · show (Int32.ofNat K).toNatClampNeg < K + 1
        omega
      · show work (Int32.ofNat K).toNatClampNeg 4 = 0
        rw [hn]
        exact h.1
    · rw [if_neg h]
      rcases ih with ih | ih
      · exact Or.inl ih
      · exact Or.inr ⟨⟨ih.1.1, by omega⟩, ih.2⟩
noncomputable def runA (coins : Nat → Int32) (good : Nat → Nat → Int32) (G W yr : Int32) : Nat → Int32 × S1 → Int32 × S1
  | 0, x => x
  | i + 1, x => ((runA coins good G W yr i x).1 + costA coins good G (FirA (runA coins good G W yr i x).2.1 coins good G (runA coins good G W yr i x).2.2 W yr) (runA coins good G W yr i x).2, yearA (FirA (runA coins good G W yr i x).2.1 coins good G (runA coins good G W yr i x).2.2 W yr) (runA coins good G W yr i x).2)
theorem runA_wf {coins : Nat → Int32} {good : Nat → Nat → Int32} {G W yr : Int32} {x : Int32 × S1} (h : WfS W.toNatClampNeg x.2) : ∀ i : Nat, WfS W.toNatClampNeg (runA coins good G W yr i x).2
  | 0 => h
  | i + 1 => yearA_wf (runA_wf h i)
theorem SEq.fir {S S' : S1} {coins coins' : Nat → Int32} {good good' : Nat → Nat → Int32} {G W yr : Int32} (h : SEq W.toNatClampNeg S S') (hw : WfS W.toNatClampNeg S) (hco : ∀ w, w < 3 → coins w = coins' w) (hg : ∀ g, g < G.toNatClampNeg → ∀ c, c < 3 → good g c = good' g c) : FirA S.1 coins good G S.2 W yr = FirA S'.1 coins' good' G S'.2 W yr := FirA_congr h.1 hw.1 hco hg h.2 hw.2
theorem FirA_ok {A : Ab} {coins : Nat → Int32} {good : Nat → Nat → Int32} {G W yr : Int32} {work : Nat → Nat → Int32} (hW : 0 ≤ W ∧ W ≤ 7) : okK W.toNatClampNeg (FirA A coins good G work W yr) := by
  have hK : W.toNatClampNeg ≤ 7 := nlt (M := 7) (N := 7) rfl hW
  rcases frW_ok (WoA A coins good G work yr) work W.toNatClampNeg (by omega) with h | h
  · exact Or.inl h
  · exact Or.inr h.1
/-- the reference's year -/
theorem goesR {n : Nat} {x0_shelf : (Nat → Int32)} {x0_rowSort : (Nat → Int32)} {x0_rowSize : (Nat → Int32)} {x0_rows : (Nat → Nat → Int64)} {x0_moved : (Nat → Int64)} {x0_shown : (Nat → Int32)} {x0_tape : (Nat → Int32)} {x0_tapeSize : Int32} {x0_refused : (Nat → Int32)} {x0_lines : Int32} {x0_line : (Nat → Nat → Int32)} {x0_changes : (Nat → Int32)} {x0_coins : (Nat → Int32)} {x0_goods : Int32} {x0_good : (Nat → Nat → Int32)} {x0_works : Int32} {x0_work : (Nat → Nat → Int32)} {x0_years : Int32} {x0_gone : Int32} {x0_spent : Int32} {x0_at : Int32} {x0_token : Int32} {x0_from : Int32} {x0_figures : Int64} {x0_fault : Int32} {x0_numbers : (Nat → Int32)} {x0_statements : Int32} {x0_left : (Nat → Int32)} {x0_far : (Nat → Int32)} {x0_tons : Int32} {x0_way : (Nat → Int32)} {x0_steps : Int32} {x0_met : Int64} {x0_queue : (Nat → Int32)} {x0_totals : (Nat → Int32)} {p1 : Int32} (hn : 1000000000000 ≤ n) (h_x0_shelf : (AI 0 2 x0_shelf)) (h_x0_rowSize : (AI 0 40 x0_rowSize)) (h_x0_tapeSize : (0 ≤ x0_tapeSize ∧ x0_tapeSize ≤ 250)) (h_x0_lines : (0 ≤ x0_lines ∧ x0_lines ≤ 20)) (h_x0_line : (LnM x0_line)) (h_x0_changes : (AI 0 99 x0_changes)) (h_x0_coins : (AI 0 9 x0_coins)) (h_x0_goods : (0 ≤ x0_goods ∧ x0_goods ≤ 8)) (h_x0_good : (GdM x0_good)) (h_x0_works : (0 ≤ x0_works ∧ x0_works ≤ 7)) (h_x0_work : (WkM x0_work)) (h_x0_years : (1 ≤ x0_years ∧ x0_years ≤ 30)) (h_x0_from : (0 ≤ x0_from ∧ x0_from ≤ 250)) (h_x0_far : (AI 0 1000000000 x0_far)) (h_x0_way : (AI 0 22 x0_way)) (h_x0_steps : (0 ≤ x0_steps ∧ x0_steps ≤ 37)) (h_x0_queue : (AI 0 35 x0_queue)) (hp : okK x0_works.toNatClampNeg p1) : Sf (fX7_goes n (x0_shelf, x0_rowSort, x0_rowSize, x0_rows, x0_moved, x0_shown, x0_tape, x0_tapeSize, x0_refused, x0_lines, x0_line, x0_changes, x0_coins, x0_goods, x0_good, x0_works, x0_work, x0_years, x0_gone, x0_spent, x0_at, x0_token, x0_from, x0_figures, x0_fault, x0_numbers, x0_statements, x0_left, x0_far, x0_tons, x0_way, x0_steps, x0_met, x0_queue, x0_totals) p1) (fun r => r.1 = costA x0_coins x0_good x0_goods p1 ((x0_lines, x0_line, x0_changes), x0_work) ∧ SEq x0_works.toNatClampNeg ((r.2.1, r.2.2.1, r.2.2.2.1), r.2.2.2.2.1) (yearA p1 ((x0_lines, x0_line, x0_changes), x0_work))) := by
  have h7 : x0_works.toNatClampNeg ≤ 7 := nlt (M := 7) (N := 7) rfl h_x0_works
  unfold fX7_goes
  dsimp only [u35]
  refine Sf.ite (fun hc => ?_) (fun hc => ?_)
  · unfold fX7_goes_j17
    rw [if_pos hc]
    unfold fX7_goes_j28
    refine Sf.bind (freeR hn h_x0_shelf h_x0_rowSize h_x0_tapeSize h_x0_lines h_x0_line h_x0_changes h_x0_coins h_x0_goods h_x0_good h_x0_works h_x0_work h_x0_years h_x0_from h_x0_far h_x0_way h_x0_steps h_x0_queue) ?_
    rintro ⟨v6, g7, g8, g9⟩ e6
    have e6 : v6 = FrA (x0_lines, x0_line, x0_changes) x0_coins x0_good x0_goods := e6
    have ey : yearA p1 ((x0_lines, x0_line, x0_changes), x0_work) = ((x0_lines, x0_line, x0_changes), x0_work) := if_pos hc
    refine Sf.ok ⟨?_, ?_⟩
    · show 0 + v6 = _
      unfold costA
      rw [if_pos hc, ey, e6]
    · rw [ey]
      exact SEq.refl _
  · have hp2 : 0 ≤ p1 ∧ p1.toNatClampNeg < x0_works.toNatClampNeg := by
      rcases hp with hp | hp
      · exact absurd hp hc
      · exact hp
    have hp6 : 0 ≤ p1 ∧ p1 ≤ 6 := by
      refine ⟨hp2.1, Int32.le_iff_toInt_le.mpr ?_⟩
      have a := i32_cl hp2.1
      have e : (6 : Int32).toInt = 6 := by decide
      omega
    refine Sf.ckb 7 rfl ⟨hp6.1, Int32.lt_of_le_of_lt hp6.2 (by decide)⟩ (fun q16 e16 _ => ?_)
    refine Sf.rdl 3 rfl rfl (fun v17 e17 => ?_)
    rw [e16] at e17
    unfold fX7_goes_j17
    rw [if_neg hc]
    refine Sf.bind (Sf.and (sX7_does h_x0_shelf h_x0_rowSize h_x0_tapeSize h_x0_lines h_x0_line h_x0_changes h_x0_coins h_x0_goods h_x0_good h_x0_works h_x0_work h_x0_years h_x0_from h_x0_far h_x0_way h_x0_steps h_x0_queue hp6) (doesR h_x0_lines h_x0_work hp6)) ?_
    rintro ⟨g11, g12, g13, g14⟩ ⟨⟨d1, d2, d3, d4, _⟩, e11, e14⟩
    have e14 : g14 = _ := e14
    have e11 : AbEq (g11, g12, g13) _ := e11
    try dsimp only [u4]
    unfold fX7_goes_j28
    refine Sf.bind (freeR hn h_x0_shelf h_x0_rowSize h_x0_tapeSize d1 d2 d3 h_x0_coins h_x0_goods h_x0_good h_x0_works d4 h_x0_years h_x0_from h_x0_far h_x0_way h_x0_steps h_x0_queue) ?_
    rintro ⟨v6, g7, g8, g9⟩ e6
    have e6 : v6 = FrA (g11, g12, g13) x0_coins x0_good x0_goods := e6
    have ey : yearA p1 ((x0_lines, x0_line, x0_changes), x0_work) = (doA x0_work p1.toNatClampNeg (x0_lines, x0_line, x0_changes), va_up x0_work p1.toNatClampNeg (va_up (x0_work p1.toNatClampNeg) 4 1)) := if_neg hc
    refine Sf.ok ⟨?_, ?_⟩
    · show v17 + v6 = _
      unfold costA
      rw [if_neg hc, ey, e6, e17, FrA_congr e11 (fun _ _ => rfl) (fun _ _ _ _ => rfl)]
    · rw [ey]
      refine ⟨e11, fun k _ c _ => ?_⟩
      show g14 k c = _
      rw [e14]
end

/-! the class's search: a pass over the lines -/
def A6 (A : Nat → Int32) : Prop := ∀ v : Nat, v < 36 → 0 ≤ A v ∧ A v ≤ 1000000
theorem A6.up {A : Nat → Int32} {i : Nat} {x : Int32} (h : A6 A) (hx : 0 ≤ x ∧ x ≤ 1000000) : A6 (va_up A i x) := by
  intro v hv
  by_cases hvi : v = i
  · subst hvi; rw [va_up_self]; exact hx
  · rw [va_up_ne _ _ hvi]; exact h v hv
def NL (eA eB eC T A0 : Nat → Int32) (z2 z3 : Int32) (A : Nat → Int32) : Prop :=
  (z2 = 0 ∨ z2 = 1) ∧ 0 ≤ z3 ∧ A6 A ∧ (∀ v, v < 36 → (T v).toInt ≤ (A v).toInt ∧ (A v).toInt ≤ (A0 v).toInt) ∧
  (∀ e, e < z3.toNatClampNeg → (A (eB e).toNatClampNeg).toInt ≤ (A0 (eA e).toNatClampNeg).toInt + (eC e).toInt ∧ (A (eA e).toNatClampNeg).toInt ≤ (A0 (eB e).toNatClampNeg).toInt + (eC e).toInt) ∧
  (z2 = 0 → A = A0)
theorem NL.rlx {eA eB eC T A0 A : Nat → Int32} {z2 z3 x c : Int32} {i j : Nat} (h : NL eA eB eC T A0 z2 z3 A) (hi : i < 36) (hj : j < 36) (hc : 0 ≤ c ∧ c ≤ 1000) (hT : (T i).toInt ≤ (T j).toInt + c.toInt) (hx : x = A j + c) (hlt : ¬ A i ≤ x) (hz0 : 0 ≤ z3 + 1) (hz : (z3 + 1).toNatClampNeg = z3.toNatClampNeg + 1) (hce : eC z3.toNatClampNeg = c) (hij : ((eA z3.toNatClampNeg).toNatClampNeg = i ∧ (eB z3.toNatClampNeg).toNatClampNeg = j) ∨ ((eB z3.toNatClampNeg).toNatClampNeg = i ∧ (eA z3.toNatClampNeg).toNatClampNeg = j)) : NL eA eB eC T A0 1 (z3 + 1) (va_up A i x) := by
  obtain ⟨h1, h2, h3, h4, h5, h6⟩ := h
  have z0 : (0 : Int32).toInt = 0 := by decide
  have zm : (1000000 : Int32).toInt = 1000000 := by decide
  have z1 : (1000 : Int32).toInt = 1000 := by decide
  have aj := i32_b (h3 j hj)
  have ai := i32_b (h3 i hi)
  have ac := i32_b hc
  rw [z0, zm] at aj ai
  rw [z0, z1] at ac
  have ex : x.toInt = (A j).toInt + c.toInt := by rw [hx]; exact i32_add (by omega) (by omega)
  have hl := Int32.lt_iff_toInt_lt.mp (Int32.not_le.mp hlt)
  have hne : j ≠ i := by intro e; subst e; omega
  have x0 : 0 ≤ x := Int32.le_iff_toInt_le.mpr (by rw [ex, z0]; omega)
  have x1 : x ≤ 1000000 := Int32.le_iff_toInt_le.mpr (by rw [zm]; omega)
  have hu : ∀ v : Nat, (va_up A i x v).toInt ≤ (A v).toInt := by
    intro v
    by_cases hv : v = i
    · subst hv; rw [va_up_self]; omega
    · rw [va_up_ne _ _ hv]; exact Int.le_refl _
  have ti := h4 i hi
  have tj := h4 j hj
  refine ⟨Or.inr rfl, hz0, A6.up h3 ⟨x0, x1⟩, fun v hv => ?_, fun e he => ?_, fun h => absurd h (by decide)⟩
  · by_cases hvi : v = i
    · subst hvi; rw [va_up_self]; omega
    · rw [va_up_ne _ _ hvi]; exact h4 v hv
  · rw [hz] at he
    by_cases hlt2 : e < z3.toNatClampNeg
    · have q := h5 e hlt2
      have qa := hu (eB e).toNatClampNeg
      have qb := hu (eA e).toNatClampNeg
      omega
    · have ee : e = z3.toNatClampNeg := by omega
      subst ee
      rw [hce]
      rcases hij with ⟨ha, hb⟩ | ⟨hb, ha⟩
      · rw [ha, hb, va_up_self, va_up_ne _ _ hne]; omega
      · rw [ha, hb, va_up_self, va_up_ne _ _ hne]; omega
def NLq (eA eB eC T A0 : Nat → Int32) (ec : Nat) (r : Int32 × (Nat → Int32)) : Prop :=
  (r.1 = 0 ∨ r.1 = 1) ∧ A6 r.2 ∧ (∀ v, v < 36 → (T v).toInt ≤ (r.2 v).toInt ∧ (r.2 v).toInt ≤ (A0 v).toInt) ∧
  (∀ e, e < ec → (r.2 (eB e).toNatClampNeg).toInt ≤ (A0 (eA e).toNatClampNeg).toInt + (eC e).toInt ∧ (r.2 (eA e).toNatClampNeg).toInt ≤ (A0 (eB e).toNatClampNeg).toInt + (eC e).toInt) ∧
  (r.1 = 0 → r.2 = A0)
theorem NLs {eA eB eC T A0 z4 : Nat → Int32} {ec z2 z3 : Int32} (hA : AI 0 35 eA) (hB : AI 0 35 eB) (hec : 0 ≤ ec ∧ ec ≤ 60) (hC : ∀ e, e < ec.toNatClampNeg → 0 ≤ eC e ∧ eC e ≤ 1000) (hT : ∀ e, e < ec.toNatClampNeg → (T (eA e).toNatClampNeg).toInt ≤ (T (eB e).toNatClampNeg).toInt + (eC e).toInt ∧ (T (eB e).toNatClampNeg).toInt ≤ (T (eA e).toNatClampNeg).toInt + (eC e).toInt) (h : NL eA eB eC T A0 z2 z3 z4) : Sf (fX5_nearByLines_s4 eA eB eC ec z2 z3 z4) (LQ (u3 (NL eA eB eC T A0)) (u3 (fun z2 z3 z4 => muUp z3)) (muUp z3) (NLq eA eB eC T A0 ec.toNatClampNeg)) := by
  have hh := h
  obtain ⟨h1, h2, h3, h4, h5, h6⟩ := hh
  unfold fX5_nearByLines_s4
  refine Sf.ite (fun hc1 => ?_) (fun hc1 => ?_)
  · refine Sf.inr ⟨h1, h3, h4, fun e he => h5 e ?_, h6⟩
    have a := i32_cl h2
    have b := i32_cl hec.1
    have c := Int32.le_iff_toInt_le.mp hc1
    omega
  · obtain ⟨p0, p1, p2⟩ := up1 h2 (Int32.le_trans hec.2 (by decide)) hc1
    have he0 : z3.toNatClampNeg < ec.toNatClampNeg := by
      have a := i32_cl h2
      have b := i32_cl hec.1
      have c := Int32.lt_iff_toInt_lt.mp p2
      omega
    have hi : 0 ≤ z3 ∧ z3 < 60 := ⟨h2, Int32.lt_of_lt_of_le p2 hec.2⟩
    refine Sf.rdb 60 rfl hi (fun v9 e9 => ?_)
    refine Sf.rdb 60 rfl hi (fun v10 e10 => ?_)
    refine Sf.rdb 60 rfl hi (fun v11 e11 => ?_)
    have b9 : 0 ≤ v9 ∧ v9 ≤ 35 := by rw [e9]; exact hA _
    have b10 : 0 ≤ v10 ∧ v10 ≤ 35 := by rw [e10]; exact hB _
    have b11 : 0 ≤ v11 ∧ v11 ≤ 1000 := by rw [e11]; exact hC _ he0
    have i9 : 0 ≤ v9 ∧ v9 < 36 := ⟨b9.1, Int32.lt_of_le_of_lt b9.2 (by decide)⟩
    have i10 : 0 ≤ v10 ∧ v10 < 36 := ⟨b10.1, Int32.lt_of_le_of_lt b10.2 (by decide)⟩
    have n9 : v9.toNatClampNeg < 36 := i32_lt (M := 36) rfl i9
    have n10 : v10.toNatClampNeg < 36 := i32_lt (M := 36) rfl i10
    have t := hT _ he0
    rw [← e9, ← e10, ← e11] at t
    refine Sf.rdb 36 rfl i9 (fun v12 e12 => ?_)
    refine Sf.rdb 36 rfl i10 (fun v13 e13 => ?_)
    refine Sf.ite (fun hc2 => ?_) (fun hc2 => ?_)
    · refine Sf.rdb 36 rfl i10 (fun v14 e14 => ?_)
      refine Sf.rdb 36 rfl i9 (fun v15 e15 => ?_)
      refine Sf.ite (fun hc5 => ?_) (fun hc5 => ?_)
      · refine Sf.inl (show NL eA eB eC T A0 z2 (z3 + 1) z4 from ?_) (muUp_lt hc1)
        refine ⟨h1, p0, h3, h4, fun e he => ?_, h6⟩
        rw [p1] at he
        by_cases hl : e < z3.toNatClampNeg
        · exact h5 e hl
        · have ee : e = z3.toNatClampNeg := by omega
          subst ee
          rw [← e9, ← e10, ← e11]
          have z0 : (0 : Int32).toInt = 0 := by decide
          have zm : (1000000 : Int32).toInt = 1000000 := by decide
          have z1 : (1000 : Int32).toInt = 1000 := by decide
          have a12 := i32_b (h3 v9.toNatClampNeg n9)
          have a13 := i32_b (h3 v10.toNatClampNeg n10)
          have a11 := i32_b b11
          rw [z0, zm] at a12 a13
          rw [z0, z1] at a11
          rw [e13, e12] at hc2
          rw [e14, e15] at hc5
          have q1 := Int32.le_iff_toInt_le.mp hc2
          have q2 := Int32.le_iff_toInt_le.mp hc5
          rw [i32_add (by omega) (by omega)] at q1 q2
          have r9 := h4 _ n9
          have r10 := h4 _ n10
          omega
      · refine Sf.rdb 36 rfl i10 (fun v16 e16 => ?_)
        refine Sf.wrb 36 rfl i9 (fun f17 e17 => ?_)
        refine Sf.inl ?_ (muUp_lt hc1)
        rw [e17]
        refine NL.rlx h n9 n10 b11 t.1 (by rw [e16]) ?_ p0 p1 e11.symm (Or.inl ⟨by rw [e9], by rw [e10]⟩)
        rw [e16, ← e14, ← e15]
        exact hc5
    · refine Sf.rdb 36 rfl i9 (fun v18 e18 => ?_)
      refine Sf.wrb 36 rfl i10 (fun f19 e19 => ?_)
      refine Sf.inl ?_ (muUp_lt hc1)
      rw [e19]
      refine NL.rlx h n10 n9 b11 t.2 (by rw [e18]) ?_ p0 p1 e11.symm (Or.inr ⟨by rw [e10], by rw [e9]⟩)
      rw [e18, ← e12, ← e13]
      exact hc2
theorem NLf {n : Nat} {eA eB eC eL chg T A0 st nd op : Nat → Int32} {sc oc ec am : Int32} {sn : Int64} (hn : 1000000000000 ≤ n) (hA : AI 0 35 eA) (hB : AI 0 35 eB) (hec : 0 ≤ ec ∧ ec ≤ 60) (hC : ∀ e, e < ec.toNatClampNeg → 0 ≤ eC e ∧ eC e ≤ 1000) (hT : ∀ e, e < ec.toNatClampNeg → (T (eA e).toNatClampNeg).toInt ≤ (T (eB e).toNatClampNeg).toInt + (eC e).toInt ∧ (T (eB e).toNatClampNeg).toInt ≤ (T (eA e).toNatClampNeg).toInt + (eC e).toInt) (h0 : A6 A0) (hT0 : ∀ v, v < 36 → (T v).toInt ≤ (A0 v).toInt) : Sf (fX5_nearByLines n (eA, eB, eC, eL, chg, A0, st, nd, sc, op, oc, sn, ec, am)) (NLq eA eB eC T A0 ec.toNatClampNeg) := by
  unfold fX5_nearByLines
  dsimp only [u14]
  refine Sf.bind (Sf.loop3 (NL eA eB eC T A0) (fun z2 z3 z4 => muUp z3) (fun z2 z3 z4 h => NLs hA hB hec hC hT h) (show NL eA eB eC T A0 0 0 A0 from ⟨Or.inl rfl, Int32.le_refl 0, h0, fun v hv => ⟨hT0 v hv, Int.le_refl _⟩, fun e he => absurd he (Nat.not_lt_zero e), fun _ => rfl⟩) (muUp_n hn)) ?_
  rintro ⟨w6, w7⟩ hr
  dsimp only [u2]
  refine Sf.zbb hr.1 (fun v8 e8 => ?_)
  rw [e8]
  exact Sf.ok hr

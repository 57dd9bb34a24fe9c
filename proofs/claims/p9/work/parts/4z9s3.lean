/-! the class's search: a pass over the changes -/
def C12 (chg : Nat → Int32) : Prop := ∀ p : Nat, p < 12 → 0 ≤ chg p ∧ chg p ≤ 99
theorem ix3' {p w : Int32} (hp : 0 ≤ p ∧ p ≤ 11) (hw : 0 ≤ w ∧ w < 3) : (0 ≤ p * 3 + w ∧ p * 3 + w < 36) ∧ (p * 3 + w).toNatClampNeg = 3 * p.toNatClampNeg + w.toNatClampNeg := by
  rw [Int32.mul_comm p 3]
  exact ix3 hp hw
theorem c3 {z : Int32} (h0 : 0 ≤ z) (h : 3 ≤ z) {w : Nat} (hw : w < 3) : w < z.toNatClampNeg := by
  have a := i32_cl h0
  have b := Int32.le_iff_toInt_le.mp h
  have e : (3 : Int32).toInt = 3 := by decide
  omega
def NM (A : Nat → Int32) (p : Nat) (z8 z9 : Int32) : Prop := 0 ≤ z9 ∧ (∀ w : Nat, w < z9.toNatClampNeg → z8 ≤ A (3 * p + w)) ∧ ∃ w : Nat, w < 3 ∧ z8 = A (3 * p + w)
theorem NC1 {n : Nat} {z2 v6 : Int32} {A : Nat → Int32} (hn : 1000000000000 ≤ n) (hp : 0 ≤ z2 ∧ z2 ≤ 11) (e6 : v6 = A (3 * z2.toNatClampNeg + 0)) : Sf (lp (u2 (fX5_nearByChanges_s22 z2 A)) n (v6, 1)) (fun r => (∀ w : Nat, w < 3 → r ≤ A (3 * z2.toNatClampNeg + w)) ∧ ∃ w : Nat, w < 3 ∧ r = A (3 * z2.toNatClampNeg + w)) := by
  refine Sf.loop2 (NM A z2.toNatClampNeg) (fun z8 z9 => muUp z9) (fun z8 z9 h => ?_) (show NM A z2.toNatClampNeg v6 1 from ⟨by decide, fun w hw => ?_, 0, by decide, e6⟩) (muUp_n hn)
  · obtain ⟨h9, hl, hx⟩ := h
    unfold fX5_nearByChanges_s22
    refine Sf.ite (fun hc => ?_) (fun hc => ?_)
    · exact Sf.inr ⟨fun w hw => hl w (c3 h9 hc hw), hx⟩
    · obtain ⟨p0, p1, p2⟩ := up1 h9 (by decide) hc
      obtain ⟨hi, he⟩ := ix3' hp ⟨h9, p2⟩
      refine Sf.rdb 36 rfl hi (fun v20 e20 => ?_)
      rw [he] at e20
      refine Sf.ite (fun hc2 => ?_) (fun hc2 => ?_)
      · refine Sf.inl (show NM A z2.toNatClampNeg z8 (z9 + 1) from ⟨p0, fun w hw => ?_, hx⟩) (muUp_lt hc)
        rw [p1] at hw
        by_cases hlt : w < z9.toNatClampNeg
        · exact hl w hlt
        · have ew : w = z9.toNatClampNeg := by omega
          subst ew
          rw [← e20]
          exact hc2
      · refine Sf.rdb 36 rfl hi (fun v21 e21 => ?_)
        rw [he] at e21
        refine Sf.inl (show NM A z2.toNatClampNeg v21 (z9 + 1) from ⟨p0, fun w hw => ?_, z9.toNatClampNeg, (w_of ⟨h9, p2⟩).2, e21⟩) (muUp_lt hc)
        rw [p1] at hw
        have hle : v21 ≤ z8 := by rw [e21, ← e20]; exact Int32.le_of_lt (Int32.not_le.mp hc2)
        by_cases hlt : w < z9.toNatClampNeg
        · exact Int32.le_trans hle (hl w hlt)
        · have ew : w = z9.toNatClampNeg := by omega
          subst ew
          rw [e21]
          exact Int32.le_refl _
  · have e1 : (1 : Int32).toNatClampNeg = 1 := by decide
    have hw : w < (1 : Int32).toNatClampNeg := hw
    have ew : w = 0 := by omega
    subst ew
    rw [e6]
    exact Int32.le_refl _
/-- within a place: what is more than x becomes x -/
def NI (T B : Nat → Int32) (p : Nat) (m x : Int32) (z : Int32) (A : Nat → Int32) : Prop :=
  0 ≤ z ∧ A6 A ∧ (∀ v, v < 36 → (T v).toInt ≤ (A v).toInt ∧ (A v).toInt ≤ (B v).toInt) ∧ (∀ w : Nat, w < z.toNatClampNeg → w < 3 → A (3 * p + w) ≤ x) ∧ (∀ v, v < 36 → v / 3 ≠ p → A v = B v) ∧ ∀ w : Nat, w < 3 → m ≤ A (3 * p + w)
theorem NC2 {n : Nat} {T B : Nat → Int32} {z2 m c x : Int32} (hn : 1000000000000 ≤ n) (hp : 0 ≤ z2 ∧ z2 ≤ 11) (hx : x = m + c) (hx0 : 0 ≤ x ∧ x ≤ 1100000) (hm : m ≤ x) (hB : A6 B) (hTB : ∀ v, v < 36 → (T v).toInt ≤ (B v).toInt) (hTx : ∀ w : Nat, w < 3 → (T (3 * z2.toNatClampNeg + w)).toInt ≤ x.toInt) (hmB : ∀ w : Nat, w < 3 → m ≤ B (3 * z2.toNatClampNeg + w)) : Sf (lp (u2 (fX5_nearByChanges_s70 z2 m c)) n (0, B)) (fun A => A6 A ∧ (∀ v, v < 36 → (T v).toInt ≤ (A v).toInt ∧ (A v).toInt ≤ (B v).toInt) ∧ (∀ w : Nat, w < 3 → A (3 * z2.toNatClampNeg + w) ≤ x) ∧ (∀ v, v < 36 → v / 3 ≠ z2.toNatClampNeg → A v = B v) ∧ ∀ w : Nat, w < 3 → m ≤ A (3 * z2.toNatClampNeg + w)) := by
  refine Sf.loop2 (NI T B z2.toNatClampNeg m x) (fun z14 z15 => muUp z14) (fun z14 A h => ?_) (show NI T B z2.toNatClampNeg m x 0 B from ⟨Int32.le_refl 0, hB, fun v hv => ⟨hTB v hv, Int.le_refl _⟩, fun w hw => absurd hw (Nat.not_lt_zero w), fun v _ _ => rfl, hmB⟩) (muUp_n hn)
  obtain ⟨h0, h1, h2, h3, h4, h5⟩ := h
  unfold fX5_nearByChanges_s70
  refine Sf.ite (fun hc => ?_) (fun hc => ?_)
  · exact Sf.inr ⟨h1, h2, fun w hw => h3 w (c3 h0 hc hw) hw, h4, h5⟩
  · obtain ⟨p0, p1, p2⟩ := up1 h0 (by decide) hc
    obtain ⟨hi, he⟩ := ix3' hp ⟨h0, p2⟩
    have hw3 : z14.toNatClampNeg < 3 := (w_of ⟨h0, p2⟩).2
    have hp12 := p_of hp
    refine Sf.rdb 36 rfl hi (fun v18 e18 => ?_)
    rw [he] at e18
    rw [← hx]
    refine Sf.ite (fun hc2 => ?_) (fun hc2 => ?_)
    · refine Sf.inl (show NI T B z2.toNatClampNeg m x (z14 + 1) A from ⟨p0, h1, h2, fun w hw hw2 => ?_, h4, h5⟩) (muUp_lt hc)
      rw [p1] at hw
      by_cases hlt : w < z14.toNatClampNeg
      · exact h3 w hlt hw2
      · have ew : w = z14.toNatClampNeg := by omega
        subst ew
        rw [← e18]
        exact hc2
    · refine Sf.wrb 36 rfl hi (fun f19 e19 => ?_)
      rw [he] at e19
      subst e19
      have hl := Int32.lt_iff_toInt_lt.mp (Int32.not_le.mp hc2)
      rw [e18] at hl
      have hx1 : x ≤ 1000000 := by
        have a := i32_b (h1 (3 * z2.toNatClampNeg + z14.toNatClampNeg) (by omega))
        exact Int32.le_iff_toInt_le.mpr (by omega)
      refine Sf.inl (show NI T B z2.toNatClampNeg m x (z14 + 1) (va_up A (3 * z2.toNatClampNeg + z14.toNatClampNeg) x) from ⟨p0, A6.up h1 ⟨hx0.1, hx1⟩, fun v hv => ?_, fun w hw hw2 => ?_, fun v hv hne => ?_, fun w hw => ?_⟩) (muUp_lt hc)
      · by_cases hvi : v = 3 * z2.toNatClampNeg + z14.toNatClampNeg
        · subst hvi
          rw [va_up_self]
          have a := hTx z14.toNatClampNeg hw3
          have b := h2 _ hv
          omega
        · rw [va_up_ne _ _ hvi]
          exact h2 v hv
      · by_cases hvi : 3 * z2.toNatClampNeg + w = 3 * z2.toNatClampNeg + z14.toNatClampNeg
        · rw [hvi, va_up_self]
          exact Int32.le_refl _
        · rw [va_up_ne _ _ hvi]
          rw [p1] at hw
          exact h3 w (by omega) hw2
      · have hvi : v ≠ 3 * z2.toNatClampNeg + z14.toNatClampNeg := by omega
        rw [va_up_ne _ _ hvi]
        exact h4 v hv hne
      · by_cases hvi : 3 * z2.toNatClampNeg + w = 3 * z2.toNatClampNeg + z14.toNatClampNeg
        · rw [hvi, va_up_self]
          exact hm
        · rw [va_up_ne _ _ hvi]
          exact h5 w hw
def NO (chg T B : Nat → Int32) (z : Int32) (A : Nat → Int32) : Prop :=
  (0 ≤ z ∧ z ≤ 12) ∧ A6 A ∧ (∀ v, v < 36 → (T v).toInt ≤ (A v).toInt ∧ (A v).toInt ≤ (B v).toInt) ∧ (∀ v, v < 36 → z.toNatClampNeg ≤ v / 3 → A v = B v) ∧
  ∀ p : Nat, p < z.toNatClampNeg → p < 12 → ∀ w w' : Nat, w < 3 → w' < 3 → (A (3 * p + w)).toInt ≤ (B (3 * p + w')).toInt + (chg p).toInt ∧ (A (3 * p + w)).toInt ≤ (A (3 * p + w')).toInt + (chg p).toInt
theorem NCf {n : Nat} {eA eB eC eL chg T B st nd op : Nat → Int32} {sc oc ec am : Int32} {sn : Int64} (hn : 1000000000000 ≤ n) (hch : C12 chg) (hB : A6 B) (hTB : ∀ v, v < 36 → (T v).toInt ≤ (B v).toInt) (hTc : ∀ p : Nat, p < 12 → ∀ w w' : Nat, w < 3 → w' < 3 → (T (3 * p + w)).toInt ≤ (T (3 * p + w')).toInt + (chg p).toInt) : Sf (fX5_nearByChanges n (eA, eB, eC, eL, chg, B, st, nd, sc, op, oc, sn, ec, am)) (fun A => A6 A ∧ (∀ v, v < 36 → (T v).toInt ≤ (A v).toInt ∧ (A v).toInt ≤ (B v).toInt) ∧ ∀ p : Nat, p < 12 → ∀ w w' : Nat, w < 3 → w' < 3 → (A (3 * p + w)).toInt ≤ (B (3 * p + w')).toInt + (chg p).toInt ∧ (A (3 * p + w)).toInt ≤ (A (3 * p + w')).toInt + (chg p).toInt) := by
  unfold fX5_nearByChanges
  dsimp only [u14]
  refine Sf.bind (P := fun A => A6 A ∧ (∀ v, v < 36 → (T v).toInt ≤ (A v).toInt ∧ (A v).toInt ≤ (B v).toInt) ∧ ∀ p : Nat, p < 12 → ∀ w w' : Nat, w < 3 → w' < 3 → (A (3 * p + w)).toInt ≤ (B (3 * p + w')).toInt + (chg p).toInt ∧ (A (3 * p + w)).toInt ≤ (A (3 * p + w')).toInt + (chg p).toInt) ?_ (fun A h => Sf.ok h)
  refine Sf.loop2 (NO chg T B) (fun z2 z3 => muUp z2) (fun z2 A h => ?_) (show NO chg T B 0 B from ⟨⟨by decide, by decide⟩, hB, fun v hv => ⟨hTB v hv, Int.le_refl _⟩, fun v _ _ => rfl, fun p hp => absurd hp (Nat.not_lt_zero p)⟩) (muUp_n hn)
  obtain ⟨h0, h1, h2, h3, h4⟩ := h
  unfold fX5_nearByChanges_s2
  refine Sf.ite (fun hc => ?_) (fun hc => ?_)
  · refine Sf.inr ⟨h1, h2, fun p hp => h4 p ?_ hp⟩
    have a := i32_cl h0.1
    have b := Int32.le_iff_toInt_le.mp hc
    have e : (12 : Int32).toInt = 12 := by decide
    omega
  · obtain ⟨p0, p1, p2⟩ := up1 h0.1 (by decide) hc
    have hp : 0 ≤ z2 ∧ z2 ≤ 11 := by clear h1 h2 h3 h4; grind
    have hp12 := p_of hp
    obtain ⟨hi, he⟩ := ix3' hp (w := 0) ⟨by decide, by decide⟩
    have ez : z2 * 3 + 0 = z2 * 3 := by grind
    have en : (0 : Int32).toNatClampNeg = 0 := by decide
    rw [ez] at hi he
    rw [en] at he
    have hi0 := hi
    have he0 := he
    refine Sf.rdb 36 rfl hi0 (fun v6 e6 => ?_)
    rw [he0] at e6
    refine Sf.bind (NC1 hn hp e6) ?_
    intro m hm
    obtain ⟨hm1, wm, hwm, hm2⟩ := hm
    refine Sf.rdb 12 rfl ⟨hp.1, p2⟩ (fun c ec_ => ?_)
    have bc : 0 ≤ c ∧ c ≤ 99 := by rw [ec_]; exact hch _ hp12
    have z0 : (0 : Int32).toInt = 0 := by decide
    have z9 : (99 : Int32).toInt = 99 := by decide
    have zm : (1000000 : Int32).toInt = 1000000 := by decide
    have zx : (1100000 : Int32).toInt = 1100000 := by decide
    have ac := i32_b bc
    have am_ : 0 ≤ m ∧ m ≤ 1000000 := by rw [hm2]; exact h1 _ (by omega)
    have am2 := i32_b am_
    rw [z0, z9] at ac
    rw [z0, zm] at am2
    have ex : (m + c).toInt = m.toInt + c.toInt := i32_add (by omega) (by omega)
    have hx0 : 0 ≤ m + c ∧ m + c ≤ 1100000 := ⟨Int32.le_iff_toInt_le.mpr (by rw [ex, z0]; omega), Int32.le_iff_toInt_le.mpr (by rw [ex, zx]; omega)⟩
    have hmx : m ≤ m + c := Int32.le_iff_toInt_le.mpr (by rw [ex]; omega)
    have hTx : ∀ w : Nat, w < 3 → (T (3 * z2.toNatClampNeg + w)).toInt ≤ (m + c).toInt := by
      intro w hw
      have a := hTc _ hp12 w wm hw hwm
      have b := h2 (3 * z2.toNatClampNeg + wm) (by omega)
      rw [ex, hm2, ec_]
      omega
    refine Sf.bind (NC2 (T := T) hn hp rfl hx0 hmx h1 (fun v hv => (h2 v hv).1) hTx hm1) ?_
    intro A2 hA2
    obtain ⟨k1, k2, k3, k4, k5⟩ := hA2
    refine Sf.inl (show NO chg T B (z2 + 1) A2 from ⟨⟨p0, ?_⟩, k1, fun v hv => ?_, fun v hv hz => ?_, fun p hpz hp2 w w' hw hw' => ?_⟩) (muUp_lt hc)
    · clear h1 h2 h3 h4 k1 k2 k3 k4 k5 hTx hm1 hm2 e6; grind
    · have a := h2 v hv
      have b := k2 v hv
      omega
    · rw [p1] at hz
      rw [k4 v hv (by omega)]
      exact h3 v hv (by omega)
    · rw [p1] at hpz
      by_cases hpe : p = z2.toNatClampNeg
      · subst hpe
        have a := Int32.le_iff_toInt_le.mp (k3 w hw)
        rw [ex] at a
        have b := Int32.le_iff_toInt_le.mp (hm1 w' hw')
        have c1 := h3 (3 * z2.toNatClampNeg + w') (by omega) (by omega)
        have d := Int32.le_iff_toInt_le.mp (k5 w' hw')
        rw [← c1, ← ec_]
        omega
      · have q := h4 p (by omega) hp2 w w' hw hw'
        rw [k4 (3 * p + w) (by omega) (by omega), k4 (3 * p + w') (by omega) (by omega)]
        exact q

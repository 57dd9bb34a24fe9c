/-! next() and look() -/
def TkQ (b : Nat → Int32) (sz en s e t : Int32) (no : Prop) (val : Nat → Nat → Prop) : Prop :=
  ((0 ≤ s ∧ s ≤ sz) ∧ Adv (fun i => b i = 32) sz.toNatClampNeg en.toNatClampNeg s.toNatClampNeg) ∧
  ((s = sz ∧ t = 0 ∧ e = s ∧ no) ∨ (s < sz ∧ t = tkc (b s.toNatClampNeg) ∧
    ((t = 1 ∧ (0 ≤ e ∧ e ≤ sz) ∧ Adv (fun i => tkc (b i) = 1) sz.toNatClampNeg (s.toNatClampNeg + 1) e.toNatClampNeg ∧ no) ∨
     (t = 2 ∧ (0 ≤ e ∧ e ≤ sz) ∧ Adv (fun i => tkc (b i) = 2) sz.toNatClampNeg (s.toNatClampNeg + 1) e.toNatClampNeg ∧ val s.toNatClampNeg e.toNatClampNeg) ∨
     (¬ t = 1 ∧ ¬ t = 2 ∧ e = s + 1 ∧ no))))
theorem nn_inj {a b : Int32} (ha : 0 ≤ a) (hb : 0 ≤ b) (h : a.toNatClampNeg = b.toNatClampNeg) : a = b := by
  refine Int32.toInt_inj.mp ?_
  have x := i32_cl ha
  have y := i32_cl hb
  omega
theorem TkQ_eq {b : Nat → Int32} {sz en s e t s' e' t' : Int32} {no no' : Prop} {val val' : Nat → Nat → Prop} (h : TkQ b sz en s e t no val) (h' : TkQ b sz en s' e' t' no' val') : s = s' ∧ e = e' ∧ t = t' ∧ ((¬ t = 2 ∧ no ∧ no') ∨ (t = 2 ∧ val s.toNatClampNeg e.toNatClampNeg ∧ val' s.toNatClampNeg e.toNatClampNeg ∧ s < sz ∧ (∀ i, s.toNatClampNeg ≤ i → i < e.toNatClampNeg → tkc (b i) = 2))) := by
  obtain ⟨⟨a1, a2⟩, a3⟩ := h
  obtain ⟨⟨b1, b2⟩, b3⟩ := h'
  have es : s = s' := nn_inj a1.1 b1.1 (Adv.uniq a2 b2)
  subst es
  rcases a3 with ⟨x1, x2, x3, x4⟩ | ⟨x1, x2, x3⟩ <;> rcases b3 with ⟨y1, y2, y3, y4⟩ | ⟨y1, y2, y3⟩
  · exact ⟨rfl, by rw [x3, y3], by rw [x2, y2], Or.inl ⟨by rw [x2]; decide, x4, y4⟩⟩
  · rw [x1] at y1; exact (Int32.lt_irrefl y1).elim
  · rw [y1] at x1; exact (Int32.lt_irrefl x1).elim
  · have et : t = t' := by rw [x2, y2]
    subst et
    rcases x3 with ⟨c1, c2, c3, c4⟩ | ⟨c1, c2, c3, c4⟩ | ⟨c1, c2, c3, c4⟩ <;> rcases y3 with ⟨d1, d2, d3, d4⟩ | ⟨d1, d2, d3, d4⟩ | ⟨d1, d2, d3, d4⟩
    · exact ⟨rfl, nn_inj c2.1 d2.1 (Adv.uniq c3 d3), rfl, Or.inl ⟨by rw [c1]; decide, c4, d4⟩⟩
    · rw [c1] at d1; exact absurd d1 (by decide)
    · exact absurd c1 d1
    · rw [c1] at d1; exact absurd d1 (by decide)
    · have ee : e = e' := nn_inj c2.1 d2.1 (Adv.uniq c3 d3)
      subst ee
      refine ⟨rfl, rfl, rfl, Or.inr ⟨c1, c4, d4, x1, fun i h1 h2 => ?_⟩⟩
      by_cases hi : i = s.toNatClampNeg
      · rw [hi, ← x2, c1]
      · exact c3.2.2.1 i (by omega) h2
    · exact absurd c1 d2
    · exact absurd d1 c1
    · exact absurd d1 c2
    · exact ⟨rfl, by rw [c3, d3], rfl, Or.inl ⟨c2, c4, d4⟩⟩
def VC (b : Nat → Int32) (v : Int32) (s e : Nat) : Prop := (e - s ≤ 3 ∧ v.toInt = dI b s (e - s)) ∨ (3 < e - s ∧ v = -1)
def VR (b : Nat → Int32) (f : Int64) (s e : Nat) : Prop := (e - s ≤ 3 ∧ f.toInt = dI b s (e - s)) ∨ (3 < e - s ∧ f = 100000)
theorem nextS {n : Nat} {x0_bytes : (Nat → Int32)} {x0_size : Int32} {x0_start : Int32} {x0_end : Int32} {x0_token : Int32} {x0_value : Int32} (hn : 1000000000000 ≤ n) (hs : 0 ≤ x0_size ∧ x0_size ≤ 250) (he : 0 ≤ x0_end ∧ x0_end ≤ x0_size) : Sf (fX3_next n (x0_bytes, x0_size, x0_start, x0_end, x0_token, x0_value)) (fun r => TkQ x0_bytes x0_size x0_end r.1 r.2.1 r.2.2.1 (r.2.2.2 = -1) (VC x0_bytes r.2.2.2)) := by
  unfold fX3_next
  dsimp only [u6]
  refine Sf.bind (advS (P := fun i => x0_bytes i = 32) hn hs he (fun z h0 h => ?_) (fun z h0 h => ?_)) ?_
  · unfold fX3_next_s5
    rw [if_pos h]
  · unfold fX3_next_s5
    rw [if_neg (Int32.not_le.mpr h)]
    obtain ⟨o, eo, ho⟩ : Sf ((rd 250 x0_bytes z).bind fun v23 => if v23 = 32 then (some (.inl (z + 1))) else (some (.inr z))) (fun r => r = if x0_bytes z.toNatClampNeg = 32 then (.inl (z + 1) : Int32 ⊕ Int32) else .inr z) := by
      refine Sf.rdb 250 rfl ⟨h0, Int32.lt_of_lt_of_le h hs.2⟩ (fun v e => ?_)
      rw [← e]
      exact Sf.ite (fun h => Sf.ok (by rw [if_pos h])) (fun h => Sf.ok (by rw [if_neg h]))
    rw [eo, ho]
    by_cases hh : x0_bytes z.toNatClampNeg = 32
    · exact Or.inl ⟨hh, by rw [if_pos hh]⟩
    · exact Or.inr ⟨hh, by rw [if_neg hh]⟩
  intro w4 ⟨hw, hA⟩
  have adv : ∀ (q v5 y7 : Int32), v5 = q → 0 ≤ y7 ∧ y7 ≤ x0_size → ∀ z, 0 ≤ z → (x0_size ≤ z → (if x0_size ≤ z then (some (.inr z)) else ((fX3_tokenAt (x0_bytes, x0_size, w4, x0_end, v5, x0_value) z).bind (fun v15 => if v15 = v5 then (some (.inl (z + 1))) else (some (.inr z)))) : Option (Int32 ⊕ Int32)) = some (.inr z)) ∧ (z < x0_size → (tkc (x0_bytes z.toNatClampNeg) = q ∧ (if x0_size ≤ z then (some (.inr z)) else ((fX3_tokenAt (x0_bytes, x0_size, w4, x0_end, v5, x0_value) z).bind (fun v15 => if v15 = v5 then (some (.inl (z + 1))) else (some (.inr z)))) : Option (Int32 ⊕ Int32)) = some (.inl (z + 1))) ∨ (¬ tkc (x0_bytes z.toNatClampNeg) = q ∧ (if x0_size ≤ z then (some (.inr z)) else ((fX3_tokenAt (x0_bytes, x0_size, w4, x0_end, v5, x0_value) z).bind (fun v15 => if v15 = v5 then (some (.inl (z + 1))) else (some (.inr z)))) : Option (Int32 ⊕ Int32)) = some (.inr z))) := by
    intro q v5 y7 hq hy z h0
    refine ⟨fun h => if_pos h, fun h => ?_⟩
    rw [if_neg (Int32.not_le.mpr h)]
    obtain ⟨o, eo, ho⟩ := tokAt (x0_bytes := x0_bytes) (x0_size := x0_size) (x0_start := w4) (x0_end := x0_end) (x0_token := v5) (x0_value := x0_value) (p := z) h0 hs.2
    rw [if_pos h] at ho
    rw [eo, ho, hq]
    show (tkc (x0_bytes z.toNatClampNeg) = q ∧ (if tkc (x0_bytes z.toNatClampNeg) = q then (some (.inl (z + 1)) : Option (Int32 ⊕ Int32)) else (some (.inr z))) = some (.inl (z + 1))) ∨ (¬ tkc (x0_bytes z.toNatClampNeg) = q ∧ (if tkc (x0_bytes z.toNatClampNeg) = q then (some (.inl (z + 1)) : Option (Int32 ⊕ Int32)) else (some (.inr z))) = some (.inr z))
    by_cases hh : tkc (x0_bytes z.toNatClampNeg) = q
    · exact Or.inl ⟨hh, if_pos hh⟩
    · exact Or.inr ⟨hh, if_neg hh⟩
  refine Sf.bind (tokAt hw.1 hs.2) (fun v5 e5 => ?_)
  refine Sf.ite (fun h0 => ?_) (fun h0 => ?_)
  · have hsz : ¬ w4 < x0_size := by
      intro h
      rw [if_pos h] at e5
      rcases tkc_r (x0_bytes w4.toNatClampNeg) with q | q | q | q <;> rw [e5, q] at h0 <;> exact absurd h0 (by decide)
    have ew : w4 = x0_size := Int32.le_antisymm hw.2 (Int32.not_lt.mp hsz)
    unfold fX3_next_j54
    rw [if_neg (by rw [h0]; decide), if_neg (by rw [h0]; decide)]
    unfold fX3_next_j96
    rw [if_neg (by rw [h0]; decide)]
    exact Sf.ok ⟨⟨hw, hA⟩, Or.inl ⟨ew, h0, rfl, rfl⟩⟩
  · have hsz : w4 < x0_size := by
      refine Classical.byContradiction fun h => ?_
      rw [if_neg h] at e5
      exact h0 e5
    rw [if_pos hsz] at e5
    obtain ⟨p0, p1, _⟩ := up1 hw.1 (B := x0_size) (Int32.le_trans hs.2 (by decide)) (Int32.not_le.mpr hsz)
    have hy : 0 ≤ w4 + 1 ∧ w4 + 1 ≤ x0_size := ⟨p0, by clear adv hA e5; grind⟩
    unfold fX3_next_j54
    refine Sf.ite (fun h1 => ?_) (fun h1 => ?_)
    · refine Sf.bind (advS (P := fun i => tkc (x0_bytes i) = 1) hn hs hy (fun z hz h => (adv 1 v5 (w4 + 1) h1 hy z hz).1 h) (fun z hz h => (adv 1 v5 (w4 + 1) h1 hy z hz).2 h)) ?_
      intro w14 ⟨hv, hB⟩
      unfold fX3_next_j96
      rw [if_neg (by rw [h1]; decide)]
      rw [p1] at hB
      exact Sf.ok ⟨⟨hw, hA⟩, Or.inr ⟨hsz, e5, Or.inl ⟨h1, hv, hB, rfl⟩⟩⟩
    refine Sf.ite (fun h2 => ?_) (fun h2 => ?_)
    · refine Sf.bind (advS (P := fun i => tkc (x0_bytes i) = 2) hn hs hy (fun z hz h => (adv 2 v5 (w4 + 1) h2 hy z hz).1 h) (fun z hz h => (adv 2 v5 (w4 + 1) h2 hy z hz).2 h)) ?_
      intro w20 ⟨hv, hB⟩
      unfold fX3_next_j96
      rw [if_pos h2]
      rw [p1] at hB
      have le : w4 ≤ w20 := by
        have a := i32_cl hw.1
        have c := i32_cl hv.1
        have d := hB.1
        exact Int32.le_iff_toInt_le.mpr (by omega)
      refine Sf.bind (valS hn ⟨hw.1, le⟩ (Int32.le_trans hv.2 hs.2) (fun i h1 h3 => ?_)) (fun v9 h9 => ?_)
      · by_cases hi : i = w4.toNatClampNeg
        · rw [hi, ← e5, h2]
        · exact hB.2.2.1 i (by omega) h3
      · exact Sf.ok ⟨⟨hw, hA⟩, Or.inr ⟨hsz, e5, Or.inr (Or.inl ⟨h2, hv, hB, h9⟩)⟩⟩
    · unfold fX3_next_j96
      rw [if_neg h2]
      exact Sf.ok ⟨⟨hw, hA⟩, Or.inr ⟨hsz, e5, Or.inr (Or.inr ⟨h1, h2, rfl, rfl⟩)⟩⟩
theorem bm64 {x : Int} (h : -1000000 ≤ x) (h2 : x < 1000000) : x.bmod (2 ^ 64) = x := by
  have e : (2 ^ 64 : Nat) = 18446744073709551616 := by decide
  rw [e]
  simp only [Int.bmod]
  omega
/-- the reference's figures -/
theorem digR {n : Nat} {b : Nat → Int32} {sz w4 : Int32} (hn : 1000000000000 ≤ n) (hs : 0 ≤ sz ∧ sz ≤ 250) (hw : 0 ≤ w4 ∧ w4 ≤ sz) : Sf (lp (u2 (fX7_look_s149 b sz w4)) n (w4, (0 : Int64))) (fun r => (0 ≤ r.1 ∧ r.1 ≤ sz) ∧ Adv (fun i => tkc (b i) = 2) sz.toNatClampNeg w4.toNatClampNeg r.1.toNatClampNeg ∧ VR b r.2 w4.toNatClampNeg r.1.toNatClampNeg) := by
  have e250 : (250 : Int32).toInt = 250 := by decide
  have e3 : (3 : Int32).toInt = 3 := by decide
  have nw := i32_cl hw.1
  have ns := i32_cl hs.1
  refine Sf.loop2 (fun (z14 : Int32) (z15 : Int64) => (w4 ≤ z14 ∧ z14 ≤ sz) ∧ (∀ i, w4.toNatClampNeg ≤ i → i < z14.toNatClampNeg → tkc (b i) = 2) ∧ VR b z15 w4.toNatClampNeg z14.toNatClampNeg) (fun z14 z15 => muUp z14) (fun z14 z15 h => ?_) (show (w4 ≤ w4 ∧ w4 ≤ sz) ∧ (∀ i, w4.toNatClampNeg ≤ i → i < w4.toNatClampNeg → tkc (b i) = 2) ∧ VR b 0 w4.toNatClampNeg w4.toNatClampNeg from ⟨⟨Int32.le_refl _, hw.2⟩, fun i h1 h2 => absurd h2 (by omega), Or.inl ⟨by omega, by rw [Nat.sub_self]; rfl⟩⟩) (muUp_n hn)
  obtain ⟨i0, i1, i2⟩ := h
  have z0 : 0 ≤ z14 := Int32.le_trans hw.1 i0.1
  have nz := i32_cl z0
  have b1 := Int32.le_iff_toInt_le.mp i0.1
  have b2 := Int32.le_iff_toInt_le.mp i0.2
  have b3 := Int32.le_iff_toInt_le.mp hs.2
  have sub : (z14 - w4).toInt = z14.toInt - w4.toInt := i32_sub (by omega) (by omega)
  unfold fX7_look_s149
  refine Sf.ite (fun hc => ?_) (fun hc => ?_)
  · have e : z14 = sz := Int32.le_antisymm i0.2 hc
    exact Sf.inr (show (0 ≤ z14 ∧ z14 ≤ sz) ∧ Adv (fun i => tkc (b i) = 2) sz.toNatClampNeg w4.toNatClampNeg z14.toNatClampNeg ∧ VR b z15 w4.toNatClampNeg z14.toNatClampNeg from ⟨⟨z0, i0.2⟩, ⟨by omega, by omega, i1, Or.inl (by rw [e])⟩, i2⟩)
  obtain ⟨p0, p1, p3⟩ := up1 z0 (Int32.le_trans hs.2 (by decide)) hc
  have hz1 : z14 + 1 ≤ sz := by clear i1 i2; grind
  have hz2 : w4 ≤ z14 + 1 := by
    have q := i32_cl p0
    exact Int32.le_iff_toInt_le.mpr (by omega)
  have hi : 0 ≤ z14 ∧ z14 < 250 := ⟨z0, Int32.lt_of_lt_of_le p3 hs.2⟩
  refine Sf.rdb 250 rfl hi (fun v19 e19 => ?_)
  refine Sf.bind (isDig v19) (fun v20 e20 => ?_)
  rw [e19] at e20
  refine Sf.ite (fun hv => ?_) (fun hv => ?_)
  · have hno : ¬ tkc (b z14.toNatClampNeg) = 2 := by
      intro h
      rw [if_pos h] at e20
      rw [e20] at hv
      exact absurd hv (by decide)
    exact Sf.inr (show (0 ≤ z14 ∧ z14 ≤ sz) ∧ Adv (fun i => tkc (b i) = 2) sz.toNatClampNeg w4.toNatClampNeg z14.toNatClampNeg ∧ VR b z15 w4.toNatClampNeg z14.toNatClampNeg from ⟨⟨z0, i0.2⟩, ⟨by omega, by omega, i1, Or.inr hno⟩, i2⟩)
  have hyes : tkc (b z14.toNatClampNeg) = 2 := by
    refine Classical.byContradiction fun h => ?_
    rw [if_neg h] at e20
    exact hv e20
  have all : ∀ i, w4.toNatClampNeg ≤ i → i < (z14 + 1).toNatClampNeg → tkc (b i) = 2 := by
    intro i h1 h2
    rw [p1] at h2
    by_cases hi : i = z14.toNatClampNeg
    · rw [hi]; exact hyes
    · exact i1 i h1 (by omega)
  refine Sf.ite (fun h3 => ?_) (fun h3 => ?_)
  · have h3 := Int32.le_iff_toInt_le.mp h3
    unfold fX7_look_j218
    refine Sf.inl (show (w4 ≤ z14 + 1 ∧ z14 + 1 ≤ sz) ∧ (∀ i, w4.toNatClampNeg ≤ i → i < (z14 + 1).toNatClampNeg → tkc (b i) = 2) ∧ VR b 100000 w4.toNatClampNeg (z14 + 1).toNatClampNeg from ⟨⟨hz2, hz1⟩, all, Or.inr ⟨by omega, rfl⟩⟩) (muUp_lt hc)
  · have h3 := Int32.lt_iff_toInt_lt.mp (Int32.not_le.mp h3)
    refine Sf.rdb 250 rfl hi (fun v23 e23 => ?_)
    unfold fX7_look_j218
    have hf : z15.toInt = dI b w4.toNatClampNeg (z14.toNatClampNeg - w4.toNatClampNeg) := by
      rcases i2 with h | h
      · exact h.2
      · exact absurd h.1 (by omega)
    have bd := dI_b (b := b) (s := w4.toNatClampNeg) (z14.toNatClampNeg - w4.toNatClampNeg) (fun i h1 h2 => i1 i h1 (by omega))
    have bd2 := bd.2.2.1 (by omega)
    have dg := (tkc_2 _).mp hyes
    have d1 := Int32.le_iff_toInt_le.mp (Int32.not_lt.mp dg.1)
    have d2 := Int32.le_iff_toInt_le.mp (Int32.not_lt.mp dg.2)
    have f1 : (48 : Int32).toInt = 48 := by decide
    have f2 : (57 : Int32).toInt = 57 := by decide
    have f3 : (10 : Int64).toInt = 10 := by decide
    have f4 : (48 : Int64).toInt = 48 := by decide
    have m1 : (z15 * (10 : Int64)).toInt = z15.toInt * 10 := by rw [Int64.toInt_mul, f3, bm64 (by omega) (by omega)]
    have m2 : (z15 * (10 : Int64) + v23.toInt64).toInt = z15.toInt * 10 + v23.toInt := by
      rw [Int64.toInt_add, m1, Int32.toInt_toInt64, bm64 (by rw [e23]; omega) (by rw [e23]; omega)]
    have m3 : (z15 * (10 : Int64) + v23.toInt64 - (48 : Int64)).toInt = z15.toInt * 10 + v23.toInt - 48 := by
      rw [Int64.toInt_sub, m2, f4, bm64 (by rw [e23]; omega) (by rw [e23]; omega)]
    refine Sf.inl (show (w4 ≤ z14 + 1 ∧ z14 + 1 ≤ sz) ∧ (∀ i, w4.toNatClampNeg ≤ i → i < (z14 + 1).toNatClampNeg → tkc (b i) = 2) ∧ VR b (z15 * (10 : Int64) + v23.toInt64 - (48 : Int64)) w4.toNatClampNeg (z14 + 1).toNatClampNeg from ⟨⟨hz2, hz1⟩, all, Or.inl ⟨by omega, ?_⟩⟩) (muUp_lt hc)
    rw [m3, p1, show z14.toNatClampNeg + 1 - w4.toNatClampNeg = (z14.toNatClampNeg - w4.toNatClampNeg) + 1 by omega]
    show _ = 10 * dI b w4.toNatClampNeg (z14.toNatClampNeg - w4.toNatClampNeg) + (b (w4.toNatClampNeg + (z14.toNatClampNeg - w4.toNatClampNeg))).toInt - 48
    rw [show w4.toNatClampNeg + (z14.toNatClampNeg - w4.toNatClampNeg) = z14.toNatClampNeg by omega, ← e23, hf]
    omega
theorem lookS {n : Nat} {x0_shelf : (Nat → Int32)} {x0_rowSort : (Nat → Int32)} {x0_rowSize : (Nat → Int32)} {x0_rows : (Nat → Nat → Int64)} {x0_moved : (Nat → Int64)} {x0_shown : (Nat → Int32)} {x0_tape : (Nat → Int32)} {x0_tapeSize : Int32} {x0_refused : (Nat → Int32)} {x0_lines : Int32} {x0_line : (Nat → Nat → Int32)} {x0_changes : (Nat → Int32)} {x0_coins : (Nat → Int32)} {x0_goods : Int32} {x0_good : (Nat → Nat → Int32)} {x0_works : Int32} {x0_work : (Nat → Nat → Int32)} {x0_years : Int32} {x0_gone : Int32} {x0_spent : Int32} {x0_at : Int32} {x0_token : Int32} {x0_from : Int32} {x0_figures : Int64} {x0_fault : Int32} {x0_numbers : (Nat → Int32)} {x0_statements : Int32} {x0_left : (Nat → Int32)} {x0_far : (Nat → Int32)} {x0_tons : Int32} {x0_way : (Nat → Int32)} {x0_steps : Int32} {x0_met : Int64} {x0_queue : (Nat → Int32)} {x0_totals : (Nat → Int32)} (hn : 1000000000000 ≤ n) (hs : 0 ≤ x0_tapeSize ∧ x0_tapeSize ≤ 250) (he : 0 ≤ x0_at ∧ x0_at ≤ x0_tapeSize) : Sf (fX7_look n (x0_shelf, x0_rowSort, x0_rowSize, x0_rows, x0_moved, x0_shown, x0_tape, x0_tapeSize, x0_refused, x0_lines, x0_line, x0_changes, x0_coins, x0_goods, x0_good, x0_works, x0_work, x0_years, x0_gone, x0_spent, x0_at, x0_token, x0_from, x0_figures, x0_fault, x0_numbers, x0_statements, x0_left, x0_far, x0_tons, x0_way, x0_steps, x0_met, x0_queue, x0_totals)) (fun q => TkQ x0_tape x0_tapeSize x0_at q.2.2.1 q.1 q.2.1 (q.2.2.2 = 0) (VR x0_tape q.2.2.2)) := by
  unfold fX7_look
  dsimp only [u35]
  refine Sf.bind (advS (P := fun i => x0_tape i = 32) hn hs he (fun z h0 h => ?_) (fun z h0 h => ?_)) ?_
  · unfold fX7_look_s0
    rw [if_pos h]
  · unfold fX7_look_s0
    rw [if_neg (Int32.not_le.mpr h)]
    obtain ⟨o, eo, ho⟩ : Sf ((rd 250 x0_tape z).bind fun v23 => if v23 = 32 then (some (.inl (z + 1))) else (some (.inr z))) (fun r => r = if x0_tape z.toNatClampNeg = 32 then (.inl (z + 1) : Int32 ⊕ Int32) else .inr z) := by
      refine Sf.rdb 250 rfl ⟨h0, Int32.lt_of_lt_of_le h hs.2⟩ (fun v e => ?_)
      rw [← e]
      exact Sf.ite (fun h => Sf.ok (by rw [if_pos h])) (fun h => Sf.ok (by rw [if_neg h]))
    rw [eo, ho]
    by_cases hh : x0_tape z.toNatClampNeg = 32
    · exact Or.inl ⟨hh, by rw [if_pos hh]⟩
    · exact Or.inr ⟨hh, by rw [if_neg hh]⟩
  intro w4 ⟨hw, hA⟩
  refine Sf.ite (fun h0 => ?_) (fun h0 => ?_)
  · exact Sf.ok ⟨⟨hw, hA⟩, Or.inl ⟨h0, rfl, rfl, rfl⟩⟩
  have hsz : w4 < x0_tapeSize := by clear hA; grind
  have hi : 0 ≤ w4 ∧ w4 < 250 := ⟨hw.1, Int32.lt_of_lt_of_le hsz hs.2⟩
  have nlt' : w4.toNatClampNeg < x0_tapeSize.toNatClampNeg := by
    have a := i32_cl hw.1
    have c := i32_cl hs.1
    have d := Int32.lt_iff_toInt_lt.mp hsz
    omega
  refine Sf.rdb 250 rfl hi (fun v5 e5 => ?_)
  refine Sf.bind (isLet v5) (fun v6 e6 => ?_)
  rw [e5] at e6
  refine Sf.ite (fun hv => ?_) (fun hv => ?_)
  · have n1 : ¬ tkc (x0_tape w4.toNatClampNeg) = 1 := by
      intro h
      rw [if_pos h] at e6
      rw [e6] at hv
      exact absurd hv (by decide)
    refine Sf.rdb 250 rfl hi (fun v8 e8 => ?_)
    refine Sf.bind (isDig v8) (fun v9 e9 => ?_)
    rw [e8] at e9
    refine Sf.ite (fun hd => ?_) (fun hd => ?_)
    · have n2 : ¬ tkc (x0_tape w4.toNatClampNeg) = 2 := by
        intro h
        rw [if_pos h] at e9
        rw [e9] at hd
        exact absurd hd (by decide)
      refine Sf.rdb 250 rfl hi (fun v11 e11 => ?_)
      have rest : ∀ y : Int32, y = tkc (x0_tape w4.toNatClampNeg) → Sf (fX7_look_j254 w4 y) (fun q => TkQ x0_tape x0_tapeSize x0_at q.2.2.1 q.1 q.2.1 (q.2.2.2 = 0) (VR x0_tape q.2.2.2)) := by
        intro y hy
        unfold fX7_look_j254
        exact Sf.ok ⟨⟨hw, hA⟩, Or.inr ⟨hsz, hy, Or.inr (Or.inr ⟨by rw [hy]; exact n1, by rw [hy]; exact n2, rfl, rfl⟩)⟩⟩
      have tk : tkc (x0_tape w4.toNatClampNeg) = if v11 = 59 then 3 else 4 := by
        rw [e11]
        have q1 : x0_tape w4.toNatClampNeg < 97 ∨ 122 < x0_tape w4.toNatClampNeg := by
          refine Classical.byContradiction fun h => n1 ((tkc_1 _).mpr ⟨fun q => h (Or.inl q), fun q => h (Or.inr q)⟩)
        have q2 : x0_tape w4.toNatClampNeg < 48 ∨ 57 < x0_tape w4.toNatClampNeg := by
          refine Classical.byContradiction fun h => n2 ((tkc_2 _).mpr ⟨fun q => h (Or.inl q), fun q => h (Or.inr q)⟩)
        have inner : (if x0_tape w4.toNatClampNeg < 48 then (if x0_tape w4.toNatClampNeg = 59 then (3 : Int32) else 4) else if 57 < x0_tape w4.toNatClampNeg then (if x0_tape w4.toNatClampNeg = 59 then 3 else 4) else 2) = if x0_tape w4.toNatClampNeg = 59 then 3 else 4 := by
          by_cases a : x0_tape w4.toNatClampNeg < 48
          · rw [if_pos a]
          · rw [if_neg a, if_pos (q2.resolve_left a)]
        unfold tkc
        rw [inner]
        by_cases a : x0_tape w4.toNatClampNeg < 97
        · rw [if_pos a]
        · rw [if_neg a, if_pos (q1.resolve_left a)]
      refine Sf.ite (fun h => rest 3 (by rw [tk, if_pos h])) (fun h => rest 4 (by rw [tk, if_neg h]))
    · have y2 : tkc (x0_tape w4.toNatClampNeg) = 2 := by
        refine Classical.byContradiction fun h => ?_
        rw [if_neg h] at e9
        exact hd e9
      refine Sf.bind (digR hn hs hw) ?_
      rintro ⟨w17, w18⟩ ⟨a1, a2, a3⟩
      exact Sf.ok ⟨⟨hw, hA⟩, Or.inr ⟨hsz, y2.symm, Or.inr (Or.inl ⟨rfl, a1, Adv.next a2 nlt' y2, a3⟩)⟩⟩
  · have y1 : tkc (x0_tape w4.toNatClampNeg) = 1 := by
      refine Classical.byContradiction fun h => ?_
      rw [if_neg h] at e6
      exact hv e6
    refine Sf.bind (advS (P := fun i => tkc (x0_tape i) = 1) hn hs hw (fun z hz h => ?_) (fun z hz h => ?_)) ?_
    · unfold fX7_look_s90
      rw [if_pos h]
    · unfold fX7_look_s90
      rw [if_neg (Int32.not_le.mpr h)]
      obtain ⟨o, eo, ho⟩ : Sf ((rd 250 x0_tape z).bind fun v28 => (fX7_isLetter v28).bind (fun v29 => if v29 = 0 then (some (.inr z)) else (some (.inl (z + 1))))) (fun r => r = if tkc (x0_tape z.toNatClampNeg) = 1 then (.inl (z + 1) : Int32 ⊕ Int32) else .inr z) := by
        refine Sf.rdb 250 rfl ⟨hz, Int32.lt_of_lt_of_le h hs.2⟩ (fun v e => ?_)
        refine Sf.bind (isLet v) (fun v29 e29 => ?_)
        rw [← e]
        by_cases hh : tkc v = 1
        · rw [if_pos hh] at e29
          rw [if_pos hh, if_neg (by rw [e29]; decide)]
          exact Sf.ok rfl
        · rw [if_neg hh] at e29
          rw [if_neg hh, if_pos e29]
          exact Sf.ok rfl
      rw [eo, ho]
      by_cases hh : tkc (x0_tape z.toNatClampNeg) = 1
      · exact Or.inl ⟨hh, by rw [if_pos hh]⟩
      · exact Or.inr ⟨hh, by rw [if_neg hh]⟩
    intro w27 ⟨hv2, hB⟩
    exact Sf.ok ⟨⟨hw, hA⟩, Or.inr ⟨hsz, y1.symm, Or.inl ⟨rfl, hv2, Adv.next hB nlt' y1, rfl⟩⟩⟩
/-- the figures of a value -/
def fg (v : Int32) : Int32 := if v = -1 then 100000 else v
def figs (t v : Int32) : Int64 := if t = 2 then (fg v).toInt64 else 0
/-- a token, as the class keeps it -/
def TkOk (sz s e t v : Int32) : Prop := (0 ≤ s ∧ s ≤ e) ∧ e ≤ sz ∧ (t = 2 → v = -1 ∨ (0 ≤ v ∧ v ≤ 999)) ∧ (¬ t = 0 → s < e)
theorem lookNext {n : Nat} {x0_bytes : (Nat → Int32)} {x0_size : Int32} {x0_start : Int32} {x0_end : Int32} {x0_token : Int32} {x0_value : Int32} {m_shelf : (Nat → Int32)} {m_rowSort : (Nat → Int32)} {m_rowSize : (Nat → Int32)} {m_rows : (Nat → Nat → Int64)} {m_moved : (Nat → Int64)} {m_shown : (Nat → Int32)} {m_tape : (Nat → Int32)} {m_tapeSize : Int32} {m_refused : (Nat → Int32)} {m_lines : Int32} {m_line : (Nat → Nat → Int32)} {m_changes : (Nat → Int32)} {m_coins : (Nat → Int32)} {m_goods : Int32} {m_good : (Nat → Nat → Int32)} {m_works : Int32} {m_work : (Nat → Nat → Int32)} {m_years : Int32} {m_gone : Int32} {m_spent : Int32} {m_at : Int32} {m_token : Int32} {m_from : Int32} {m_figures : Int64} {m_fault : Int32} {m_numbers : (Nat → Int32)} {m_statements : Int32} {m_left : (Nat → Int32)} {m_far : (Nat → Int32)} {m_tons : Int32} {m_way : (Nat → Int32)} {m_steps : Int32} {m_met : Int64} {m_queue : (Nat → Int32)} {m_totals : (Nat → Int32)} (hn : 1000000000000 ≤ n) (hs : 0 ≤ x0_size ∧ x0_size ≤ 250) (he : 0 ≤ x0_end ∧ x0_end ≤ x0_size) (hb : m_tape = x0_bytes) (hz : m_tapeSize = x0_size) (ha : m_at = x0_end) : Sf2 (fX3_next n (x0_bytes, x0_size, x0_start, x0_end, x0_token, x0_value)) (fX7_look n (m_shelf, m_rowSort, m_rowSize, m_rows, m_moved, m_shown, m_tape, m_tapeSize, m_refused, m_lines, m_line, m_changes, m_coins, m_goods, m_good, m_works, m_work, m_years, m_gone, m_spent, m_at, m_token, m_from, m_figures, m_fault, m_numbers, m_statements, m_left, m_far, m_tons, m_way, m_steps, m_met, m_queue, m_totals)) (fun r q => q = (r.2.1, r.2.2.1, r.1, figs r.2.2.1 r.2.2.2) ∧ TkOk x0_size r.1 r.2.1 r.2.2.1 r.2.2.2 ∧ x0_end ≤ r.1) := by
  subst hb hz ha
  refine Sf2.of (nextS hn hs he) (lookS hn hs he) ?_
  rintro ⟨s, e, t, v⟩ ⟨e', t', s', f⟩ h h'
  have h : TkQ m_tape m_tapeSize m_at s e t (v = -1) (VC m_tape v) := h
  have h' : TkQ m_tape m_tapeSize m_at s' e' t' (f = 0) (VR m_tape f) := h'
  have hh := TkQ_eq h h'
  obtain ⟨⟨a1, a2⟩, a3⟩ := h
  obtain ⟨q1, q2, q3, q4⟩ := hh
  subst q1 q2 q3
  have n1 := i32_cl a1.1
  have n0 := i32_cl he.1
  have ea : m_at ≤ s := Int32.le_iff_toInt_le.mpr (by have := a2.1; omega)
  have b3 := Int32.le_iff_toInt_le.mp hs.2
  have b2 := Int32.le_iff_toInt_le.mp a1.2
  have e250 : (250 : Int32).toInt = 250 := by decide
  have z1 : (1 : Int32).toInt = 1 := by decide
  have up : s < m_tapeSize → 0 ≤ s + 1 ∧ (s + 1).toInt = s.toInt + 1 ∧ s + 1 ≤ m_tapeSize := by
    intro h
    have h := Int32.lt_iff_toInt_lt.mp h
    have e1 : (s + 1).toInt = s.toInt + 1 := by rw [i32_add (by omega) (by omega), z1]
    have z0 : (0 : Int32).toInt = 0 := by decide
    exact ⟨Int32.le_iff_toInt_le.mpr (by omega), e1, Int32.le_iff_toInt_le.mpr (by omega)⟩
  have vals : f = figs t v ∧ (t = 2 → v = -1 ∨ (0 ≤ v ∧ v ≤ 999)) := by
    unfold figs
    rcases q4 with ⟨c1, c2, c3⟩ | ⟨c1, c2, c3, c4, c5⟩
    · rw [if_neg c1]
      exact ⟨c3, fun h => absurd h c1⟩
    · rw [if_pos c1]
      unfold fg
      have bd := dI_b (b := m_tape) (s := s.toNatClampNeg) (e.toNatClampNeg - s.toNatClampNeg) (fun i h1 h2 => c5 i h1 (by omega))
      rcases c2 with ⟨d1, d2⟩ | ⟨d1, d2⟩ <;> rcases c3 with ⟨d3, d4⟩ | ⟨d3, d4⟩
      · have hi := bd.2.2.2 d1
        have hv : 0 ≤ v ∧ v ≤ 999 := ⟨Int32.le_iff_toInt_le.mpr (by rw [d2]; exact bd.1), Int32.le_iff_toInt_le.mpr (by rw [d2]; exact hi)⟩
        have hne : ¬ v = -1 := by
          intro h
          rw [h] at hv
          exact absurd hv.1 (by decide)
        rw [if_neg hne]
        exact ⟨Int64.toInt_inj.mp (by rw [d4, Int32.toInt_toInt64, d2]), fun _ => Or.inr hv⟩
      · omega
      · omega
      · rw [if_pos d2, d4]
        exact ⟨by decide, fun _ => Or.inl d2⟩
  refine ⟨by rw [vals.1], ⟨⟨a1.1, ?_⟩, ?_, vals.2, ?_⟩, ea⟩
  · show s ≤ e
    rcases a3 with ⟨x1, x2, x3, x4⟩ | ⟨x1, x2, ⟨c1, c2, c3, c4⟩ | ⟨c1, c2, c3, c4⟩ | ⟨c1, c2, c3, c4⟩⟩
    · rw [x3]; exact Int32.le_refl _
    · have := i32_cl c2.1
      exact Int32.le_iff_toInt_le.mpr (by have := c3.1; omega)
    · have := i32_cl c2.1
      exact Int32.le_iff_toInt_le.mpr (by have := c3.1; omega)
    · rw [c3]
      exact Int32.le_iff_toInt_le.mpr (by rw [(up x1).2.1]; omega)
  · show e ≤ m_tapeSize
    rcases a3 with ⟨x1, x2, x3, x4⟩ | ⟨x1, x2, ⟨c1, c2, c3, c4⟩ | ⟨c1, c2, c3, c4⟩ | ⟨c1, c2, c3, c4⟩⟩
    · rw [x3]; exact a1.2
    · exact c2.2
    · exact c2.2
    · rw [c3]; exact (up x1).2.2
  · intro ht
    show s < e
    rcases a3 with ⟨x1, x2, x3, x4⟩ | ⟨x1, x2, ⟨c1, c2, c3, c4⟩ | ⟨c1, c2, c3, c4⟩ | ⟨c1, c2, c3, c4⟩⟩
    · exact absurd x2 ht
    · have := i32_cl c2.1
      exact Int32.lt_iff_toInt_lt.mpr (by have := c3.1; omega)
    · have := i32_cl c2.1
      exact Int32.lt_iff_toInt_lt.mpr (by have := c3.1; omega)
    · rw [c3]
      exact Int32.lt_iff_toInt_lt.mpr (by rw [(up x1).2.1]; omega)

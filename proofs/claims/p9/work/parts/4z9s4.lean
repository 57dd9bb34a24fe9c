/-! the class's search: all passes -/
def EdC (ec : Nat) (eA eB eC chg : Nat → Int32) (u v : Nat) (c : Int) : Prop :=
  (∃ e : Nat, e < ec ∧ c = (eC e).toInt ∧ ((u = (eA e).toNatClampNeg ∧ v = (eB e).toNatClampNeg) ∨ (u = (eB e).toNatClampNeg ∧ v = (eA e).toNatClampNeg))) ∨
  (∃ p w w' : Nat, p < 12 ∧ w < 3 ∧ w' < 3 ∧ u = 3 * p + w ∧ v = 3 * p + w' ∧ c = (chg p).toInt)
/-- T is the least costs to G, 1000000 where there is no way -/
def TF (D : Nat → Nat → Int → Prop) (G : Nat → Prop) (T : Nat → Int32) : Prop := A6 T ∧ (∀ u, G u → T u = 0) ∧ FxD D T ∧ ∀ u, u < 36 → (T u).toInt < 1000000 → ∃ k, Wk D G k u (T u).toInt
def CF (chg A : Nat → Int32) : Prop := ∀ p : Nat, p < 12 → ∀ w w' : Nat, w < 3 → w' < 3 → (A (3 * p + w)).toInt ≤ (A (3 * p + w')).toInt + (chg p).toInt
def IA (G : Nat → Prop) (chg T : Nat → Int32) (z : Int32) (A : Nat → Int32) : Prop :=
  (0 ≤ z ∧ z ≤ 36) ∧ A6 A ∧ (∀ v, v < 36 → (T v).toInt ≤ (A v).toInt) ∧ CF chg A ∧ (∀ u, u < 36 → G u → A u = 0) ∧ ((∀ v, v < 36 → (A v).toInt = (T v).toInt) ∨ z.toNatClampNeg + 1 ≤ cn (fun v => (A v).toInt = (T v).toInt))
theorem EdC.d {ec : Nat} {eA eB eC chg : Nat → Int32} (hA : AI 0 35 eA) (hB : AI 0 35 eB) (hC : ∀ e, e < ec → 0 ≤ eC e ∧ eC e ≤ 999) (hch : C12 chg) : ∀ u v c, EdC ec eA eB eC chg u v c → u < 36 ∧ v < 36 ∧ c ≤ 999 := by
  intro u v c h
  have lt : ∀ x : Int32, 0 ≤ x ∧ x ≤ 35 → x.toNatClampNeg < 36 := fun x hx => i32_lt (M := 36) rfl ⟨hx.1, Int32.lt_of_le_of_lt hx.2 (by decide)⟩
  rcases h with ⟨e, he, rfl, ⟨rfl, rfl⟩ | ⟨rfl, rfl⟩⟩ | ⟨p, w, w', hp, hw, hw', rfl, rfl, rfl⟩
  · exact ⟨lt _ (hA e), lt _ (hB e), by have := (i32_b (hC e he)).2; have e9 : (999 : Int32).toInt = 999 := by decide
                                        omega⟩
  · exact ⟨lt _ (hB e), lt _ (hA e), by have := (i32_b (hC e he)).2; have e9 : (999 : Int32).toInt = 999 := by decide
                                        omega⟩
  · refine ⟨by omega, by omega, ?_⟩
    have := (i32_b (hch p hp)).2
    have e9 : (99 : Int32).toInt = 99 := by decide
    omega
theorem aimL {n : Nat} {G : Nat → Prop} {eA eB eC eL chg T st nd op : Nat → Int32} {sc oc ec p1 : Int32} {sn : Int64} (hn : 1000000000000 ≤ n) (hA : AI 0 35 eA) (hB : AI 0 35 eB) (hec : 0 ≤ ec ∧ ec ≤ 60) (hC : ∀ e, e < ec.toNatClampNeg → 0 ≤ eC e ∧ eC e ≤ 999) (hch : C12 chg) (hG36 : ∀ u, G u → u < 36) (hT : TF (EdC ec.toNatClampNeg eA eB eC chg) G T) {A0 : Nat → Int32} (h0 : IA G chg T 0 A0) : Sf (lp (u2 (fX5_aimAt_s49 n p1 eA eB eC eL chg st nd sc op oc sn ec)) n (0, A0)) (fun A => A6 A ∧ ∀ v, v < 36 → A v = T v) := by
  obtain ⟨t1, t2, t3, t4⟩ := hT
  have hD := EdC.d hA hB hC hch
  have hC2 : ∀ e, e < ec.toNatClampNeg → 0 ≤ eC e ∧ eC e ≤ 1000 := fun e he => ⟨(hC e he).1, Int32.le_trans (hC e he).2 (by decide)⟩
  have hTe : ∀ e, e < ec.toNatClampNeg → (T (eA e).toNatClampNeg).toInt ≤ (T (eB e).toNatClampNeg).toInt + (eC e).toInt ∧ (T (eB e).toNatClampNeg).toInt ≤ (T (eA e).toNatClampNeg).toInt + (eC e).toInt := fun e he => ⟨t3 _ _ _ (Or.inl ⟨e, he, rfl, Or.inl ⟨rfl, rfl⟩⟩), t3 _ _ _ (Or.inl ⟨e, he, rfl, Or.inr ⟨rfl, rfl⟩⟩)⟩
  have hTc : ∀ p : Nat, p < 12 → ∀ w w' : Nat, w < 3 → w' < 3 → (T (3 * p + w)).toInt ≤ (T (3 * p + w')).toInt + (chg p).toInt := fun p hp w w' hw hw' => t3 _ _ _ (Or.inr ⟨p, w, w', hp, hw, hw', rfl, rfl, rfl⟩)
  have zm : (1000000 : Int32).toInt = 1000000 := by decide
  refine Sf.loop2 (IA G chg T) (fun z9 z10 => muUp z9) (fun z9 A h => ?_) h0 (muUp_n hn)
  obtain ⟨i0, i1, i2, i3, i4, i5⟩ := h
  unfold fX5_aimAt_s49
  refine Sf.ite (fun hc => ?_) (fun hc => ?_)
  · refine Sf.inr ⟨i1, fun v hv => Int32.toInt_inj.mp ?_⟩
    rcases i5 with h | h
    · exact h v hv
    · have q := cn_le (fun v => (A v).toInt = (T v).toInt)
      have a := i32_cl i0.1
      have b := Int32.le_iff_toInt_le.mp hc
      have e : (36 : Int32).toInt = 36 := by decide
      omega
  · obtain ⟨p0, p1', p2⟩ := up1 i0.1 (by decide) hc
    refine Sf.bind (NLf (T := T) hn hA hB hec hC2 hTe i1 i2) ?_
    rintro ⟨v13, g14⟩ hr
    obtain ⟨r1, r2, r3, r4, r5⟩ := hr
    have r1 : v13 = 0 ∨ v13 = 1 := r1
    have r2 : A6 g14 := r2
    have r3 : ∀ v, v < 36 → (T v).toInt ≤ (g14 v).toInt ∧ (g14 v).toInt ≤ (A v).toInt := r3
    have r4 : ∀ e, e < ec.toNatClampNeg → (g14 (eB e).toNatClampNeg).toInt ≤ (A (eA e).toNatClampNeg).toInt + (eC e).toInt ∧ (g14 (eA e).toNatClampNeg).toInt ≤ (A (eB e).toNatClampNeg).toInt + (eC e).toInt := r4
    have r5 : v13 = 0 → g14 = A := r5
    dsimp only [u2]
    refine Sf.ite (fun hv => ?_) (fun hv => ?_)
    · have eg := r5 hv
      subst eg
      have hF : FxD (EdC ec.toNatClampNeg eA eB eC chg) g14 := by
        intro u v c h
        rcases h with ⟨e, he, rfl, ⟨rfl, rfl⟩ | ⟨rfl, rfl⟩⟩ | ⟨p, w, w', hp, hw, hw', rfl, rfl, rfl⟩
        · exact (r4 e he).2
        · exact (r4 e he).1
        · exact i3 p hp w w' hw hw'
      refine Sf.inr ⟨i1, fun v hv2 => Int32.toInt_inj.mp ?_⟩
      have a := i2 v hv2
      have b := (i32_b (i1 v hv2)).2
      by_cases hl : (T v).toInt < 1000000
      · obtain ⟨k, hk⟩ := t4 v hv2 hl
        have q := Wk.le hF (fun u hu => i4 u (hG36 u hu) hu) k v _ hk
        omega
      · rw [zm] at b
        have c := (i32_b (t1 v hv2)).2
        omega
    · refine Sf.bind (NCf (T := T) hn hch r2 (fun v hv2 => (r3 v hv2).1) hTc) ?_
      intro A2 hA2
      obtain ⟨k1, k2, k3⟩ := hA2
      have hP : Pass (EdC ec.toNatClampNeg eA eB eC chg) T A A2 := by
        refine ⟨fun v hv2 => ?_, fun u v c h => ?_⟩
        · have a := k2 v hv2
          have b := r3 v hv2
          omega
        · have hd := hD u v c h
          rcases h with ⟨e, he, rfl, ⟨rfl, rfl⟩ | ⟨rfl, rfl⟩⟩ | ⟨p, w, w', hp, hw, hw', rfl, rfl, rfl⟩
          · have a := (k2 _ hd.1).2
            have b := (r4 e he).2
            omega
          · have a := (k2 _ hd.1).2
            have b := (r4 e he).1
            omega
          · have a := (k3 p hp w w' hw hw').1
            have b := (r3 _ hd.2.1).2
            omega
      refine Sf.inl (show IA G chg T (z9 + 1) A2 from ⟨⟨p0, ?_⟩, k1, fun v hv2 => (k2 v hv2).1, fun p hp w w' hw hw' => (k3 p hp w w' hw hw').2, fun u hu hg => ?_, ?_⟩) (muUp_lt hc)
      · clear i1 i2 i3 i4 i5 r2 r3 r4 r5 k1 k2 k3 hP hD t1 t2 t3 t4 hTe hTc hC hC2
        grind
      · have a := hP.1 u hu
        rw [i4 u hu hg] at a
        rw [t2 u hg] at a
        have z0 : (0 : Int32).toInt = 0 := by decide
        exact Int32.toInt_inj.mp (by omega)
      · by_cases hall : ∀ v, v < 36 → (A v).toInt = (T v).toInt
        · refine Or.inl fun v hv2 => ?_
          have a := hP.1 v hv2
          have b := hall v hv2
          omega
        · refine Or.inr ?_
          have hx : ∃ v, v < 36 ∧ (A v).toInt ≠ (T v).toInt := by
            refine Classical.byContradiction fun hno => hall fun v hv2 => ?_
            exact Classical.byContradiction fun hne => hno ⟨v, hv2, hne⟩
          obtain ⟨u, hu, hne⟩ := hx
          have q := Pass.more hD t3 t2 (fun u hg => i4 u (hG36 u hg) hg) t4 (fun u hu => by have := (i32_b (i1 u hu)).2; rw [zm] at this; exact this) i2 hP hu hne
          rcases i5 with h | h
          · exact absurd (h u hu) hne
          · rw [p1']
            omega
def IZ (p : Nat) (z : Int32) (A : Nat → Int32) : Prop := 0 ≤ z ∧ ∀ v, v < 36 → A v = if v / 3 = p ∧ v % 3 < z.toNatClampNeg then 0 else 1000000
theorem aimZ {n : Nat} {p1 : Int32} {f : Nat → Int32} (hn : 1000000000000 ≤ n) (hp : 0 ≤ p1 ∧ p1 ≤ 11) (hf : ∀ v, v < 36 → f v = 1000000) : Sf (lp (u2 (fX5_aimAt_s25 p1)) n (0, f)) (fun A => ∀ v, v < 36 → A v = if v / 3 = p1.toNatClampNeg then 0 else 1000000) := by
  refine Sf.loop2 (IZ p1.toNatClampNeg) (fun z4 z5 => muUp z4) (fun z A h => ?_) (show IZ p1.toNatClampNeg 0 f from ⟨Int32.le_refl 0, fun v hv => ?_⟩) (muUp_n hn)
  · obtain ⟨h0, h1⟩ := h
    unfold fX5_aimAt_s25
    refine Sf.ite (fun hc => ?_) (fun hc => ?_)
    · refine Sf.inr fun v hv => ?_
      rw [h1 v hv]
      have q := c3 h0 hc (w := v % 3) (by omega)
      by_cases hq : v / 3 = p1.toNatClampNeg
      · rw [if_pos ⟨hq, q⟩, if_pos hq]
      · rw [if_neg (fun x => hq x.1), if_neg hq]
    · obtain ⟨p0, p1', p2⟩ := up1 h0 (by decide) hc
      obtain ⟨hi, he⟩ := ix3' hp ⟨h0, p2⟩
      have hw := (w_of ⟨h0, p2⟩).2
      refine Sf.wrb 36 rfl hi (fun f18 e18 => ?_)
      rw [he] at e18
      subst e18
      refine Sf.inl (show IZ p1.toNatClampNeg (z + 1) (va_up A (3 * p1.toNatClampNeg + z.toNatClampNeg) 0) from ⟨p0, fun v hv => ?_⟩) (muUp_lt hc)
      rw [p1']
      by_cases hv2 : v = 3 * p1.toNatClampNeg + z.toNatClampNeg
      · subst hv2
        rw [va_up_self, if_pos ⟨by omega, by omega⟩]
      · rw [va_up_ne _ _ hv2, h1 v hv]
        by_cases hq : v / 3 = p1.toNatClampNeg ∧ v % 3 < z.toNatClampNeg
        · rw [if_pos hq, if_pos ⟨hq.1, by omega⟩]
        · rw [if_neg hq, if_neg (fun x => hq ⟨x.1, by omega⟩)]
  · show f v = _
    rw [hf v hv, if_neg (fun x => absurd x.2 (Nat.not_lt_zero _))]
theorem aimS {n : Nat} {eA eB eC eL chg aw T st nd op : Nat → Int32} {sc oc ec am p1 : Int32} {sn : Int64} (hn : 1000000000000 ≤ n) (hA : AI 0 35 eA) (hB : AI 0 35 eB) (hec : 0 ≤ ec ∧ ec ≤ 60) (hC : ∀ e, e < ec.toNatClampNeg → 0 ≤ eC e ∧ eC e ≤ 999) (hch : C12 chg) (hp : 0 ≤ p1 ∧ p1 ≤ 11) (hT : TF (EdC ec.toNatClampNeg eA eB eC chg) (fun u => u / 3 = p1.toNatClampNeg) T) (ham : am = p1 → ∀ v, v < 36 → aw v = T v) : Sf (fX5_aimAt n (eA, eB, eC, eL, chg, aw, st, nd, sc, op, oc, sn, ec, am) p1) (fun r => (∀ v, v < 36 → r.1 v = T v) ∧ r.2 = p1) := by
  have hp12 := p_of hp
  unfold fX5_aimAt
  dsimp only [u14]
  refine Sf.ite (fun hc => ?_) (fun hc => ?_)
  · exact Sf.ok ⟨ham hc, hc⟩
  · refine Sf.bind (sJ7_fill hn (by decide)) ?_
    intro g1 e1
    refine Sf.bind (aimZ hn hp (f := g1) (fun v hv => by rw [e1 v, if_pos hv])) ?_
    intro w7 e7
    have hT2 := hT
    obtain ⟨t1, t2, t3, t4⟩ := hT2
    have h0 : IA (fun u => u / 3 = p1.toNatClampNeg) chg T 0 w7 := by
      have z0 : (0 : Int32).toInt = 0 := by decide
      have zm : (1000000 : Int32).toInt = 1000000 := by decide
      refine ⟨⟨by decide, by decide⟩, fun v hv => ?_, fun v hv => ?_, fun p hp2 w w' hw hw' => ?_, fun u hu hg => ?_, Or.inr ?_⟩
      · rw [e7 v hv]
        split
        · decide
        · decide
      · rw [e7 v hv]
        by_cases hg : v / 3 = p1.toNatClampNeg
        · rw [if_pos hg, t2 v hg]
          exact Int.le_refl _
        · rw [if_neg hg]
          exact (i32_b (t1 v hv)).2
      · rw [e7 _ (by omega), e7 _ (by omega)]
        have ea : (3 * p + w) / 3 = p := by omega
        have eb : (3 * p + w') / 3 = p := by omega
        rw [ea, eb]
        have q := (i32_b (hch p hp2)).1
        rw [z0] at q
        omega
      · have hg : u / 3 = p1.toNatClampNeg := hg
        rw [e7 u hu, if_pos hg]
      · have e0 : (0 : Int32).toNatClampNeg = 0 := by decide
        rw [e0]
        refine cn_pos (x := 3 * p1.toNatClampNeg) (by omega) ?_
        have hg : (3 * p1.toNatClampNeg) / 3 = p1.toNatClampNeg := by omega
        show (w7 (3 * p1.toNatClampNeg)).toInt = (T (3 * p1.toNatClampNeg)).toInt
        rw [e7 _ (by omega), if_pos hg, t2 _ hg]
    refine Sf.bind (aimL (T := T) (G := fun u => u / 3 = p1.toNatClampNeg) hn hA hB hec hC hch (fun u hu => ?_) hT h0) ?_
    · have hu : u / 3 = p1.toNatClampNeg := hu
      omega
    · intro w12 h12
      exact Sf.ok ⟨h12.2, rfl⟩

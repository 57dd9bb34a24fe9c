/-! least costs: a way of tight steps -/
theorem dle {D : Nat → Nat → Int → Prop} {G : Nat → Prop} {d : Nat → Int} (hG : ∀ u, u < 36 → G u → d u = 0) (hF : ∀ u v c, D u v c → d u ≤ d v + c) (hB : ∀ u v c, D u v c → v < 36) : ∀ (k v : Nat) (x : Int), v < 36 → Wk D G k v x → d v ≤ x := by
  intro k
  induction k with
  | zero => intro v x hv h; rw [hG v hv h.1, h.2]; exact Int.le_refl _
  | succ k ih =>
    intro v x hv h
    obtain ⟨w, c, e, h⟩ := h
    have a := ih w (x - c) (hB v w c e) h
    have b := hF v w c e
    omega
theorem tight {D : Nat → Nat → Int → Prop} {G : Nat → Prop} {d : Nat → Int} {E : Nat → Nat → Prop} (hG : ∀ u, u < 36 → G u → d u = 0) (hF : ∀ u v c, D u v c → d u ≤ d v + c) (hB : ∀ u v c, D u v c → v < 36) (hE : ∀ u v c, D u v c → u < 36 → u ≠ v → d u = d v + c → E u v) : ∀ (k u : Nat), u < 36 → Wk D G k u (d u) → ∃ j, Pk E G (fun _ => False) j u := by
  intro k
  induction k with
  | zero => intro u hu h; exact ⟨0, fun h => h, h.1⟩
  | succ k ih =>
    intro u hu h
    obtain ⟨v, c, e, h⟩ := h
    have hv := hB u v c e
    have a := dle hG hF hB k v _ hv h
    have b := hF u v c e
    have eq : d u - c = d v := by omega
    rw [eq] at h
    obtain ⟨j, hj⟩ := ih v hv h
    by_cases huv : u = v
    · subst huv; exact ⟨j, hj⟩
    · exact ⟨j + 1, fun h => h, v, hE u v c e hu huv (by omega), hj⟩
theorem Sf.eq {α : Type} {x : Option α} {a : α} (h : Sf x (fun r => r = a)) : x = some a := by
  obtain ⟨b, e, rfl⟩ := h
  exact e
theorem o36 {u : Nat} (hu : u < 36) : (0 ≤ Int32.ofNat u ∧ Int32.ofNat u ≤ 35) ∧ (Int32.ofNat u).toNatClampNeg = u ∧ Int32.ofNat u / 3 = Int32.ofNat (u / 3) ∧ Int32.ofNat u - Int32.ofNat u / 3 * 3 = Int32.ofNat (u % 3) := by
  have key : ∀ i : Fin 36, (0 ≤ Int32.ofNat i.1 ∧ Int32.ofNat i.1 ≤ 35) ∧ (Int32.ofNat i.1).toNatClampNeg = i.1 ∧ Int32.ofNat i.1 / 3 = Int32.ofNat (i.1 / 3) ∧ Int32.ofNat i.1 - Int32.ofNat i.1 / 3 * 3 = Int32.ofNat (i.1 % 3) := by decide +kernel
  exact key ⟨u, hu⟩
theorem oinj {a b : Nat} (ha : a < 1000) (hb : b < 1000) (h : Int32.ofNat a = Int32.ofNat b) : a = b := by
  have x := ofNat_i (m := a) (by omega)
  have y := ofNat_i (m := b) (by omega)
  rw [h] at x
  omega
theorem o_of {v : Int32} (h : 0 ≤ v) : Int32.ofNat v.toNatClampNeg = v := Int32.ofNat_toNatClampNeg v h
theorem fi_le {f : Nat → Int32} {u v : Nat} {c : Int32} (hA : AI 0 1000000000 f) (hc : 0 ≤ c ∧ c ≤ 1000) : (f u ≤ f v + c ↔ (f u).toInt ≤ (f v).toInt + c.toInt) ∧ (f v + c = f u ↔ (f u).toInt = (f v).toInt + c.toInt) := by
  have z : (1000000000 : Int32).toInt = 1000000000 := by decide
  have z0 : (0 : Int32).toInt = 0 := by decide
  have z1 : (1000 : Int32).toInt = 1000 := by decide
  have av := i32_b (hA v)
  have ac := i32_b hc
  rw [z0, z] at av
  rw [z0, z1] at ac
  have e : (f v + c).toInt = (f v).toInt + c.toInt := i32_add (by omega) (by omega)
  refine ⟨?_, ?_⟩
  · rw [Int32.le_iff_toInt_le, e]
  · constructor
    · intro h; rw [← h, e]
    · intro h; exact Int32.toInt_inj.mp (by rw [e, h])
theorem o12 {p w : Nat} (hp : p < 12) (hw : w < 3) : (0 ≤ Int32.ofNat p * 3 + Int32.ofNat w ∧ Int32.ofNat p * 3 + Int32.ofNat w < 36) ∧ Int32.ofNat p * 3 + Int32.ofNat w = Int32.ofNat (3 * p + w) ∧ 3 * Int32.ofNat p + Int32.ofNat w = Int32.ofNat (3 * p + w) ∧ (0 ≤ Int32.ofNat p ∧ Int32.ofNat p < 12) ∧ (0 ≤ Int32.ofNat w ∧ Int32.ofNat w < 3) ∧ ¬ (3 : Int32) ≤ Int32.ofNat w := by
  have key : ∀ (i : Fin 12) (j : Fin 3), (0 ≤ Int32.ofNat i.1 * 3 + Int32.ofNat j.1 ∧ Int32.ofNat i.1 * 3 + Int32.ofNat j.1 < 36) ∧ Int32.ofNat i.1 * 3 + Int32.ofNat j.1 = Int32.ofNat (3 * i.1 + j.1) ∧ 3 * Int32.ofNat i.1 + Int32.ofNat j.1 = Int32.ofNat (3 * i.1 + j.1) ∧ (0 ≤ Int32.ofNat i.1 ∧ Int32.ofNat i.1 < 12) ∧ (0 ≤ Int32.ofNat j.1 ∧ Int32.ofNat j.1 < 3) ∧ ¬ (3 : Int32) ≤ Int32.ofNat j.1 := by decide +kernel
  exact key ⟨p, hp⟩ ⟨w, hw⟩
theorem o20 {l : Nat} (hl : l < 20) : (3 : Int32) ≤ Int32.ofNat (3 + l) ∧ Int32.ofNat (3 + l) - 3 = Int32.ofNat l ∧ (0 ≤ Int32.ofNat l ∧ Int32.ofNat l ≤ 19) ∧ (0 ≤ Int32.ofNat l ∧ Int32.ofNat l < 20) := by
  have key : ∀ i : Fin 20, (3 : Int32) ≤ Int32.ofNat (3 + i.1) ∧ Int32.ofNat (3 + i.1) - 3 = Int32.ofNat i.1 ∧ (0 ≤ Int32.ofNat i.1 ∧ Int32.ofNat i.1 ≤ 19) ∧ (0 ≤ Int32.ofNat i.1 ∧ Int32.ofNat i.1 < 20) := by decide +kernel
  exact key ⟨l, hl⟩
theorem ocl {a : Nat} (h : a < 1000) : (Int32.ofNat a).toNatClampNeg = a := by
  have x := ofNat_i (m := a) (by omega)
  have p : 0 ≤ Int32.ofNat a := Int32.le_iff_toInt_le.mpr (by rw [x]; have z0 : (0 : Int32).toInt = 0 := by decide
                                                              rw [z0]; omega)
  have := i32_cl p
  omega
theorem j139_ok {line : Nat → Nat → Int32} {coins far : Nat → Int32} {a b w l : Nat} (ha : a < 12) (hb : b < 12) (hw : w < 3) (hl : l < 20) (hA : AI 0 1000000000 far) (hc : 0 ≤ line l 3 * coins w ∧ line l 3 * coins w ≤ 1000) (hd : (far (3 * a + w)).toInt = (far (3 * b + w)).toInt + (line l 3 * coins w).toInt) : Sf (fX7_stepTo_j139 (Int32.ofNat (3 * a + w)) (Int32.ofNat (3 + l)) line coins far (Int32.ofNat b)) (fun r => r = Int32.ofNat (3 * b + w)) := by
  obtain ⟨ua, na, da, ma⟩ := o36 (u := 3 * a + w) (by omega)
  have e1 : (3 * a + w) / 3 = a := by omega
  have e2 : (3 * a + w) % 3 = w := by omega
  rw [e1] at da
  rw [e2] at ma
  obtain ⟨_, _, t8, _, w3, _⟩ := o12 hb hw
  obtain ⟨_, l3, _, l20⟩ := o20 hl
  obtain ⟨ub, nb, _, _⟩ := o36 (u := 3 * b + w) (by omega)
  unfold fX7_stepTo_j139
  rw [ma, t8, l3]
  refine Sf.someb (fun t et => ?_)
  subst et
  refine Sf.rdb 36 rfl ⟨ub.1, Int32.lt_of_le_of_lt ub.2 (by decide)⟩ (fun v9 e9 => ?_)
  refine Sf.ckb 20 rfl l20 (fun q10 e10 _ => ?_)
  refine Sf.rdl 3 rfl rfl (fun v11 e11 => ?_)
  refine Sf.rdb 3 rfl w3 (fun v12 e12 => ?_)
  refine Sf.rdb 36 rfl ⟨ua.1, Int32.lt_of_le_of_lt ua.2 (by decide)⟩ (fun v13 e13 => ?_)
  rw [nb] at e9
  rw [na] at e13
  rw [ocl (by omega)] at e10 e12
  subst e10
  have hk : v9 + v11 * v12 = v13 := by
    rw [e9, e11, e12, e13]
    exact (fi_le hA hc).2.mpr hd
  exact Sf.ite (fun _ => Sf.ok rfl) (fun h => absurd hk h)
/-- what the least costs say, once for all -/
theorem far_way {L : Nat} {line : Nat → Nat → Int32} {changes coins left far : Nat → Int32} {tons : Int32} {g : Nat} (hL : L ≤ 20) (hl : LnM line) (hch : AI 0 99 changes) (hco : AI 0 9 coins) (hA : AI 0 1000000000 far) (hAt : At (Ed L line changes coins left tons) (fun u => u / 3 = g) far) (hO : ∀ l : Nat, l < L → ∀ w : Nat, w < 3 → OKl line coins left tons far l w) (hC : ∀ m : Nat, m < 36 → ∀ w : Nat, w < 3 → OKc changes far m w) {u : Nat} (hu : u < 36) (hf : (far u).toInt < 1000000000) : ∃ j, Pk (EP L line changes coins left far tons) (fun u => u / 3 = g) (fun _ => False) j u := by
  obtain ⟨k, hk⟩ := hAt.2 u hu hf
  have pl : ∀ l, (line l 0).toNatClampNeg < 12 ∧ (line l 1).toNatClampNeg < 12 := fun l => ⟨p_of (hl l 0), p_of (hl l 1)⟩
  have cb : ∀ l w, 0 ≤ line l 3 * coins w ∧ line l 3 * coins w ≤ 1000 := fun l w => mc_rng (hl l 3) (hco w)
  have chb : ∀ p, 0 ≤ changes p ∧ changes p ≤ 1000 := fun p => ⟨(hch p).1, Int32.le_trans (hch p).2 (by decide)⟩
  have z0 : (0 : Int32).toInt = 0 := by decide
  refine tight (D := Ed L line changes coins left tons) (d := fun x => (far x).toInt) (fun x hx hg => by show (far x).toInt = 0; rw [hAt.1 x hx hg, z0]) ?_ ?_ ?_ k u hu hk
  · rintro x y c (⟨l, w, h1, h2, h3, rfl, ⟨rfl, rfl⟩ | ⟨rfl, rfl⟩⟩ | ⟨p, w, w', h1, h2, h3, rfl, rfl, rfl⟩)
    · exact (fi_le hA (cb l w)).1.mp (hO l h1 w h2 h3).1
    · exact (fi_le hA (cb l w)).1.mp (hO l h1 w h2 h3).2
    · have := hC (3 * p + w) (by omega) w' h3
      unfold OKc at this
      have e1 : (3 * p + w) / 3 = p := by omega
      rw [e1] at this
      have e2 : p * 3 + w' = 3 * p + w' := by omega
      rw [e2] at this
      exact (fi_le hA (chb p)).1.mp this
  · rintro x y c (⟨l, w, h1, h2, h3, rfl, ⟨rfl, rfl⟩ | ⟨rfl, rfl⟩⟩ | ⟨p, w, w', h1, h2, h3, rfl, rfl, rfl⟩)
    · have := pl l; omega
    · have := pl l; omega
    · omega
  · have lineE : ∀ (l w a b : Nat), l < L → w < 3 → Br line left tons l (Int32.ofNat w) → a < 12 → b < 12 → a ≠ b → ((line l 0).toNatClampNeg = a ∧ (line l 1).toNatClampNeg = b ∨ (line l 1).toNatClampNeg = a ∧ (line l 0).toNatClampNeg = b) → (far (3 * a + w)).toInt = (far (3 * b + w)).toInt + (line l 3 * coins w).toInt → EP L line changes coins left far tons (3 * a + w) (3 * b + w) := by
      intro l w a b h1 h2 h3 ha hb hab hpl hd
      have hl20 : l < 20 := by omega
      obtain ⟨ua, na, da, ma⟩ := o36 (u := 3 * a + w) (by omega)
      have e1 : (3 * a + w) / 3 = a := by omega
      have e2 : (3 * a + w) % 3 = w := by omega
      rw [e1] at da
      rw [e2] at ma
      obtain ⟨g3, l3, l19, l20⟩ := o20 hl20
      have fin := j139_ok (line := line) (coins := coins) ha hb h2 hl20 hA (cb l w) hd
      refine ⟨by omega, 3 + l, by omega, Sf.eq ?_⟩
      have o0 := o_of (hl l 0).1
      have o1 := o_of (hl l 1).1
      have j102 : Sf (fX7_stepTo_j102 (Int32.ofNat (3 * a + w)) (Int32.ofNat (3 + l)) line coins far) (fun r => r = Int32.ofNat (3 * b + w)) := by
        unfold fX7_stepTo_j102
        rw [l3, da]
        refine Sf.ckb 20 rfl l20 (fun q5 e5 _ => ?_)
        rw [ocl (by omega)] at e5
        subst e5
        refine Sf.rdl 0 rfl rfl (fun v6 e6 => ?_)
        rcases hpl with ⟨pa, pb⟩ | ⟨pa, pb⟩
        · rw [pa] at o0
          rw [pb] at o1
          refine Sf.ite (fun _ => ?_) (fun h => absurd (e6.trans o0.symm) h)
          refine Sf.ckb 20 rfl l20 (fun q16 e16 _ => ?_)
          rw [ocl (by omega)] at e16
          subst e16
          refine Sf.rdl 1 rfl rfl (fun v17 e17 => ?_)
          rw [e17, ← o1]
          exact fin
        · rw [pb] at o0
          refine Sf.ite (fun h => ?_) (fun _ => ?_)
          · rw [e6, ← o0] at h
            exact absurd (oinj (by omega) (by omega) h) (fun h => hab h.symm)
          refine Sf.ckb 20 rfl l20 (fun q14 e14 _ => ?_)
          rw [ocl (by omega)] at e14
          subst e14
          refine Sf.rdl 0 rfl rfl (fun v15 e15 => ?_)
          rw [e15, ← o0]
          exact fin
      unfold stF fX7_stepTo
      dsimp only [u35]
      refine Sf.ite (fun _ => ?_) (fun h => absurd g3 h)
      rw [l3, ma]
      refine Sf.bind (s_bears hl l19) (fun v1 hv1 => ?_)
      have nl : (Int32.ofNat l).toNatClampNeg = l := ocl (by omega)
      rw [nl] at hv1
      refine Sf.ite (fun h0 => ?_) (fun h0 => ?_)
      · rcases hv1 with hv1 | hv1
        · rw [h0] at hv1; exact absurd hv1.1 (by decide)
        · exact absurd h3 hv1.2
      rw [da]
      refine Sf.ckb 20 rfl l20 (fun q3 e3 _ => ?_)
      rw [nl] at e3
      subst e3
      refine Sf.rdl 0 rfl rfl (fun v4 e4 => ?_)
      refine Sf.ite (fun _ => j102) (fun h4 => ?_)
      refine Sf.ckb 20 rfl l20 (fun q18 e18 _ => ?_)
      rw [nl] at e18
      subst e18
      refine Sf.rdl 1 rfl rfl (fun v19 e19 => ?_)
      refine Sf.ite (fun _ => j102) (fun h5 => ?_)
      exfalso
      rcases hpl with ⟨pa, pb⟩ | ⟨pa, pb⟩
      · rw [pa] at o0; exact h4 (e4.trans o0.symm)
      · rw [pa] at o1; exact h5 (e19.trans o1.symm)
    rintro x y c (⟨l, w, h1, h2, h3, rfl, ⟨rfl, rfl⟩ | ⟨rfl, rfl⟩⟩ | ⟨p, w, w', h1, h2, h3, rfl, rfl, rfl⟩) hx hne hd
    · exact lineE l w _ _ h1 h2 h3 (pl l).1 (pl l).2 (fun h => hne (by rw [h])) (Or.inl ⟨rfl, rfl⟩) hd
    · exact lineE l w _ _ h1 h2 h3 (pl l).2 (pl l).1 (fun h => hne (by rw [h])) (Or.inr ⟨rfl, rfl⟩) hd
    · refine ⟨by omega, w', by omega, Sf.eq ?_⟩
      obtain ⟨ua, na, da, ma⟩ := o36 (u := 3 * p + w) (by omega)
      have e1 : (3 * p + w) / 3 = p := by omega
      have e2 : (3 * p + w) % 3 = w := by omega
      rw [e1] at da
      rw [e2] at ma
      obtain ⟨ix, t8, _, p12, _, n3⟩ := o12 h1 h3
      obtain ⟨ub, nb, _, _⟩ := o36 (u := 3 * p + w') (by omega)
      unfold stF fX7_stepTo
      dsimp only [u35]
      refine Sf.ite (fun h => absurd h n3) (fun _ => ?_)
      rw [ma, da, t8]
      refine Sf.ite (fun h => ?_) (fun _ => ?_)
      · exact absurd (oinj (by omega) (by omega) h) (fun h => hne (by rw [h]))
      refine Sf.rdb 36 rfl ⟨ub.1, Int32.lt_of_le_of_lt ub.2 (by decide)⟩ (fun v20 e20 => ?_)
      refine Sf.rdb 12 rfl p12 (fun v21 e21 => ?_)
      refine Sf.rdb 36 rfl ⟨ua.1, Int32.lt_of_le_of_lt ua.2 (by decide)⟩ (fun v22 e22 => ?_)
      rw [nb] at e20
      rw [ocl (by omega)] at e21
      rw [na] at e22
      have hk : v20 + v21 = v22 := by
        rw [e20, e21, e22]
        exact (fi_le hA (chb p)).2.mpr hd
      exact Sf.ite (fun _ => Sf.ok rfl) (fun h => absurd hk h)

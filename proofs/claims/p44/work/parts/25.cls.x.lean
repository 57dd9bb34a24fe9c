section
def fX2_putRow (n : Nat) (X0 : ShT) (p1 : Int32) (p2 : Int32) (p3 : Int32) : Option ((Nat → Nat → Int64) × (Nat → Int32) × (Nat → Int32)) :=
  u3 (fun (x0_elements : (Nat → Nat → Int64)) (x0_held : (Nat → Int32)) (x0_sizes : (Nat → Int32)) => (wr 8 x0_held p1 p2).bind fun f1 => (wr 8 x0_sizes p1 p3).bind fun f2 => (ck p1 8).bind fun q3 => (fJ7_fill_d0a16 n 40 (x0_elements q3) (0 : Int64)).bind (fun g4 => some ((va_up x0_elements q3 g4), f1, f2))) X0
set_option maxHeartbeats 4000000 in
set_option maxRecDepth 100000 in
theorem kX2_putRow (l : Launch) (d : DT) (h0 : Nat → Nat) (r0_elements : Nat → Nat) (n : Nat) (x0_elements : (Nat → Nat → Int64)) (x0_held : (Nat → Int32)) (x0_sizes : (Nat → Int32)) (p1 : Int32) (p2 : Int32) (p3 : Int32)  {out : (Nat → Nat → Int64) × (Nat → Int32) × (Nat → Int32)} (hf : fX2_putRow n (x0_elements, x0_held, x0_sizes) p1 p2 p3 = some out) : Ct l d yX2_putRow cX2_putRow 4 none { frames := 1, cells := 0, slots := 0, locals := 24 } [.ref (h0 0), .int p1, .int p2, .int p3] [gSh d h0 r0_elements x0_held x0_sizes, gridJ d r0_elements 8 40 x0_elements] (fun _ : Unit => (none, [gSh d h0 r0_elements (out.2.1) (out.2.2), gridJ d r0_elements 8 40 (out.1)])) := by
  refine Ct.of (by decide) (Nat.le_of_ble_eq_true rfl) ?_
  intro Φ hl hK hR
  subst hl
  have hK : Ok d Φ RX2 "putRow" cX2_putRow 4 none { frames := 1, cells := 0, slots := 0, locals := 24 } := hK
  unfold fX2_putRow at hf
  have hf := un3 hf
  show J d Φ 4 [gSh d h0 r0_elements x0_held x0_sizes, gridJ d r0_elements 8 40 x0_elements] 0 0 0 [(0, .ref (h0 0)), (1, .int p1), (2, .int p2), (3, .int p3)] []
  refine J_aload_n hK qd0_106.1 rfl 0 rfl rfl ?_
  refine J_get hK fo_RX2_16 qd0_106.2.1 rfl 0 0 rfl rfl rfl ?_
  refine J_iload_n hK qd0_106.2.2.1 rfl 1 rfl rfl ?_
  refine J_iload_n hK qd0_106.2.2.2.1 rfl 2 rfl rfl ?_
  obtain ⟨f1, ef1, hf⟩ := bs hf
  refine J_iast (g' := gSh d h0 r0_elements f1 x0_sizes) (gs' := [gSh d h0 r0_elements f1 x0_sizes, gridJ d r0_elements 8 40 x0_elements]) hK qd0_106.2.2.2.2.1 rfl 0 2 rfl rfl ef1 rfl rfl ?_
  refine J_aload_n hK qd0_106.2.2.2.2.2.1 rfl 0 rfl rfl ?_
  refine J_get hK fo_RX2_20 qd0_106.2.2.2.2.2.2.1 rfl 0 0 rfl rfl rfl ?_
  refine J_iload_n hK qd0_106.2.2.2.2.2.2.2.1 rfl 1 rfl rfl ?_
  refine J_iload_n hK qd0_106.2.2.2.2.2.2.2.2.1 rfl 3 rfl rfl ?_
  obtain ⟨f2, ef2, hf⟩ := bs hf
  refine J_iast (g' := gSh d h0 r0_elements f1 f2) (gs' := [gSh d h0 r0_elements f1 f2, gridJ d r0_elements 8 40 x0_elements]) hK qd0_106.2.2.2.2.2.2.2.2.2.1 rfl 0 3 rfl rfl ef2 rfl rfl ?_
  refine J_aload_n hK qd0_106.2.2.2.2.2.2.2.2.2.2.1 rfl 0 rfl rfl ?_
  refine J_get hK fo_RX2_13 qd0_106.2.2.2.2.2.2.2.2.2.2.2.1 rfl 0 0 rfl rfl rfl ?_
  refine J_iload_n hK qd0_106.2.2.2.2.2.2.2.2.2.2.2.2.1 rfl 1 rfl rfl ?_
  obtain ⟨q3, eq3, hf⟩ := bs hf
  refine J_aald hK qd0_106.2.2.2.2.2.2.2.2.2.2.2.2.2.1 rfl 0 1 rfl rfl rfl eq3 ?_
  refine J_lconst (v := 0) hK qd0_106.2.2.2.2.2.2.2.2.2.2.2.2.2.2.1 rfl (by decide) ?_
  refine J_split (gs2 := [gSh d h0 r0_elements f1 f2, [cJ d (r0_elements q3) 40 (x0_elements q3)], gridJx d r0_elements 8 40 x0_elements q3]) 1 rfl (gridJ_sp (ck_ok eq3).2.2) rfl ?_
  obtain ⟨g4, e5, hf⟩ := bs hf
  refine J_callS (m := 3) (m' := 3) (ce' := 0) (sl' := 0) (gr := [gSh d h0 r0_elements f1 f2, gridJx d r0_elements 8 40 x0_elements q3]) (gs' := fun _ => [gSh d h0 r0_elements f1 f2, [cJ d (r0_elements q3) 40 g4], gridJx d r0_elements 8 40 x0_elements q3]) (st' := fun _ => []) (st := []) hK qd0_106.2.2.2.2.2.2.2.2.2.2.2.2.2.2.2.1 cv_RX2_37 ws_yJ7_fill_d0a16 (As := [.ref (r0_elements q3), .long (0 : Int64)]) (kJ7_fill_d0a16 _ d (r0_elements q3) n 40 (x0_elements q3) (0 : Int64) e5) rfl rfl (Nat.le_of_ble_eq_true rfl) (by decide) [1] [0, 2] rfl (by decide +kernel) rfl rfl [0, 2, 1] (by decide +kernel) (fun _ => rfl) (fun _ => rfl) rfl rfl rfl (fun _ => rfl) (fun _ => ?_)
  refine J_merge (gs2 := [gSh d h0 r0_elements f1 f2, gridJ d r0_elements 8 40 (va_up x0_elements q3 g4)]) 1 rfl rfl (gridJ_mg (ck_ok eq3).2.2) rfl ?_
  obtain rfl := Option.some.inj hf
  exact J_vret hK hR qd0_107.1 () rfl (by decide) (by decide)

def fX2_fitted (p0 : Int32) (p1 : Int64) : Option (Int64) :=
  if p0 = 0 then (some ((((p1).toInt32).toInt8.toInt32).toInt64)) else (if p0 = 1 then (some ((((p1).toInt32).toInt16.toInt32).toInt64)) else (if p0 = 2 then (some (((p1).toInt32).toInt64)) else (if p0 = 3 then (some p1) else (if (lg_cmp p1 (0 : Int64)) = 0 then (some (0 : Int64)) else (some (1 : Int64))))))
set_option maxHeartbeats 4000000 in
set_option maxRecDepth 100000 in
theorem kX2_fitted (l : Launch) (d : DT)  (p0 : Int32) (p1 : Int64)  {out : Int64} (hf : fX2_fitted p0 p1 = some out) : Ct l d yX2_fitted cX2_fitted 3 (some .long) { frames := 0, cells := 0, slots := 0, locals := 0 } [.int p0, .long p1] [] (fun _ : Unit => (some (.long out), [])) := by
  refine Ct.of (by decide) (Nat.le_of_ble_eq_true rfl) ?_
  intro Φ hl hK hR
  subst hl
  have hK : Ok d Φ RX2 "fitted" cX2_fitted 3 (some .long) { frames := 0, cells := 0, slots := 0, locals := 0 } := hK
  unfold fX2_fitted at hf
  show J d Φ 3 [] 0 0 0 [(0, .int p0), (1, .long p1)] []
  refine J_iload_n hK qd0_109.1 rfl 0 rfl rfl ?_
  by_cases hc1_0 : p0 = 0
  · have hf := ip hc1_0 hf
    refine J_swI (tg := 32) hK dX2_fitted_1 (by rw [hc1_0]; decide) (by rw [hc1_0]; decide) (by rw [hc1_0]; rfl) rfl ?_
    refine J_lload_n hK qd0_110.1 rfl 1 rfl rfl ?_
    refine J_l2i hK qd0_110.2.1 rfl ?_
    refine J_i2b hK qd0_110.2.2.1 rfl ?_
    refine J_i2l hK qd0_110.2.2.2.1 rfl ?_
    obtain rfl := Option.some.inj hf
    exact J_lret hK hR qd0_110.2.2.2.2.1 () rfl (by decide) (by decide)
  have hf := iq hc1_0 hf
  by_cases hc1_1 : p0 = 1
  · have hf := ip hc1_1 hf
    refine J_swI (tg := 37) hK dX2_fitted_1 (by rw [hc1_1]; decide) (by rw [hc1_1]; decide) (by rw [hc1_1]; rfl) rfl ?_
    refine J_lload_n hK qd0_110.2.2.2.2.2.1 rfl 1 rfl rfl ?_
    refine J_l2i hK qd0_110.2.2.2.2.2.2.1 rfl ?_
    refine J_i2s hK qd0_110.2.2.2.2.2.2.2.1 rfl ?_
    refine J_i2l hK qd0_110.2.2.2.2.2.2.2.2.1 rfl ?_
    obtain rfl := Option.some.inj hf
    exact J_lret hK hR qd0_110.2.2.2.2.2.2.2.2.2.1 () rfl (by decide) (by decide)
  have hf := iq hc1_1 hf
  by_cases hc1_2 : p0 = 2
  · have hf := ip hc1_2 hf
    refine J_swI (tg := 42) hK dX2_fitted_1 (by rw [hc1_2]; decide) (by rw [hc1_2]; decide) (by rw [hc1_2]; rfl) rfl ?_
    refine J_lload_n hK qd0_110.2.2.2.2.2.2.2.2.2.2.1 rfl 1 rfl rfl ?_
    refine J_l2i hK qd0_110.2.2.2.2.2.2.2.2.2.2.2.1 rfl ?_
    refine J_i2l hK qd0_110.2.2.2.2.2.2.2.2.2.2.2.2.1 rfl ?_
    obtain rfl := Option.some.inj hf
    exact J_lret hK hR qd0_110.2.2.2.2.2.2.2.2.2.2.2.2.2.1 () rfl (by decide) (by decide)
  have hf := iq hc1_2 hf
  by_cases hc1_3 : p0 = 3
  · have hf := ip hc1_3 hf
    refine J_swI (tg := 46) hK dX2_fitted_1 (by rw [hc1_3]; decide) (by rw [hc1_3]; decide) (by rw [hc1_3]; rfl) rfl ?_
    refine J_lload_n hK qd0_110.2.2.2.2.2.2.2.2.2.2.2.2.2.2.1 rfl 1 rfl rfl ?_
    obtain rfl := Option.some.inj hf
    exact J_lret hK hR qd0_110.2.2.2.2.2.2.2.2.2.2.2.2.2.2.2.1 () rfl (by decide) (by decide)
  have hf := iq hc1_3 hf
  refine J_swO (tg := 48) hK dX2_fitted_1 (by have q0 : ¬ p0.toInt = 0 := fun h => hc1_0 (Int32.toInt_inj.mp (h.trans (by decide))); have q1 : ¬ p0.toInt = 1 := fun h => hc1_1 (Int32.toInt_inj.mp (h.trans (by decide))); have q2 : ¬ p0.toInt = 2 := fun h => hc1_2 (Int32.toInt_inj.mp (h.trans (by decide))); have q3 : ¬ p0.toInt = 3 := fun h => hc1_3 (Int32.toInt_inj.mp (h.trans (by decide))); omega) rfl ?_
  refine J_lload_n hK qd0_111.1 rfl 1 rfl rfl ?_
  refine J_lconst (v := 0) hK qd0_111.2.1 rfl (by decide) ?_
  refine J_lcmp hK qd0_111.2.2.1 rfl ?_
  refine J_if_eq (tg := 58) hK qd0_111.2.2.2.1 rfl rfl (fun hc51 => ?_) (fun hc51 => ?_)
  · have hf := ip hc51 hf
    refine J_lconst (v := 0) hK qd0_111.2.2.2.2.2.2.1 rfl (by decide) ?_
    obtain rfl := Option.some.inj hf
    exact J_lret hK hR qd0_111.2.2.2.2.2.2.2.1 () rfl (by decide) (by decide)
  · have hf := iq hc51 hf
    refine J_lconst (v := 1) hK qd0_111.2.2.2.2.1 rfl (by decide) ?_
    refine J_goto hK qd0_111.2.2.2.2.2.1 (n := 59) rfl ?_
    obtain rfl := Option.some.inj hf
    exact J_lret hK hR qd0_111.2.2.2.2.2.2.2.1 () rfl (by decide) (by decide)

def fX2_put (X0 : ShT) (p1 : Int32) (p2 : Int32) (p3 : Int64) : Option ((Nat → Nat → Int64)) :=
  u3 (fun (x0_elements : (Nat → Nat → Int64)) (x0_held : (Nat → Int32)) (x0_sizes : (Nat → Int32)) => (ck p1 8).bind fun q1 => (rd 8 x0_held p1).bind fun v2 => (fX2_fitted v2 p3).bind (fun v3 => (wr 40 (x0_elements q1) p2 v3).bind fun f5 => some (va_up x0_elements q1 f5))) X0
set_option maxHeartbeats 4000000 in
set_option maxRecDepth 100000 in
theorem kX2_put (l : Launch) (d : DT) (h0 : Nat → Nat) (r0_elements : Nat → Nat) (x0_elements : (Nat → Nat → Int64)) (x0_held : (Nat → Int32)) (x0_sizes : (Nat → Int32)) (p1 : Int32) (p2 : Int32) (p3 : Int64)  {out : (Nat → Nat → Int64)} (hf : fX2_put (x0_elements, x0_held, x0_sizes) p1 p2 p3 = some out) : Ct l d yX2_put cX2_put 5 none { frames := 1, cells := 0, slots := 0, locals := 22 } [.ref (h0 0), .int p1, .int p2, .long p3] [gSh d h0 r0_elements x0_held x0_sizes, gridJ d r0_elements 8 40 x0_elements] (fun _ : Unit => (none, [gSh d h0 r0_elements x0_held x0_sizes, gridJ d r0_elements 8 40 out])) := by
  refine Ct.of (by decide) (Nat.le_of_ble_eq_true rfl) ?_
  intro Φ hl hK hR
  subst hl
  have hK : Ok d Φ RX2 "put" cX2_put 5 none { frames := 1, cells := 0, slots := 0, locals := 22 } := hK
  unfold fX2_put at hf
  have hf := un3 hf
  show J d Φ 5 [gSh d h0 r0_elements x0_held x0_sizes, gridJ d r0_elements 8 40 x0_elements] 0 0 0 [(0, .ref (h0 0)), (1, .int p1), (2, .int p2), (3, .long p3)] []
  refine J_aload_n hK qd0_108.1 rfl 0 rfl rfl ?_
  refine J_get hK fo_RX2_13 qd0_108.2.1 rfl 0 0 rfl rfl rfl ?_
  refine J_iload_n hK qd0_108.2.2.1 rfl 1 rfl rfl ?_
  obtain ⟨q1, eq1, hf⟩ := bs hf
  refine J_aald hK qd0_108.2.2.2.1 rfl 0 1 rfl rfl rfl eq1 ?_
  refine J_iload_n hK qd0_108.2.2.2.2.1 rfl 2 rfl rfl ?_
  refine J_aload_n hK qd0_108.2.2.2.2.2.1 rfl 0 rfl rfl ?_
  refine J_get hK fo_RX2_16 qd0_108.2.2.2.2.2.2.1 rfl 0 0 rfl rfl rfl ?_
  refine J_iload_n hK qd0_108.2.2.2.2.2.2.2.1 rfl 1 rfl rfl ?_
  obtain ⟨v2, ev2, hf⟩ := bs hf
  refine J_iald hK qd0_108.2.2.2.2.2.2.2.2.1 rfl 0 2 rfl rfl ev2 ?_
  refine J_lload_n hK qd0_108.2.2.2.2.2.2.2.2.2.1 rfl 3 rfl rfl ?_
  obtain ⟨v3, e4, hf⟩ := bs hf
  refine J_callS (m := 2) (m' := 2) (ce' := 0) (sl' := 0) (gr := [gSh d h0 r0_elements x0_held x0_sizes, gridJ d r0_elements 8 40 x0_elements]) (gs' := fun _ => [gSh d h0 r0_elements x0_held x0_sizes, gridJ d r0_elements 8 40 x0_elements]) (st' := fun _ => [.long v3, .int p2, .ref (r0_elements q1)]) (st := [.int p2, .ref (r0_elements q1)]) hK qd0_108.2.2.2.2.2.2.2.2.2.2.1 cv_RX2_40 ws_yX2_fitted (As := [.int v2, .long p3]) (kX2_fitted _ d v2 p3 e4) rfl rfl (Nat.le_of_ble_eq_true rfl) (by decide) [] [0, 1] rfl (by decide +kernel) rfl rfl [0, 1] (by decide +kernel) (fun _ => rfl) (fun _ => rfl) rfl rfl rfl (fun _ => rfl) (fun _ => ?_)
  obtain ⟨f5, ef5, hf⟩ := bs hf
  refine J_last (g' := gridJ d r0_elements 8 40 (va_up x0_elements q1 f5)) (gs' := [gSh d h0 r0_elements x0_held x0_sizes, gridJ d r0_elements 8 40 (va_up x0_elements q1 f5)]) hK qd0_108.2.2.2.2.2.2.2.2.2.2.2.1 rfl 1 q1 rfl (gridJ_at (ck_ok eq1).2.2) ef5 gridJ_set rfl ?_
  obtain rfl := Option.some.inj hf
  exact J_vret hK hR qd0_108.2.2.2.2.2.2.2.2.2.2.2.2.1 () rfl (by decide) (by decide)

def fX2_dropWorksFrom_s2 (p1 : Int32) (x0_elements : (Nat → Nat → Int64)) (x0_sizes : (Nat → Int32)) (z2 : Int32) (z3 : (Nat → Int32)) : Option ((Int32 × (Nat → Int32)) ⊕ ((Nat → Int32))) :=
  if 8 ≤ z2 then (some (.inr z3)) else ((fX2_workIn (x0_elements, z3, x0_sizes) z2).bind (fun v6 => if v6 < p1 then (some (.inl ((z2 + 1), z3))) else ((wr 8 z3 z2 (-1)).bind fun f8 => some (.inl ((z2 + 1), f8)))))
def fX2_dropWorksFrom (n : Nat) (X0 : ShT) (p1 : Int32) : Option ((Nat → Int32)) :=
  u3 (fun (x0_elements : (Nat → Nat → Int64)) (x0_held : (Nat → Int32)) (x0_sizes : (Nat → Int32)) => (lp (u2 (fX2_dropWorksFrom_s2 p1 x0_elements x0_sizes)) n (0, x0_held)).bind (fun w5 => some w5)) X0
set_option maxHeartbeats 4000000 in
set_option maxRecDepth 100000 in
theorem kX2_dropWorksFrom (l : Launch) (d : DT) (h0 : Nat → Nat) (r0_elements : Nat → Nat) (n : Nat) (x0_elements : (Nat → Nat → Int64)) (x0_held : (Nat → Int32)) (x0_sizes : (Nat → Int32)) (p1 : Int32)  {out : (Nat → Int32)} (hf : fX2_dropWorksFrom n (x0_elements, x0_held, x0_sizes) p1 = some out) : Ct l d yX2_dropWorksFrom cX2_dropWorksFrom 3 none { frames := 2, cells := 0, slots := 0, locals := 42 } [.ref (h0 0), .int p1] [gSh d h0 r0_elements x0_held x0_sizes] (fun _ : Unit => (none, [gSh d h0 r0_elements out x0_sizes])) := by
  refine Ct.of (by decide) (Nat.le_of_ble_eq_true rfl) ?_
  intro Φ hl hK hR
  subst hl
  have hK : Ok d Φ RX2 "dropWorksFrom" cX2_dropWorksFrom 3 none { frames := 2, cells := 0, slots := 0, locals := 42 } := hK
  unfold fX2_dropWorksFrom at hf
  have hf := un3 hf
  show J d Φ 3 [gSh d h0 r0_elements x0_held x0_sizes] 0 0 0 [(0, .ref (h0 0)), (1, .int p1)] []
  refine J_iconst (v := 0) hK qd0_112.1 rfl (by decide) ?_
  refine J_istore_n (L' := [(2, .int (0)), (0, .ref (h0 0)), (1, .int p1)]) hK qd0_112.2.1 rfl rfl (by decide) rfl ?_
  obtain ⟨e4, hl1, hf⟩ := bs hf
  have hx1_30 : ∀ (w5 : (Nat → Int32)), w5 = e4 → J d Φ 3 [gSh d h0 r0_elements w5 x0_sizes] 0 0 30 [] [] := by
    intro w5 he
    rw [← he] at hf
    obtain rfl := Option.some.inj hf
    exact J_vret hK hR qd0_113.2.1 () rfl (by decide) (by decide)
  have lo1 : ∀ (k : Nat) (z2 : Int32) (z3 : (Nat → Int32)), lp (u2 (fX2_dropWorksFrom_s2 p1 x0_elements x0_sizes)) k (z2, z3) = some e4 → J d Φ 3 [gSh d h0 r0_elements z3 x0_sizes] 0 0 2 [(0, .ref (h0 0)), (1, .int p1), (2, .int z2)] [] := by
    intro k
    induction k with
    | zero => intro z2 z3 h; cases h
    | succ k ih1 =>
      intro z2 z3 h
      obtain ⟨k2, rr1, hk2, hs1, hr1⟩ := lp_ok h
      cases hk2
      have hs1 : fX2_dropWorksFrom_s2 p1 x0_elements x0_sizes z2 z3 = some rr1 := hs1
      unfold fX2_dropWorksFrom_s2 at hs1
      refine J_iload_n hK qd0_112.2.2.1 rfl 2 rfl rfl ?_
      refine J_bipush (v := 8) hK qd0_112.2.2.2.1 rfl (by decide) ?_
      refine J_icmp_ge (tg := 30) hK qd0_112.2.2.2.2.1 rfl rfl (fun hc5 => ?_) (fun hc5 => ?_)
      · have hs1 := ip hc5 hs1
        exact J_loc [] rfl (hx1_30 z3 (lpx hs1 hr1))
      · have hs1 := iq hc5 hs1
        refine J_aload_n hK qd0_112.2.2.2.2.2.1 rfl 0 rfl rfl ?_
        refine J_iload_n hK qd0_112.2.2.2.2.2.2.1 rfl 2 rfl rfl ?_
        obtain ⟨v6, e7, hs1⟩ := bs hs1
        refine J_callV (m := 1) (m' := 1) (ce' := 0) (sl' := 0) (gr := []) (gs' := fun _ => [gSh d h0 r0_elements z3 x0_sizes]) (st' := fun _ => [.int v6]) (st := []) hK qd0_112.2.2.2.2.2.2.2.1 cv_RX2_44 iv_yX2_workIn (As := [.int z2]) (kX2_workIn _ d h0 r0_elements x0_elements z3 x0_sizes z2 e7) rfl rfl (Nat.le_of_ble_eq_true rfl) (by decide) 0 0 rfl rfl rfl [0] [] rfl (by decide +kernel) rfl rfl [0] (by decide +kernel) (fun _ => rfl) (fun _ => rfl) rfl rfl rfl (fun _ => rfl) (fun _ => ?_)
        refine J_iload_n hK qd0_112.2.2.2.2.2.2.2.2.1 rfl 1 rfl rfl ?_
        refine J_icmp_lt (tg := 24) hK qd0_112.2.2.2.2.2.2.2.2.2.1 rfl rfl (fun hc14 => ?_) (fun hc14 => ?_)
        · have hs1 := ip hc14 hs1
          refine J_iinc (L' := [(2, .int (z2 + 1)), (0, .ref (h0 0)), (1, .int p1)]) (v := (z2 + 1)) hK qd0_112.2.2.2.2.2.2.2.2.2.2.2.2.2.2.2.1 rfl 2 rfl rfl (by decide) rfl ?_
          refine J_goto hK qd0_113.1 (n := 2) rfl ?_
          exact J_loc [1, 2, 0] rfl (ih1 (z2 + 1) z3 (lpc hs1 hr1))
        · have hs1 := iq hc14 hs1
          refine J_aload_n hK qd0_112.2.2.2.2.2.2.2.2.2.2.1 rfl 0 rfl rfl ?_
          refine J_get hK fo_RX2_16 qd0_112.2.2.2.2.2.2.2.2.2.2.2.1 rfl 0 0 rfl rfl rfl ?_
          refine J_iload_n hK qd0_112.2.2.2.2.2.2.2.2.2.2.2.2.1 rfl 2 rfl rfl ?_
          refine J_iconst (v := (-1)) hK qd0_112.2.2.2.2.2.2.2.2.2.2.2.2.2.1 rfl (by decide) ?_
          obtain ⟨f8, ef8, hs1⟩ := bs hs1
          refine J_iast (g' := gSh d h0 r0_elements f8 x0_sizes) (gs' := [gSh d h0 r0_elements f8 x0_sizes]) hK qd0_112.2.2.2.2.2.2.2.2.2.2.2.2.2.2.1 rfl 0 2 rfl rfl ef8 rfl rfl ?_
          refine J_iinc (L' := [(2, .int (z2 + 1)), (0, .ref (h0 0)), (1, .int p1)]) (v := (z2 + 1)) hK qd0_112.2.2.2.2.2.2.2.2.2.2.2.2.2.2.2.1 rfl 2 rfl rfl (by decide) rfl ?_
          refine J_goto hK qd0_113.1 (n := 2) rfl ?_
          exact J_loc [1, 2, 0] rfl (ih1 (z2 + 1) f8 (lpc hs1 hr1))
  exact J_loc [1, 2, 0] rfl (lo1 n (0) x0_held hl1)

def fX2_inUse_s4 (x0_held : (Nat → Int32)) (z2 : Int32) (z3 : Int32) : Option ((Int32 × Int32) ⊕ (Int32)) :=
  if 8 ≤ z3 then (some (.inr z2)) else ((rd 8 x0_held z3).bind fun v6 => if v6 = (-1) then (some (.inl (z2, (z3 + 1)))) else (some (.inl ((z2 + 1), (z3 + 1)))))
def fX2_inUse (n : Nat) (X0 : ShT) : Option (Int32) :=
  u3 (fun (x0_elements : (Nat → Nat → Int64)) (x0_held : (Nat → Int32)) (x0_sizes : (Nat → Int32)) => (lp (u2 (fX2_inUse_s4 x0_held)) n (0, 0)).bind (fun w5 => some w5)) X0
set_option maxHeartbeats 4000000 in
set_option maxRecDepth 100000 in
theorem kX2_inUse (l : Launch) (d : DT) (h0 : Nat → Nat) (r0_elements : Nat → Nat) (n : Nat) (x0_elements : (Nat → Nat → Int64)) (x0_held : (Nat → Int32)) (x0_sizes : (Nat → Int32))  {out : Int32} (hf : fX2_inUse n (x0_elements, x0_held, x0_sizes) = some out) : Ct l d yX2_inUse cX2_inUse 3 (some .int) { frames := 0, cells := 0, slots := 0, locals := 0 } [.ref (h0 0)] [gSh d h0 r0_elements x0_held x0_sizes] (fun _ : Unit => (some (.int out), [gSh d h0 r0_elements x0_held x0_sizes])) := by
  refine Ct.of (by decide) (Nat.le_of_ble_eq_true rfl) ?_
  intro Φ hl hK hR
  subst hl
  have hK : Ok d Φ RX2 "inUse" cX2_inUse 3 (some .int) { frames := 0, cells := 0, slots := 0, locals := 0 } := hK
  unfold fX2_inUse at hf
  have hf := un3 hf
  show J d Φ 3 [gSh d h0 r0_elements x0_held x0_sizes] 0 0 0 [(0, .ref (h0 0))] []
  refine J_iconst (v := 0) hK qd0_114.1 rfl (by decide) ?_
  refine J_istore_n (L' := [(1, .int (0)), (0, .ref (h0 0))]) hK qd0_114.2.1 rfl rfl (by decide) rfl ?_
  refine J_iconst (v := 0) hK qd0_114.2.2.1 rfl (by decide) ?_
  refine J_istore_n (L' := [(2, .int (0)), (1, .int (0)), (0, .ref (h0 0))]) hK qd0_114.2.2.2.1 rfl rfl (by decide) rfl ?_
  obtain ⟨e4, hl1, hf⟩ := bs hf
  have hx1_29 : ∀ (w5 : Int32), w5 = e4 → J d Φ 3 [gSh d h0 r0_elements x0_held x0_sizes] 0 0 29 [(1, .int w5)] [] := by
    intro w5 he
    rw [← he] at hf
    refine J_iload_n hK qd0_115.1 rfl 0 rfl rfl ?_
    obtain rfl := Option.some.inj hf
    exact J_iret hK hR qd0_115.2.1 () rfl (by decide) (by decide)
  have lo1 : ∀ (k : Nat) (z2 : Int32) (z3 : Int32), lp (u2 (fX2_inUse_s4 x0_held)) k (z2, z3) = some e4 → J d Φ 3 [gSh d h0 r0_elements x0_held x0_sizes] 0 0 4 [(0, .ref (h0 0)), (1, .int z2), (2, .int z3)] [] := by
    intro k
    induction k with
    | zero => intro z2 z3 h; cases h
    | succ k ih1 =>
      intro z2 z3 h
      obtain ⟨k2, rr1, hk2, hs1, hr1⟩ := lp_ok h
      cases hk2
      have hs1 : fX2_inUse_s4 x0_held z2 z3 = some rr1 := hs1
      unfold fX2_inUse_s4 at hs1
      refine J_iload_n hK qd0_114.2.2.2.2.1 rfl 2 rfl rfl ?_
      refine J_bipush (v := 8) hK qd0_114.2.2.2.2.2.1 rfl (by decide) ?_
      refine J_icmp_ge (tg := 29) hK qd0_114.2.2.2.2.2.2.1 rfl rfl (fun hc7 => ?_) (fun hc7 => ?_)
      · have hs1 := ip hc7 hs1
        exact J_loc [1] rfl (hx1_29 z2 (lpx hs1 hr1))
      · have hs1 := iq hc7 hs1
        refine J_aload_n hK qd0_114.2.2.2.2.2.2.2.1 rfl 0 rfl rfl ?_
        refine J_get hK fo_RX2_16 qd0_114.2.2.2.2.2.2.2.2.1 rfl 0 0 rfl rfl rfl ?_
        refine J_iload_n hK qd0_114.2.2.2.2.2.2.2.2.2.1 rfl 2 rfl rfl ?_
        obtain ⟨v6, ev6, hs1⟩ := bs hs1
        refine J_iald hK qd0_114.2.2.2.2.2.2.2.2.2.2.1 rfl 0 2 rfl rfl ev6 ?_
        refine J_iconst (v := (-1)) hK qd0_114.2.2.2.2.2.2.2.2.2.2.2.1 rfl (by decide) ?_
        refine J_icmp_eq (tg := 23) hK qd0_114.2.2.2.2.2.2.2.2.2.2.2.2.1 rfl rfl (fun hc17 => ?_) (fun hc17 => ?_)
        · have hs1 := ip hc17 hs1
          refine J_iinc (L' := [(2, .int (z3 + 1)), (0, .ref (h0 0)), (1, .int z2)]) (v := (z3 + 1)) hK qd0_114.2.2.2.2.2.2.2.2.2.2.2.2.2.2.1 rfl 2 rfl rfl (by decide) rfl ?_
          refine J_goto hK qd0_114.2.2.2.2.2.2.2.2.2.2.2.2.2.2.2.1 (n := 4) rfl ?_
          exact J_loc [1, 2, 0] rfl (ih1 z2 (z3 + 1) (lpc hs1 hr1))
        · have hs1 := iq hc17 hs1
          refine J_iinc (L' := [(1, .int (z2 + 1)), (0, .ref (h0 0)), (2, .int z3)]) (v := (z2 + 1)) hK qd0_114.2.2.2.2.2.2.2.2.2.2.2.2.2.1 rfl 1 rfl rfl (by decide) rfl ?_
          refine J_iinc (L' := [(2, .int (z3 + 1)), (1, .int (z2 + 1)), (0, .ref (h0 0))]) (v := (z3 + 1)) hK qd0_114.2.2.2.2.2.2.2.2.2.2.2.2.2.2.1 rfl 2 rfl rfl (by decide) rfl ?_
          refine J_goto hK qd0_114.2.2.2.2.2.2.2.2.2.2.2.2.2.2.2.1 (n := 4) rfl ?_
          exact J_loc [2, 1, 0] rfl (ih1 (z2 + 1) (z3 + 1) (lpc hs1 hr1))
  exact J_loc [2, 1, 0] rfl (lo1 n (0) (0) hl1)

def fX3_put (X0 : TpT) (p1 : Int32) : Option ((Nat → Int32) × Int32) :=
  u6 (fun (x0_bytes : (Nat → Int32)) (x0_size : Int32) (x0_start : Int32) (x0_end : Int32) (x0_token : Int32) (x0_value : Int32) => if 250 ≤ x0_size then (some (x0_bytes, x0_size)) else ((wr 250 x0_bytes x0_size p1).bind fun f1 => some (f1, (x0_size + 1)))) X0
set_option maxHeartbeats 4000000 in
set_option maxRecDepth 100000 in
theorem kX3_put (l : Launch) (d : DT) (h0 : Nat → Nat) (x0_bytes : (Nat → Int32)) (x0_size : Int32) (x0_start : Int32) (x0_end : Int32) (x0_token : Int32) (x0_value : Int32) (p1 : Int32)  {out : (Nat → Int32) × Int32} (hf : fX3_put (x0_bytes, x0_size, x0_start, x0_end, x0_token, x0_value) p1 = some out) : Ct l d yX3_put cX3_put 2 none { frames := 0, cells := 0, slots := 0, locals := 0 } [.ref (h0 0), .int p1] [gTp d h0 x0_bytes x0_size x0_start x0_end x0_token x0_value] (fun _ : Unit => (none, [gTp d h0 (out.1) (out.2) x0_start x0_end x0_token x0_value])) := by
  refine Ct.of (by decide) (Nat.le_of_ble_eq_true rfl) ?_
  intro Φ hl hK hR
  subst hl
  have hK : Ok d Φ RX3 "put" cX3_put 2 none { frames := 0, cells := 0, slots := 0, locals := 0 } := hK
  unfold fX3_put at hf
  have hf := un6 hf
  show J d Φ 2 [gTp d h0 x0_bytes x0_size x0_start x0_end x0_token x0_value] 0 0 0 [(0, .ref (h0 0)), (1, .int p1)] []
  refine J_aload_n hK qd0_118.1 rfl 0 rfl rfl ?_
  refine J_get hK fo_RX3_15 qd0_118.2.1 rfl 0 0 rfl rfl rfl ?_
  refine J_sipush (v := 250) hK qd0_118.2.2.1 rfl (by decide) ?_
  refine J_icmp_ge (tg := 30) hK qd0_118.2.2.2.1 rfl rfl (fun hc7 => ?_) (fun hc7 => ?_)
  · have hf := ip hc7 hf
    obtain rfl := Option.some.inj hf
    exact J_vret hK hR qd0_119.1 () rfl (by decide) (by decide)
  · have hf := iq hc7 hf
    refine J_aload_n hK qd0_118.2.2.2.2.1 rfl 0 rfl rfl ?_
    refine J_get hK fo_RX3_11 qd0_118.2.2.2.2.2.1 rfl 0 0 rfl rfl rfl ?_
    refine J_aload_n hK qd0_118.2.2.2.2.2.2.1 rfl 0 rfl rfl ?_
    refine J_get hK fo_RX3_15 qd0_118.2.2.2.2.2.2.2.1 rfl 0 0 rfl rfl rfl ?_
    refine J_iload_n hK qd0_118.2.2.2.2.2.2.2.2.1 rfl 1 rfl rfl ?_
    obtain ⟨f1, ef1, hf⟩ := bs hf
    refine J_iast (g' := gTp d h0 f1 x0_size x0_start x0_end x0_token x0_value) (gs' := [gTp d h0 f1 x0_size x0_start x0_end x0_token x0_value]) hK qd0_118.2.2.2.2.2.2.2.2.2.1 rfl 0 1 rfl rfl ef1 rfl rfl ?_
    refine J_aload_n hK qd0_118.2.2.2.2.2.2.2.2.2.2.1 rfl 0 rfl rfl ?_
    refine J_dup hK qd0_118.2.2.2.2.2.2.2.2.2.2.2.1 rfl rfl ?_
    refine J_get hK fo_RX3_15 qd0_118.2.2.2.2.2.2.2.2.2.2.2.2.1 rfl 0 0 rfl rfl rfl ?_
    refine J_iconst (v := 1) hK qd0_118.2.2.2.2.2.2.2.2.2.2.2.2.2.1 rfl (by decide) ?_
    refine J_iadd hK qd0_118.2.2.2.2.2.2.2.2.2.2.2.2.2.2.1 rfl ?_
    refine J_put (g' := gTp d h0 f1 (x0_size + 1) x0_start x0_end x0_token x0_value) (gs' := [gTp d h0 f1 (x0_size + 1) x0_start x0_end x0_token x0_value]) hK fp_RX3_15 qd0_118.2.2.2.2.2.2.2.2.2.2.2.2.2.2.2.1 rfl 0 0 rfl rfl rfl rfl (Nat.le_of_ble_eq_true rfl) rfl rfl ?_
    obtain rfl := Option.some.inj hf
    exact J_vret hK hR qd0_119.1 () rfl (by decide) (by decide)

def fX3_tokenAt_j45 (v1 : Int32) : Option (Int32) :=
  if v1 = 59 then (some (3)) else (some (4))
def fX3_tokenAt_j31 (v1 : Int32) : Option (Int32) :=
  if v1 < 48 then (fX3_tokenAt_j45 v1) else (if 57 < v1 then (fX3_tokenAt_j45 v1) else (some (2)))
def fX3_tokenAt (X0 : TpT) (p1 : Int32) : Option (Int32) :=
  u6 (fun (x0_bytes : (Nat → Int32)) (x0_size : Int32) (x0_start : Int32) (x0_end : Int32) (x0_token : Int32) (x0_value : Int32) => if p1 < x0_size then ((rd 250 x0_bytes p1).bind fun v1 => if v1 < 97 then (fX3_tokenAt_j31 v1) else (if 122 < v1 then (fX3_tokenAt_j31 v1) else (some (1)))) else (some (0))) X0
set_option maxHeartbeats 4000000 in
set_option maxRecDepth 100000 in
theorem kX3_tokenAt (l : Launch) (d : DT) (h0 : Nat → Nat) (x0_bytes : (Nat → Int32)) (x0_size : Int32) (x0_start : Int32) (x0_end : Int32) (x0_token : Int32) (x0_value : Int32) (p1 : Int32)  {out : Int32} (hf : fX3_tokenAt (x0_bytes, x0_size, x0_start, x0_end, x0_token, x0_value) p1 = some out) : Ct l d yX3_tokenAt cX3_tokenAt 3 (some .int) { frames := 0, cells := 0, slots := 0, locals := 0 } [.ref (h0 0), .int p1] [gTp d h0 x0_bytes x0_size x0_start x0_end x0_token x0_value] (fun _ : Unit => (some (.int out), [gTp d h0 x0_bytes x0_size x0_start x0_end x0_token x0_value])) := by
  refine Ct.of (by decide) (Nat.le_of_ble_eq_true rfl) ?_
  intro Φ hl hK hR
  subst hl
  have hK : Ok d Φ RX3 "tokenAt" cX3_tokenAt 3 (some .int) { frames := 0, cells := 0, slots := 0, locals := 0 } := hK
  unfold fX3_tokenAt at hf
  have hf := un6 hf
  show J d Φ 3 [gTp d h0 x0_bytes x0_size x0_start x0_end x0_token x0_value] 0 0 0 [(0, .ref (h0 0)), (1, .int p1)] []
  refine J_iload_n hK qd1_4.1 rfl 1 rfl rfl ?_
  refine J_aload_n hK qd1_4.2.1 rfl 0 rfl rfl ?_
  refine J_get hK fo_RX3_15 qd1_4.2.2.1 rfl 0 0 rfl rfl rfl ?_
  refine J_icmp_lt (tg := 10) hK qd1_4.2.2.2.1 rfl rfl (fun hc5 => ?_) (fun hc5 => ?_)
  · have hf := ip hc5 hf
    refine J_aload_n hK qd1_4.2.2.2.2.2.2.1 rfl 0 rfl rfl ?_
    refine J_get hK fo_RX3_11 qd1_4.2.2.2.2.2.2.2.1 rfl 0 0 rfl rfl rfl ?_
    refine J_iload_n hK qd1_4.2.2.2.2.2.2.2.2.1 rfl 1 rfl rfl ?_
    obtain ⟨v1, ev1, hf⟩ := bs hf
    refine J_iald hK qd1_4.2.2.2.2.2.2.2.2.2.1 rfl 0 1 rfl rfl ev1 ?_
    refine J_istore_n (L' := [(2, .int v1), (0, .ref (h0 0)), (1, .int p1)]) hK qd1_4.2.2.2.2.2.2.2.2.2.2.1 rfl rfl (by decide) rfl ?_
    refine J_iload_n hK qd1_4.2.2.2.2.2.2.2.2.2.2.2.1 rfl 0 rfl rfl ?_
    refine J_bipush (v := 97) hK qd1_4.2.2.2.2.2.2.2.2.2.2.2.2.1 rfl (by decide) ?_
    have j31 : fX3_tokenAt_j31 v1 = some out → J d Φ 3 [gTp d h0 x0_bytes x0_size x0_start x0_end x0_token x0_value] 0 0 31 [(2, .int v1)] [] := by
      intro  hf
      unfold fX3_tokenAt_j31 at hf
      refine J_iload_n hK qd1_5.2.2.2.1 rfl 0 rfl rfl ?_
      refine J_bipush (v := 48) hK qd1_5.2.2.2.2.1 rfl (by decide) ?_
      have j45 : fX3_tokenAt_j45 v1 = some out → J d Φ 3 [gTp d h0 x0_bytes x0_size x0_start x0_end x0_token x0_value] 0 0 45 [(2, .int v1)] [] := by
        intro  hf
        unfold fX3_tokenAt_j45 at hf
        refine J_iload_n hK qd1_5.2.2.2.2.2.2.2.2.2.2.2.1 rfl 0 rfl rfl ?_
        refine J_bipush (v := 59) hK qd1_5.2.2.2.2.2.2.2.2.2.2.2.2.1 rfl (by decide) ?_
        refine J_icmp_ne (tg := 55) hK qd1_5.2.2.2.2.2.2.2.2.2.2.2.2.2.1 rfl rfl (fun hc48 => ?_) (fun hc48 => ?_)
        · have hf := iq hc48 hf
          refine J_iconst (v := 4) hK qd1_6.1 rfl (by decide) ?_
          obtain rfl := Option.some.inj hf
          exact J_iret hK hR qd1_6.2.1 () rfl (by decide) (by decide)
        · have hf := ip hc48 hf
          refine J_iconst (v := 3) hK qd1_5.2.2.2.2.2.2.2.2.2.2.2.2.2.2.1 rfl (by decide) ?_
          refine J_goto hK qd1_5.2.2.2.2.2.2.2.2.2.2.2.2.2.2.2.1 (n := 56) rfl ?_
          obtain rfl := Option.some.inj hf
          exact J_iret hK hR qd1_6.2.1 () rfl (by decide) (by decide)
      refine J_icmp_lt (tg := 45) hK qd1_5.2.2.2.2.2.1 rfl rfl (fun hc34 => ?_) (fun hc34 => ?_)
      · have hf := ip hc34 hf
        exact (j45  hf)
      · have hf := iq hc34 hf
        refine J_iload_n hK qd1_5.2.2.2.2.2.2.1 rfl 0 rfl rfl ?_
        refine J_bipush (v := 57) hK qd1_5.2.2.2.2.2.2.2.1 rfl (by decide) ?_
        refine J_icmp_gt (tg := 45) hK qd1_5.2.2.2.2.2.2.2.2.1 rfl rfl (fun hc40 => ?_) (fun hc40 => ?_)
        · have hf := ip hc40 hf
          exact (j45  hf)
        · have hf := iq hc40 hf
          refine J_iconst (v := 2) hK qd1_5.2.2.2.2.2.2.2.2.2.1 rfl (by decide) ?_
          obtain rfl := Option.some.inj hf
          exact J_iret hK hR qd1_5.2.2.2.2.2.2.2.2.2.2.1 () rfl (by decide) (by decide)
    refine J_icmp_lt (tg := 31) hK qd1_4.2.2.2.2.2.2.2.2.2.2.2.2.2.1 rfl rfl (fun hc20 => ?_) (fun hc20 => ?_)
    · have hf := ip hc20 hf
      exact J_loc [0] rfl (j31  hf)
    · have hf := iq hc20 hf
      refine J_iload_n hK qd1_4.2.2.2.2.2.2.2.2.2.2.2.2.2.2.1 rfl 0 rfl rfl ?_
      refine J_bipush (v := 122) hK qd1_4.2.2.2.2.2.2.2.2.2.2.2.2.2.2.2.1 rfl (by decide) ?_
      refine J_icmp_gt (tg := 31) hK qd1_5.1 rfl rfl (fun hc26 => ?_) (fun hc26 => ?_)
      · have hf := ip hc26 hf
        exact J_loc [0] rfl (j31  hf)
      · have hf := iq hc26 hf
        refine J_iconst (v := 1) hK qd1_5.2.1 rfl (by decide) ?_
        obtain rfl := Option.some.inj hf
        exact J_iret hK hR qd1_5.2.2.1 () rfl (by decide) (by decide)
  · have hf := iq hc5 hf
    refine J_iconst (v := 0) hK qd1_4.2.2.2.2.1 rfl (by decide) ?_
    obtain rfl := Option.some.inj hf
    exact J_iret hK hR qd1_4.2.2.2.2.2.1 () rfl (by decide) (by decide)

def fX3_valueHere_s22 (x0_bytes : (Nat → Int32)) (x0_end : Int32) (z2 : Int32) (z3 : Int32) : Option ((Int32 × Int32) ⊕ (Int32)) :=
  if x0_end ≤ z3 then (some (.inr z2)) else ((rd 250 x0_bytes z3).bind fun v6 => some (.inl ((((10 * z2) + v6) - 48), (z3 + 1))))
def fX3_valueHere (n : Nat) (X0 : TpT) : Option (Int32) :=
  u6 (fun (x0_bytes : (Nat → Int32)) (x0_size : Int32) (x0_start : Int32) (x0_end : Int32) (x0_token : Int32) (x0_value : Int32) => if (x0_end - x0_start) ≤ 3 then ((lp (u2 (fX3_valueHere_s22 x0_bytes x0_end)) n (0, x0_start)).bind (fun w5 => some w5)) else (some (-1))) X0
set_option maxHeartbeats 4000000 in
set_option maxRecDepth 100000 in
theorem kX3_valueHere (l : Launch) (d : DT) (h0 : Nat → Nat) (n : Nat) (x0_bytes : (Nat → Int32)) (x0_size : Int32) (x0_start : Int32) (x0_end : Int32) (x0_token : Int32) (x0_value : Int32)  {out : Int32} (hf : fX3_valueHere n (x0_bytes, x0_size, x0_start, x0_end, x0_token, x0_value) = some out) : Ct l d yX3_valueHere cX3_valueHere 3 (some .int) { frames := 0, cells := 0, slots := 0, locals := 0 } [.ref (h0 0)] [gTp d h0 x0_bytes x0_size x0_start x0_end x0_token x0_value] (fun _ : Unit => (some (.int out), [gTp d h0 x0_bytes x0_size x0_start x0_end x0_token x0_value])) := by
  refine Ct.of (by decide) (Nat.le_of_ble_eq_true rfl) ?_
  intro Φ hl hK hR
  subst hl
  have hK : Ok d Φ RX3 "valueHere" cX3_valueHere 3 (some .int) { frames := 0, cells := 0, slots := 0, locals := 0 } := hK
  unfold fX3_valueHere at hf
  have hf := un6 hf
  show J d Φ 3 [gTp d h0 x0_bytes x0_size x0_start x0_end x0_token x0_value] 0 0 0 [(0, .ref (h0 0))] []
  refine J_aload_n hK qd1_7.1 rfl 0 rfl rfl ?_
  refine J_get hK fo_RX3_19 qd1_7.2.1 rfl 0 0 rfl rfl rfl ?_
  refine J_aload_n hK qd1_7.2.2.1 rfl 0 rfl rfl ?_
  refine J_get hK fo_RX3_29 qd1_7.2.2.2.1 rfl 0 0 rfl rfl rfl ?_
  refine J_isub hK qd1_7.2.2.2.2.1 rfl ?_
  refine J_iconst (v := 3) hK qd1_7.2.2.2.2.2.1 rfl (by decide) ?_
  refine J_icmp_le (tg := 15) hK qd1_7.2.2.2.2.2.2.1 rfl rfl (fun hc10 => ?_) (fun hc10 => ?_)
  · have hf := ip hc10 hf
    refine J_iconst (v := 0) hK qd1_7.2.2.2.2.2.2.2.2.2.1 rfl (by decide) ?_
    refine J_istore_n (L' := [(1, .int (0)), (0, .ref (h0 0))]) hK qd1_7.2.2.2.2.2.2.2.2.2.2.1 rfl rfl (by decide) rfl ?_
    refine J_aload_n hK qd1_7.2.2.2.2.2.2.2.2.2.2.2.1 rfl 1 rfl rfl ?_
    refine J_get hK fo_RX3_29 qd1_7.2.2.2.2.2.2.2.2.2.2.2.2.1 rfl 0 0 rfl rfl rfl ?_
    refine J_istore_n (L' := [(2, .int x0_start), (1, .int (0)), (0, .ref (h0 0))]) hK qd1_7.2.2.2.2.2.2.2.2.2.2.2.2.2.1 rfl rfl (by decide) rfl ?_
    obtain ⟨e4, hl1, hf⟩ := bs hf
    have hx1_51 : ∀ (w5 : Int32), w5 = e4 → J d Φ 3 [gTp d h0 x0_bytes x0_size x0_start x0_end x0_token x0_value] 0 0 51 [(1, .int w5)] [] := by
      intro w5 he
      rw [← he] at hf
      refine J_iload_n hK qd1_8.2.2.2.2.2.2.2.2.2.2.2.2.2.2.2.1 rfl 0 rfl rfl ?_
      obtain rfl := Option.some.inj hf
      exact J_iret hK hR qd1_9.1 () rfl (by decide) (by decide)
    have lo1 : ∀ (k : Nat) (z2 : Int32) (z3 : Int32), lp (u2 (fX3_valueHere_s22 x0_bytes x0_end)) k (z2, z3) = some e4 → J d Φ 3 [gTp d h0 x0_bytes x0_size x0_start x0_end x0_token x0_value] 0 0 22 [(0, .ref (h0 0)), (1, .int z2), (2, .int z3)] [] := by
      intro k
      induction k with
      | zero => intro z2 z3 h; cases h
      | succ k ih1 =>
        intro z2 z3 h
        obtain ⟨k2, rr1, hk2, hs1, hr1⟩ := lp_ok h
        cases hk2
        have hs1 : fX3_valueHere_s22 x0_bytes x0_end z2 z3 = some rr1 := hs1
        unfold fX3_valueHere_s22 at hs1
        refine J_iload_n hK qd1_7.2.2.2.2.2.2.2.2.2.2.2.2.2.2.1 rfl 2 rfl rfl ?_
        refine J_aload_n hK qd1_7.2.2.2.2.2.2.2.2.2.2.2.2.2.2.2.1 rfl 0 rfl rfl ?_
        refine J_get hK fo_RX3_19 qd1_8.1 rfl 0 0 rfl rfl rfl ?_
        refine J_icmp_ge (tg := 51) hK qd1_8.2.1 rfl rfl (fun hc27 => ?_) (fun hc27 => ?_)
        · have hs1 := ip hc27 hs1
          exact J_loc [1] rfl (hx1_51 z2 (lpx hs1 hr1))
        · have hs1 := iq hc27 hs1
          refine J_bipush (v := 10) hK qd1_8.2.2.1 rfl (by decide) ?_
          refine J_iload_n hK qd1_8.2.2.2.1 rfl 1 rfl rfl ?_
          refine J_imul hK qd1_8.2.2.2.2.1 rfl ?_
          refine J_aload_n hK qd1_8.2.2.2.2.2.1 rfl 0 rfl rfl ?_
          refine J_get hK fo_RX3_11 qd1_8.2.2.2.2.2.2.1 rfl 0 0 rfl rfl rfl ?_
          refine J_iload_n hK qd1_8.2.2.2.2.2.2.2.1 rfl 2 rfl rfl ?_
          obtain ⟨v6, ev6, hs1⟩ := bs hs1
          refine J_iald hK qd1_8.2.2.2.2.2.2.2.2.1 rfl 0 1 rfl rfl ev6 ?_
          refine J_iadd hK qd1_8.2.2.2.2.2.2.2.2.2.1 rfl ?_
          refine J_bipush (v := 48) hK qd1_8.2.2.2.2.2.2.2.2.2.2.1 rfl (by decide) ?_
          refine J_isub hK qd1_8.2.2.2.2.2.2.2.2.2.2.2.1 rfl ?_
          refine J_istore_n (L' := [(1, .int (((10 * z2) + v6) - 48)), (0, .ref (h0 0)), (2, .int z3)]) hK qd1_8.2.2.2.2.2.2.2.2.2.2.2.2.1 rfl rfl (by decide) rfl ?_
          refine J_iinc (L' := [(2, .int (z3 + 1)), (1, .int (((10 * z2) + v6) - 48)), (0, .ref (h0 0))]) (v := (z3 + 1)) hK qd1_8.2.2.2.2.2.2.2.2.2.2.2.2.2.1 rfl 2 rfl rfl (by decide) rfl ?_
          refine J_goto hK qd1_8.2.2.2.2.2.2.2.2.2.2.2.2.2.2.1 (n := 22) rfl ?_
          exact J_loc [2, 1, 0] rfl (ih1 (((10 * z2) + v6) - 48) (z3 + 1) (lpc hs1 hr1))
    exact J_loc [2, 1, 0] rfl (lo1 n (0) x0_start hl1)
  · have hf := iq hc10 hf
    refine J_iconst (v := (-1)) hK qd1_7.2.2.2.2.2.2.2.1 rfl (by decide) ?_
    obtain rfl := Option.some.inj hf
    exact J_iret hK hR qd1_7.2.2.2.2.2.2.2.2.1 () rfl (by decide) (by decide)

def fX3_next_j96 (n : Nat) (x0_bytes : (Nat → Int32)) (x0_size : Int32) (x0_value : Int32) (w4 : Int32) (v5 : Int32) (y8 : Int32) : Option (Int32 × Int32 × Int32 × Int32) :=
  if v5 = 2 then ((fX3_valueHere n (x0_bytes, x0_size, w4, y8, v5, x0_value)).bind (fun v9 => some (w4, y8, v5, v9))) else (some (w4, y8, v5, (-1)))
def fX3_next_s70 (x0_bytes : (Nat → Int32)) (x0_size : Int32) (x0_end : Int32) (x0_value : Int32) (w4 : Int32) (v5 : Int32) (z12 : Int32) : Option ((Int32) ⊕ (Int32)) :=
  if x0_size ≤ z12 then (some (.inr z12)) else ((fX3_tokenAt (x0_bytes, x0_size, w4, x0_end, v5, x0_value) z12).bind (fun v15 => if v15 = v5 then (some (.inl (z12 + 1))) else (some (.inr z12))))
def fX3_next_s70b (x0_bytes : (Nat → Int32)) (x0_size : Int32) (x0_end : Int32) (x0_value : Int32) (w4 : Int32) (v5 : Int32) (z18 : Int32) : Option ((Int32) ⊕ (Int32)) :=
  if x0_size ≤ z18 then (some (.inr z18)) else ((fX3_tokenAt (x0_bytes, x0_size, w4, x0_end, v5, x0_value) z18).bind (fun v21 => if v21 = v5 then (some (.inl (z18 + 1))) else (some (.inr z18))))
def fX3_next_j54 (n : Nat) (x0_bytes : (Nat → Int32)) (x0_size : Int32) (x0_end : Int32) (x0_value : Int32) (w4 : Int32) (v5 : Int32) (y7 : Int32) : Option (Int32 × Int32 × Int32 × Int32) :=
  if v5 = 1 then ((lp (fX3_next_s70 x0_bytes x0_size x0_end x0_value w4 v5) n y7).bind (fun w14 => fX3_next_j96 n x0_bytes x0_size x0_value w4 v5 w14)) else (if v5 = 2 then ((lp (fX3_next_s70b x0_bytes x0_size x0_end x0_value w4 v5) n y7).bind (fun w20 => fX3_next_j96 n x0_bytes x0_size x0_value w4 v5 w20)) else (fX3_next_j96 n x0_bytes x0_size x0_value w4 v5 y7))
def fX3_next_s5 (x0_bytes : (Nat → Int32)) (x0_size : Int32) (z2 : Int32) : Option ((Int32) ⊕ (Int32)) :=
  if x0_size ≤ z2 then (some (.inr z2)) else ((rd 250 x0_bytes z2).bind fun v23 => if v23 = 32 then (some (.inl (z2 + 1))) else (some (.inr z2)))
def fX3_next (n : Nat) (X0 : TpT) : Option (Int32 × Int32 × Int32 × Int32) :=
  u6 (fun (x0_bytes : (Nat → Int32)) (x0_size : Int32) (x0_start : Int32) (x0_end : Int32) (x0_token : Int32) (x0_value : Int32) => (lp (fX3_next_s5 x0_bytes x0_size) n x0_end).bind (fun w4 => (fX3_tokenAt (x0_bytes, x0_size, w4, x0_end, x0_token, x0_value) w4).bind (fun v5 => if v5 = 0 then (fX3_next_j54 n x0_bytes x0_size x0_end x0_value w4 v5 w4) else (fX3_next_j54 n x0_bytes x0_size x0_end x0_value w4 v5 (w4 + 1))))) X0
set_option maxHeartbeats 4000000 in
set_option maxRecDepth 100000 in
theorem kX3_next (l : Launch) (d : DT) (h0 : Nat → Nat) (n : Nat) (x0_bytes : (Nat → Int32)) (x0_size : Int32) (x0_start : Int32) (x0_end : Int32) (x0_token : Int32) (x0_value : Int32)  {out : Int32 × Int32 × Int32 × Int32} (hf : fX3_next n (x0_bytes, x0_size, x0_start, x0_end, x0_token, x0_value) = some out) : Ct l d yX3_next cX3_next 2 none { frames := 1, cells := 0, slots := 0, locals := 22 } [.ref (h0 0)] [gTp d h0 x0_bytes x0_size x0_start x0_end x0_token x0_value] (fun _ : Unit => (none, [gTp d h0 x0_bytes x0_size (out.1) (out.2.1) (out.2.2.1) (out.2.2.2)])) := by
  refine Ct.of (by decide) (Nat.le_of_ble_eq_true rfl) ?_
  intro Φ hl hK hR
  subst hl
  have hK : Ok d Φ RX3 "next" cX3_next 2 none { frames := 1, cells := 0, slots := 0, locals := 22 } := hK
  unfold fX3_next at hf
  have hf := un6 hf
  show J d Φ 2 [gTp d h0 x0_bytes x0_size x0_start x0_end x0_token x0_value] 0 0 0 [(0, .ref (h0 0))] []
  refine J_aload_n hK qd1_0.1 rfl 0 rfl rfl ?_
  refine J_get hK fo_RX3_19 qd1_0.2.1 rfl 0 0 rfl rfl rfl ?_
  refine J_istore_n (L' := [(1, .int x0_end), (0, .ref (h0 0))]) hK qd1_0.2.2.1 rfl rfl (by decide) rfl ?_
  obtain ⟨e3, hl1, hf⟩ := bs hf
  have hx1_30 : ∀ (w4 : Int32), w4 = e3 → J d Φ 2 [gTp d h0 x0_bytes x0_size x0_start x0_end x0_token x0_value] 0 0 30 [(0, .ref (h0 0)), (1, .int w4)] [] := by
    intro w4 he
    rw [← he] at hf
    refine J_aload_n hK qd1_0.2.2.2.2.2.2.2.2.2.2.2.2.2.2.2.1 rfl 0 rfl rfl ?_
    refine J_iload_n hK qd1_1.1 rfl 1 rfl rfl ?_
    refine J_put (g' := gTp d h0 x0_bytes x0_size w4 x0_end x0_token x0_value) (gs' := [gTp d h0 x0_bytes x0_size w4 x0_end x0_token x0_value]) hK fp_RX3_29 qd1_1.2.1 rfl 0 0 rfl rfl rfl rfl (Nat.le_of_ble_eq_true rfl) rfl rfl ?_
    refine J_aload_n hK qd1_1.2.2.1 rfl 0 rfl rfl ?_
    refine J_aload_n hK qd1_1.2.2.2.1 rfl 0 rfl rfl ?_
    refine J_iload_n hK qd1_1.2.2.2.2.1 rfl 1 rfl rfl ?_
    obtain ⟨v5, e6, hf⟩ := bs hf
    refine J_callV (m := 1) (m' := 1) (ce' := 0) (sl' := 0) (gr := []) (gs' := fun _ => [gTp d h0 x0_bytes x0_size w4 x0_end x0_token x0_value]) (st' := fun _ => [.int v5, .ref (h0 0)]) (st := [.ref (h0 0)]) hK qd1_1.2.2.2.2.2.1 cv_RX3_148 iv_yX3_tokenAt (As := [.int w4]) (kX3_tokenAt _ d h0 x0_bytes x0_size w4 x0_end x0_token x0_value w4 e6) rfl rfl (Nat.le_of_ble_eq_true rfl) (by decide) 0 0 rfl rfl rfl [0] [] rfl (by decide +kernel) rfl rfl [0] (by decide +kernel) (fun _ => rfl) (fun _ => rfl) rfl rfl rfl (fun _ => rfl) (fun _ => ?_)
    refine J_put (g' := gTp d h0 x0_bytes x0_size w4 x0_end v5 x0_value) (gs' := [gTp d h0 x0_bytes x0_size w4 x0_end v5 x0_value]) hK fp_RX3_32 qd1_1.2.2.2.2.2.2.1 rfl 0 0 rfl rfl rfl rfl (Nat.le_of_ble_eq_true rfl) rfl rfl ?_
    refine J_aload_n hK qd1_1.2.2.2.2.2.2.2.1 rfl 0 rfl rfl ?_
    refine J_get hK fo_RX3_32 qd1_1.2.2.2.2.2.2.2.2.1 rfl 0 0 rfl rfl rfl ?_
    have j54 : ∀ (y7 : Int32), fX3_next_j54 n x0_bytes x0_size x0_end x0_value w4 v5 y7 = some out → J d Φ 2 [gTp d h0 x0_bytes x0_size w4 x0_end v5 x0_value] 0 0 54 [(0, .ref (h0 0)), (1, .int y7)] [] := by
      intro y7 hf
      unfold fX3_next_j54 at hf
      refine J_aload_n hK qd1_1.2.2.2.2.2.2.2.2.2.2.2.1 rfl 0 rfl rfl ?_
      refine J_get hK fo_RX3_32 qd1_1.2.2.2.2.2.2.2.2.2.2.2.2.1 rfl 0 0 rfl rfl rfl ?_
      refine J_iconst (v := 1) hK qd1_1.2.2.2.2.2.2.2.2.2.2.2.2.2.1 rfl (by decide) ?_
      have j96 : ∀ (y8 : Int32), fX3_next_j96 n x0_bytes x0_size x0_value w4 v5 y8 = some out → J d Φ 2 [gTp d h0 x0_bytes x0_size w4 x0_end v5 x0_value] 0 0 96 [(0, .ref (h0 0)), (1, .int y8)] [] := by
        intro y8 hf
        unfold fX3_next_j96 at hf
        refine J_aload_n hK qd1_2.2.2.2.2.2.2.2.2.2.2.2.2.2.2.2.1 rfl 0 rfl rfl ?_
        refine J_iload_n hK qd1_3.1 rfl 1 rfl rfl ?_
        refine J_put (g' := gTp d h0 x0_bytes x0_size w4 y8 v5 x0_value) (gs' := [gTp d h0 x0_bytes x0_size w4 y8 v5 x0_value]) hK fp_RX3_19 qd1_3.2.1 rfl 0 0 rfl rfl rfl rfl (Nat.le_of_ble_eq_true rfl) rfl rfl ?_
        refine J_aload_n hK qd1_3.2.2.1 rfl 0 rfl rfl ?_
        refine J_aload_n hK qd1_3.2.2.2.1 rfl 0 rfl rfl ?_
        refine J_get hK fo_RX3_32 qd1_3.2.2.2.2.1 rfl 0 0 rfl rfl rfl ?_
        refine J_iconst (v := 2) hK qd1_3.2.2.2.2.2.1 rfl (by decide) ?_
        refine J_icmp_ne (tg := 117) hK qd1_3.2.2.2.2.2.2.1 rfl rfl (fun hc107 => ?_) (fun hc107 => ?_)
        · have hf := iq hc107 hf
          refine J_iconst (v := (-1)) hK qd1_3.2.2.2.2.2.2.2.2.2.2.1 rfl (by decide) ?_
          refine J_put (g' := gTp d h0 x0_bytes x0_size w4 y8 v5 (-1)) (gs' := [gTp d h0 x0_bytes x0_size w4 y8 v5 (-1)]) hK fp_RX3_131 qd1_3.2.2.2.2.2.2.2.2.2.2.2.1 rfl 0 0 rfl rfl rfl rfl (Nat.le_of_ble_eq_true rfl) rfl rfl ?_
          obtain rfl := Option.some.inj hf
          exact J_vret hK hR qd1_3.2.2.2.2.2.2.2.2.2.2.2.2.1 () rfl (by decide) (by decide)
        · have hf := ip hc107 hf
          refine J_aload_n hK qd1_3.2.2.2.2.2.2.2.1 rfl 0 rfl rfl ?_
          obtain ⟨v9, e10, hf⟩ := bs hf
          refine J_callV (m := 1) (m' := 1) (ce' := 0) (sl' := 0) (gr := []) (gs' := fun _ => [gTp d h0 x0_bytes x0_size w4 y8 v5 x0_value]) (st' := fun _ => [.int v9, .ref (h0 0)]) (st := [.ref (h0 0)]) hK qd1_3.2.2.2.2.2.2.2.2.1 cv_RX3_151 iv_yX3_valueHere (As := []) (kX3_valueHere _ d h0 n x0_bytes x0_size w4 y8 v5 x0_value e10) rfl rfl (Nat.le_of_ble_eq_true rfl) (by decide) 0 0 rfl rfl rfl [0] [] rfl (by decide +kernel) rfl rfl [0] (by decide +kernel) (fun _ => rfl) (fun _ => rfl) rfl rfl rfl (fun _ => rfl) (fun _ => ?_)
          refine J_goto hK qd1_3.2.2.2.2.2.2.2.2.2.1 (n := 118) rfl ?_
          refine J_put (g' := gTp d h0 x0_bytes x0_size w4 y8 v5 v9) (gs' := [gTp d h0 x0_bytes x0_size w4 y8 v5 v9]) hK fp_RX3_131 qd1_3.2.2.2.2.2.2.2.2.2.2.2.1 rfl 0 0 rfl rfl rfl rfl (Nat.le_of_ble_eq_true rfl) rfl rfl ?_
          obtain rfl := Option.some.inj hf
          exact J_vret hK hR qd1_3.2.2.2.2.2.2.2.2.2.2.2.2.1 () rfl (by decide) (by decide)
      refine J_icmp_eq (tg := 70) hK qd1_1.2.2.2.2.2.2.2.2.2.2.2.2.2.2.1 rfl rfl (fun hc59 => ?_) (fun hc59 => ?_)
      · have hf := ip hc59 hf
        obtain ⟨e13, hl11, hf⟩ := bs hf
        have hx11_96 : ∀ (w14 : Int32), w14 = e13 → J d Φ 2 [gTp d h0 x0_bytes x0_size w4 x0_end v5 x0_value] 0 0 96 [(0, .ref (h0 0)), (1, .int w14)] [] := by
          intro w14 he
          rw [← he] at hf
          exact (j96 w14 hf)
        have lo11 : ∀ (k : Nat) (z12 : Int32), lp (fX3_next_s70 x0_bytes x0_size x0_end x0_value w4 v5) k z12 = some e13 → J d Φ 2 [gTp d h0 x0_bytes x0_size w4 x0_end v5 x0_value] 0 0 70 [(0, .ref (h0 0)), (1, .int z12)] [] := by
          intro k
          induction k with
          | zero => intro z12 h; cases h
          | succ k ih11 =>
            intro z12 h
            obtain ⟨k2, rr11, hk2, hs11, hr11⟩ := lp_ok h
            cases hk2
            have hs11 : fX3_next_s70 x0_bytes x0_size x0_end x0_value w4 v5 z12 = some rr11 := hs11
            unfold fX3_next_s70 at hs11
            refine J_iload_n hK qd1_2.2.2.2.1 rfl 1 rfl rfl ?_
            refine J_aload_n hK qd1_2.2.2.2.2.1 rfl 0 rfl rfl ?_
            refine J_get hK fo_RX3_15 qd1_2.2.2.2.2.2.1 rfl 0 0 rfl rfl rfl ?_
            refine J_icmp_ge (tg := 96) hK qd1_2.2.2.2.2.2.2.1 rfl rfl (fun hc75 => ?_) (fun hc75 => ?_)
            · have hs11 := ip hc75 hs11
              exact (hx11_96 z12 (lpx hs11 hr11))
            · have hs11 := iq hc75 hs11
              refine J_aload_n hK qd1_2.2.2.2.2.2.2.2.1 rfl 0 rfl rfl ?_
              refine J_iload_n hK qd1_2.2.2.2.2.2.2.2.2.1 rfl 1 rfl rfl ?_
              obtain ⟨v15, e16, hs11⟩ := bs hs11
              refine J_callV (m := 1) (m' := 1) (ce' := 0) (sl' := 0) (gr := []) (gs' := fun _ => [gTp d h0 x0_bytes x0_size w4 x0_end v5 x0_value]) (st' := fun _ => [.int v15]) (st := []) hK qd1_2.2.2.2.2.2.2.2.2.2.1 cv_RX3_148 iv_yX3_tokenAt (As := [.int z12]) (kX3_tokenAt _ d h0 x0_bytes x0_size w4 x0_end v5 x0_value z12 e16) rfl rfl (Nat.le_of_ble_eq_true rfl) (by decide) 0 0 rfl rfl rfl [0] [] rfl (by decide +kernel) rfl rfl [0] (by decide +kernel) (fun _ => rfl) (fun _ => rfl) rfl rfl rfl (fun _ => rfl) (fun _ => ?_)
              refine J_aload_n hK qd1_2.2.2.2.2.2.2.2.2.2.2.1 rfl 0 rfl rfl ?_
              refine J_get hK fo_RX3_32 qd1_2.2.2.2.2.2.2.2.2.2.2.2.1 rfl 0 0 rfl rfl rfl ?_
              refine J_icmp_ne (tg := 96) hK qd1_2.2.2.2.2.2.2.2.2.2.2.2.2.1 rfl rfl (fun hc87 => ?_) (fun hc87 => ?_)
              · have hs11 := iq hc87 hs11
                exact (hx11_96 z12 (lpx hs11 hr11))
              · have hs11 := ip hc87 hs11
                refine J_iinc (L' := [(1, .int (z12 + 1)), (0, .ref (h0 0))]) (v := (z12 + 1)) hK qd1_2.2.2.2.2.2.2.2.2.2.2.2.2.2.1 rfl 1 rfl rfl (by decide) rfl ?_
                refine J_goto hK qd1_2.2.2.2.2.2.2.2.2.2.2.2.2.2.2.1 (n := 70) rfl ?_
                exact J_loc [1, 0] rfl (ih11 (z12 + 1) (lpc hs11 hr11))
        exact (lo11 n y7 hl11)
      · have hf := iq hc59 hf
        refine J_aload_n hK qd1_1.2.2.2.2.2.2.2.2.2.2.2.2.2.2.2.1 rfl 0 rfl rfl ?_
        refine J_get hK fo_RX3_32 qd1_2.1 rfl 0 0 rfl rfl rfl ?_
        refine J_iconst (v := 2) hK qd1_2.2.1 rfl (by decide) ?_
        refine J_icmp_ne (tg := 96) hK qd1_2.2.2.1 rfl rfl (fun hc67 => ?_) (fun hc67 => ?_)
        · have hf := iq hc67 hf
          exact (j96 y7 hf)
        · have hf := ip hc67 hf
          obtain ⟨e19, hl17, hf⟩ := bs hf
          have hx17_96 : ∀ (w20 : Int32), w20 = e19 → J d Φ 2 [gTp d h0 x0_bytes x0_size w4 x0_end v5 x0_value] 0 0 96 [(0, .ref (h0 0)), (1, .int w20)] [] := by
            intro w20 he
            rw [← he] at hf
            exact (j96 w20 hf)
          have lo17 : ∀ (k : Nat) (z18 : Int32), lp (fX3_next_s70b x0_bytes x0_size x0_end x0_value w4 v5) k z18 = some e19 → J d Φ 2 [gTp d h0 x0_bytes x0_size w4 x0_end v5 x0_value] 0 0 70 [(0, .ref (h0 0)), (1, .int z18)] [] := by
            intro k
            induction k with
            | zero => intro z18 h; cases h
            | succ k ih17 =>
              intro z18 h
              obtain ⟨k2, rr17, hk2, hs17, hr17⟩ := lp_ok h
              cases hk2
              have hs17 : fX3_next_s70b x0_bytes x0_size x0_end x0_value w4 v5 z18 = some rr17 := hs17
              unfold fX3_next_s70b at hs17
              refine J_iload_n hK qd1_2.2.2.2.1 rfl 1 rfl rfl ?_
              refine J_aload_n hK qd1_2.2.2.2.2.1 rfl 0 rfl rfl ?_
              refine J_get hK fo_RX3_15 qd1_2.2.2.2.2.2.1 rfl 0 0 rfl rfl rfl ?_
              refine J_icmp_ge (tg := 96) hK qd1_2.2.2.2.2.2.2.1 rfl rfl (fun hc75 => ?_) (fun hc75 => ?_)
              · have hs17 := ip hc75 hs17
                exact (hx17_96 z18 (lpx hs17 hr17))
              · have hs17 := iq hc75 hs17
                refine J_aload_n hK qd1_2.2.2.2.2.2.2.2.1 rfl 0 rfl rfl ?_
                refine J_iload_n hK qd1_2.2.2.2.2.2.2.2.2.1 rfl 1 rfl rfl ?_
                obtain ⟨v21, e22, hs17⟩ := bs hs17
                refine J_callV (m := 1) (m' := 1) (ce' := 0) (sl' := 0) (gr := []) (gs' := fun _ => [gTp d h0 x0_bytes x0_size w4 x0_end v5 x0_value]) (st' := fun _ => [.int v21]) (st := []) hK qd1_2.2.2.2.2.2.2.2.2.2.1 cv_RX3_148 iv_yX3_tokenAt (As := [.int z18]) (kX3_tokenAt _ d h0 x0_bytes x0_size w4 x0_end v5 x0_value z18 e22) rfl rfl (Nat.le_of_ble_eq_true rfl) (by decide) 0 0 rfl rfl rfl [0] [] rfl (by decide +kernel) rfl rfl [0] (by decide +kernel) (fun _ => rfl) (fun _ => rfl) rfl rfl rfl (fun _ => rfl) (fun _ => ?_)
                refine J_aload_n hK qd1_2.2.2.2.2.2.2.2.2.2.2.1 rfl 0 rfl rfl ?_
                refine J_get hK fo_RX3_32 qd1_2.2.2.2.2.2.2.2.2.2.2.2.1 rfl 0 0 rfl rfl rfl ?_
                refine J_icmp_ne (tg := 96) hK qd1_2.2.2.2.2.2.2.2.2.2.2.2.2.1 rfl rfl (fun hc87 => ?_) (fun hc87 => ?_)
                · have hs17 := iq hc87 hs17
                  exact (hx17_96 z18 (lpx hs17 hr17))
                · have hs17 := ip hc87 hs17
                  refine J_iinc (L' := [(1, .int (z18 + 1)), (0, .ref (h0 0))]) (v := (z18 + 1)) hK qd1_2.2.2.2.2.2.2.2.2.2.2.2.2.2.1 rfl 1 rfl rfl (by decide) rfl ?_
                  refine J_goto hK qd1_2.2.2.2.2.2.2.2.2.2.2.2.2.2.2.1 (n := 70) rfl ?_
                  exact J_loc [1, 0] rfl (ih17 (z18 + 1) (lpc hs17 hr17))
          exact (lo17 n y7 hl17)
    refine J_if_eq (tg := 54) hK qd1_1.2.2.2.2.2.2.2.2.2.1 rfl rfl (fun hc48 => ?_) (fun hc48 => ?_)
    · have hf := ip hc48 hf
      exact (j54 w4 hf)
    · have hf := iq hc48 hf
      refine J_iinc (L' := [(1, .int (w4 + 1)), (0, .ref (h0 0))]) (v := (w4 + 1)) hK qd1_1.2.2.2.2.2.2.2.2.2.2.1 rfl 1 rfl rfl (by decide) rfl ?_
      exact J_loc [1, 0] rfl (j54 (w4 + 1) hf)
  have lo1 : ∀ (k : Nat) (z2 : Int32), lp (fX3_next_s5 x0_bytes x0_size) k z2 = some e3 → J d Φ 2 [gTp d h0 x0_bytes x0_size x0_start x0_end x0_token x0_value] 0 0 5 [(0, .ref (h0 0)), (1, .int z2)] [] := by
    intro k
    induction k with
    | zero => intro z2 h; cases h
    | succ k ih1 =>
      intro z2 h
      obtain ⟨k2, rr1, hk2, hs1, hr1⟩ := lp_ok h
      cases hk2
      have hs1 : fX3_next_s5 x0_bytes x0_size z2 = some rr1 := hs1
      unfold fX3_next_s5 at hs1
      refine J_iload_n hK qd1_0.2.2.2.1 rfl 1 rfl rfl ?_
      refine J_aload_n hK qd1_0.2.2.2.2.1 rfl 0 rfl rfl ?_
      refine J_get hK fo_RX3_15 qd1_0.2.2.2.2.2.1 rfl 0 0 rfl rfl rfl ?_
      refine J_icmp_ge (tg := 30) hK qd1_0.2.2.2.2.2.2.1 rfl rfl (fun hc10 => ?_) (fun hc10 => ?_)
      · have hs1 := ip hc10 hs1
        exact (hx1_30 z2 (lpx hs1 hr1))
      · have hs1 := iq hc10 hs1
        refine J_aload_n hK qd1_0.2.2.2.2.2.2.2.1 rfl 0 rfl rfl ?_
        refine J_get hK fo_RX3_11 qd1_0.2.2.2.2.2.2.2.2.1 rfl 0 0 rfl rfl rfl ?_
        refine J_iload_n hK qd1_0.2.2.2.2.2.2.2.2.2.1 rfl 1 rfl rfl ?_
        obtain ⟨v23, ev23, hs1⟩ := bs hs1
        refine J_iald hK qd1_0.2.2.2.2.2.2.2.2.2.2.1 rfl 0 1 rfl rfl ev23 ?_
        refine J_bipush (v := 32) hK qd1_0.2.2.2.2.2.2.2.2.2.2.2.1 rfl (by decide) ?_
        refine J_icmp_ne (tg := 30) hK qd1_0.2.2.2.2.2.2.2.2.2.2.2.2.1 rfl rfl (fun hc21 => ?_) (fun hc21 => ?_)
        · have hs1 := iq hc21 hs1
          exact (hx1_30 z2 (lpx hs1 hr1))
        · have hs1 := ip hc21 hs1
          refine J_iinc (L' := [(1, .int (z2 + 1)), (0, .ref (h0 0))]) (v := (z2 + 1)) hK qd1_0.2.2.2.2.2.2.2.2.2.2.2.2.2.1 rfl 1 rfl rfl (by decide) rfl ?_
          refine J_goto hK qd1_0.2.2.2.2.2.2.2.2.2.2.2.2.2.2.1 (n := 5) rfl ?_
          exact J_loc [1, 0] rfl (ih1 (z2 + 1) (lpc hs1 hr1))
  exact J_loc [1, 0] rfl (lo1 n x0_end hl1)

def fX3_isWord_s28 (p1 : Nat) (x0_bytes : (Nat → Int32)) (x0_start : Int32) (z3 : Int32) : Option ((Int32) ⊕ (((Unit) ⊕ (Unit)))) :=
  (slen p1).bind fun v5 => if v5 ≤ z3 then (some (.inr (.inr ()))) else ((rd 250 x0_bytes (x0_start + z3)).bind fun v6 => (schar p1 z3).bind fun v7 => if v6 = v7 then (some (.inl (z3 + 1))) else (some (.inr (.inl ()))))
def fX3_isWord (n : Nat) (X0 : TpT) (p1 : Nat) : Option (Int32) :=
  u6 (fun (x0_bytes : (Nat → Int32)) (x0_size : Int32) (x0_start : Int32) (x0_end : Int32) (x0_token : Int32) (x0_value : Int32) => if x0_token = 1 then ((slen p1).bind fun v1 => if (x0_end - x0_start) = v1 then ((lp (fX3_isWord_s28 p1 x0_bytes x0_start) n (0)).bind (Sum.elim (fun _ => some (0)) (fun _ => some (1)))) else (some (0))) else (some (0))) X0
set_option maxHeartbeats 4000000 in
set_option maxRecDepth 100000 in
theorem kX3_isWord (l : Launch) (d : DT) (h0 : Nat → Nat) (n : Nat) (x0_bytes : (Nat → Int32)) (x0_size : Int32) (x0_start : Int32) (x0_end : Int32) (x0_token : Int32) (x0_value : Int32) (p1 : Nat)  {out : Int32} (hf : fX3_isWord n (x0_bytes, x0_size, x0_start, x0_end, x0_token, x0_value) p1 = some out) : Ct l d yX3_isWord cX3_isWord 3 (some .boolean) { frames := 4, cells := 0, slots := 0, locals := 85 } [.ref (h0 0), .ref (d.2.2.2.1 p1)] [gTp d h0 x0_bytes x0_size x0_start x0_end x0_token x0_value] (fun _ : Unit => (some (.int out), [gTp d h0 x0_bytes x0_size x0_start x0_end x0_token x0_value])) := by
  refine Ct.of (by decide) (Nat.le_of_ble_eq_true rfl) ?_
  intro Φ hl hK hR
  subst hl
  have hK : Ok d Φ RX3 "isWord" cX3_isWord 3 (some .boolean) { frames := 4, cells := 0, slots := 0, locals := 85 } := hK
  unfold fX3_isWord at hf
  have hf := un6 hf
  show J d Φ 3 [gTp d h0 x0_bytes x0_size x0_start x0_end x0_token x0_value] 0 0 0 [(0, .ref (h0 0)), (1, .ref (d.2.2.2.1 p1))] []
  refine J_aload_n hK qd0_152.1 rfl 0 rfl rfl ?_
  refine J_get hK fo_RX3_32 qd0_152.2.1 rfl 0 0 rfl rfl rfl ?_
  refine J_iconst (v := 1) hK qd0_152.2.2.1 rfl (by decide) ?_
  refine J_icmp_ne (tg := 24) hK qd0_152.2.2.2.1 rfl rfl (fun hc5 => ?_) (fun hc5 => ?_)
  · have hf := iq hc5 hf
    refine J_iconst (v := 0) hK qd0_152.2.2.2.2.2.2.2.2.2.2.2.2.1 rfl (by decide) ?_
    obtain rfl := Option.some.inj hf
    exact J_zret hK hR qd0_152.2.2.2.2.2.2.2.2.2.2.2.2.2.1 () rfl rfl (by decide) (by decide)
  · have hf := ip hc5 hf
    refine J_aload_n hK qd0_152.2.2.2.2.1 rfl 0 rfl rfl ?_
    refine J_get hK fo_RX3_19 qd0_152.2.2.2.2.2.1 rfl 0 0 rfl rfl rfl ?_
    refine J_aload_n hK qd0_152.2.2.2.2.2.2.1 rfl 0 rfl rfl ?_
    refine J_get hK fo_RX3_29 qd0_152.2.2.2.2.2.2.2.1 rfl 0 0 rfl rfl rfl ?_
    refine J_isub hK qd0_152.2.2.2.2.2.2.2.2.1 rfl ?_
    refine J_aload_n hK qd0_152.2.2.2.2.2.2.2.2.2.1 rfl 1 rfl rfl ?_
    obtain ⟨v1, ev1, hf⟩ := bs hf
    refine J_callT (m' := 1) (m := 1) (gr := [gTp d h0 x0_bytes x0_size x0_start x0_end x0_token x0_value]) (gs' := fun _ => [gTp d h0 x0_bytes x0_size x0_start x0_end x0_token x0_value]) (st' := fun _ => [.int v1, .int (x0_end - x0_start)]) (st := [.int (x0_end - x0_start)]) hK qd0_152.2.2.2.2.2.2.2.2.2.2.1 cv_RX3_138 iv_yJ0_length_8abf5 (As := []) (kJ_length _ d p1 ev1) rfl rfl (Nat.le_of_ble_eq_true rfl) (by decide) (hK.str (str_some_length ev1).choose_spec).1 [] [0] rfl (by decide +kernel) rfl rfl [0] (by decide +kernel) (fun _ => rfl) (fun _ => rfl) rfl rfl rfl (fun _ => rfl) (fun _ => ?_)
    refine J_icmp_eq (tg := 26) hK qd0_152.2.2.2.2.2.2.2.2.2.2.2.1 rfl rfl (fun hc21 => ?_) (fun hc21 => ?_)
    · have hf := ip hc21 hf
      refine J_iconst (v := 0) hK qd0_152.2.2.2.2.2.2.2.2.2.2.2.2.2.2.1 rfl (by decide) ?_
      refine J_istore_n (L' := [(2, .int (0)), (0, .ref (h0 0)), (1, .ref (d.2.2.2.1 p1))]) hK qd0_152.2.2.2.2.2.2.2.2.2.2.2.2.2.2.2.1 rfl rfl (by decide) rfl ?_
      obtain ⟨e4, hl2, hf⟩ := bs hf
      have hx2_55 : (.inl ()) = e4 → J d Φ 3 [gTp d h0 x0_bytes x0_size x0_start x0_end x0_token x0_value] 0 0 55 [] [] := by
        intro  he
        rw [← he] at hf
        simp only [Sum.elim_inl, Sum.elim_inr] at hf
        refine J_iconst (v := 0) hK qd0_153.2.2.2.2.2.2.2.2.2.2.2.2.2.2.2.1 rfl (by decide) ?_
        obtain rfl := Option.some.inj hf
        exact J_zret hK hR qd0_154.1 () rfl rfl (by decide) (by decide)
      have hx2_63 : (.inr ()) = e4 → J d Φ 3 [gTp d h0 x0_bytes x0_size x0_start x0_end x0_token x0_value] 0 0 63 [] [] := by
        intro  he
        rw [← he] at hf
        simp only [Sum.elim_inl, Sum.elim_inr] at hf
        refine J_iconst (v := 1) hK qd0_154.2.2.2.1 rfl (by decide) ?_
        obtain rfl := Option.some.inj hf
        exact J_zret hK hR qd0_154.2.2.2.2.1 () rfl rfl (by decide) (by decide)
      have lo2 : ∀ (k : Nat) (z3 : Int32), lp (fX3_isWord_s28 p1 x0_bytes x0_start) k z3 = some e4 → J d Φ 3 [gTp d h0 x0_bytes x0_size x0_start x0_end x0_token x0_value] 0 0 28 [(0, .ref (h0 0)), (1, .ref (d.2.2.2.1 p1)), (2, .int z3)] [] := by
        intro k
        induction k with
        | zero => intro z3 h; cases h
        | succ k ih2 =>
          intro z3 h
          obtain ⟨k2, rr2, hk2, hs2, hr2⟩ := lp_ok h
          cases hk2
          have hs2 : fX3_isWord_s28 p1 x0_bytes x0_start z3 = some rr2 := hs2
          unfold fX3_isWord_s28 at hs2
          refine J_iload_n hK qd0_153.1 rfl 2 rfl rfl ?_
          refine J_aload_n hK qd0_153.2.1 rfl 1 rfl rfl ?_
          obtain ⟨v5, ev5, hs2⟩ := bs hs2
          refine J_callT (m' := 1) (m := 1) (gr := [gTp d h0 x0_bytes x0_size x0_start x0_end x0_token x0_value]) (gs' := fun _ => [gTp d h0 x0_bytes x0_size x0_start x0_end x0_token x0_value]) (st' := fun _ => [.int v5, .int z3]) (st := [.int z3]) hK qd0_153.2.2.1 cv_RX3_138 iv_yJ0_length_8abf5 (As := []) (kJ_length _ d p1 ev5) rfl rfl (Nat.le_of_ble_eq_true rfl) (by decide) (hK.str (str_some_length ev5).choose_spec).1 [] [0] rfl (by decide +kernel) rfl rfl [0] (by decide +kernel) (fun _ => rfl) (fun _ => rfl) rfl rfl rfl (fun _ => rfl) (fun _ => ?_)
          refine J_icmp_ge (tg := 63) hK qd0_153.2.2.2.1 rfl rfl (fun hc33 => ?_) (fun hc33 => ?_)
          · have hs2 := ip hc33 hs2
            exact J_loc [] rfl (hx2_63  (lpx hs2 hr2))
          · have hs2 := iq hc33 hs2
            refine J_aload_n hK qd0_153.2.2.2.2.1 rfl 0 rfl rfl ?_
            refine J_get hK fo_RX3_11 qd0_153.2.2.2.2.2.1 rfl 0 0 rfl rfl rfl ?_
            refine J_aload_n hK qd0_153.2.2.2.2.2.2.1 rfl 0 rfl rfl ?_
            refine J_get hK fo_RX3_29 qd0_153.2.2.2.2.2.2.2.1 rfl 0 0 rfl rfl rfl ?_
            refine J_iload_n hK qd0_153.2.2.2.2.2.2.2.2.1 rfl 2 rfl rfl ?_
            refine J_iadd hK qd0_153.2.2.2.2.2.2.2.2.2.1 rfl ?_
            obtain ⟨v6, ev6, hs2⟩ := bs hs2
            refine J_iald hK qd0_153.2.2.2.2.2.2.2.2.2.2.1 rfl 0 1 rfl rfl ev6 ?_
            refine J_aload_n hK qd0_153.2.2.2.2.2.2.2.2.2.2.2.1 rfl 1 rfl rfl ?_
            refine J_iload_n hK qd0_153.2.2.2.2.2.2.2.2.2.2.2.2.1 rfl 2 rfl rfl ?_
            obtain ⟨v7, ev7, hs2⟩ := bs hs2
            refine J_callT (m' := 1) (m := 1) (gr := [gTp d h0 x0_bytes x0_size x0_start x0_end x0_token x0_value]) (gs' := fun _ => [gTp d h0 x0_bytes x0_size x0_start x0_end x0_token x0_value]) (st' := fun _ => [.int v7, .int v6]) (st := [.int v6]) hK qd0_153.2.2.2.2.2.2.2.2.2.2.2.2.2.1 cv_RX3_144 iv_yJ0_charAt_5068e (As := [.int z3]) (kJ_charAt _ d p1 z3 ev7) rfl rfl (Nat.le_of_ble_eq_true rfl) (by decide) (hK.str (str_some_charAt ev7).choose_spec).1 [] [0] rfl (by decide +kernel) rfl rfl [0] (by decide +kernel) (fun _ => rfl) (fun _ => rfl) rfl rfl rfl (fun _ => rfl) (fun _ => ?_)
            refine J_icmp_eq (tg := 57) hK qd0_153.2.2.2.2.2.2.2.2.2.2.2.2.2.2.1 rfl rfl (fun hc52 => ?_) (fun hc52 => ?_)
            · have hs2 := ip hc52 hs2
              refine J_iinc (L' := [(2, .int (z3 + 1)), (0, .ref (h0 0)), (1, .ref (d.2.2.2.1 p1))]) (v := (z3 + 1)) hK qd0_154.2.1 rfl 2 rfl rfl (by decide) rfl ?_
              refine J_goto hK qd0_154.2.2.1 (n := 28) rfl ?_
              exact J_loc [1, 2, 0] rfl (ih2 (z3 + 1) (lpc hs2 hr2))
            · have hs2 := iq hc52 hs2
              exact J_loc [] rfl (hx2_55  (lpx hs2 hr2))
      exact J_loc [1, 2, 0] rfl (lo2 n (0) hl2)
    · have hf := iq hc21 hf
      refine J_iconst (v := 0) hK qd0_152.2.2.2.2.2.2.2.2.2.2.2.2.1 rfl (by decide) ?_
      obtain rfl := Option.some.inj hf
      exact J_zret hK hR qd0_152.2.2.2.2.2.2.2.2.2.2.2.2.2.1 () rfl rfl (by decide) (by decide)

def fX3_number (n : Nat) (X0 : TpT) (p1 : Int32) (p2 : Int32) : Option (Int32 × Int32 × Int32 × Int32 × Int32) :=
  u6 (fun (x0_bytes : (Nat → Int32)) (x0_size : Int32) (x0_start : Int32) (x0_end : Int32) (x0_token : Int32) (x0_value : Int32) => if x0_token = 2 then ((fX6_within x0_value p1 p2).bind (fun v1 => if v1 = 0 then (some ((-1), x0_start, x0_end, x0_token, x0_value)) else ((fX3_next n (x0_bytes, x0_size, x0_start, x0_end, x0_token, x0_value)).bind (u4 fun g3 g4 g5 g6 => some (x0_value, g3, g4, g5, g6))))) else (some ((-1), x0_start, x0_end, x0_token, x0_value))) X0
set_option maxHeartbeats 4000000 in
set_option maxRecDepth 100000 in
theorem kX3_number (l : Launch) (d : DT) (h0 : Nat → Nat) (n : Nat) (x0_bytes : (Nat → Int32)) (x0_size : Int32) (x0_start : Int32) (x0_end : Int32) (x0_token : Int32) (x0_value : Int32) (p1 : Int32) (p2 : Int32)  {out : Int32 × Int32 × Int32 × Int32 × Int32} (hf : fX3_number n (x0_bytes, x0_size, x0_start, x0_end, x0_token, x0_value) p1 p2 = some out) : Ct l d yX3_number cX3_number 4 (some .int) { frames := 2, cells := 0, slots := 0, locals := 43 } [.ref (h0 0), .int p1, .int p2] [gTp d h0 x0_bytes x0_size x0_start x0_end x0_token x0_value] (fun _ : Unit => (some (.int out.1), [gTp d h0 x0_bytes x0_size (out.2.1) (out.2.2.1) (out.2.2.2.1) (out.2.2.2.2)])) := by
  refine Ct.of (by decide) (Nat.le_of_ble_eq_true rfl) ?_
  intro Φ hl hK hR
  subst hl
  have hK : Ok d Φ RX3 "number" cX3_number 4 (some .int) { frames := 2, cells := 0, slots := 0, locals := 43 } := hK
  unfold fX3_number at hf
  have hf := un6 hf
  show J d Φ 4 [gTp d h0 x0_bytes x0_size x0_start x0_end x0_token x0_value] 0 0 0 [(0, .ref (h0 0)), (1, .int p1), (2, .int p2)] []
  refine J_aload_n hK qd0_148.1 rfl 0 rfl rfl ?_
  refine J_get hK fo_RX3_32 qd0_148.2.1 rfl 0 0 rfl rfl rfl ?_
  refine J_iconst (v := 2) hK qd0_148.2.2.1 rfl (by decide) ?_
  refine J_icmp_ne (tg := 20) hK qd0_148.2.2.2.1 rfl rfl (fun hc5 => ?_) (fun hc5 => ?_)
  · have hf := iq hc5 hf
    refine J_iconst (v := (-1)) hK qd0_148.2.2.2.2.2.2.2.2.2.2.1 rfl (by decide) ?_
    obtain rfl := Option.some.inj hf
    exact J_iret hK hR qd0_148.2.2.2.2.2.2.2.2.2.2.2.1 () rfl (by decide) (by decide)
  · have hf := ip hc5 hf
    refine J_aload_n hK qd0_148.2.2.2.2.1 rfl 0 rfl rfl ?_
    refine J_get hK fo_RX3_131 qd0_148.2.2.2.2.2.1 rfl 0 0 rfl rfl rfl ?_
    refine J_iload_n hK qd0_148.2.2.2.2.2.2.1 rfl 1 rfl rfl ?_
    refine J_iload_n hK qd0_148.2.2.2.2.2.2.2.1 rfl 2 rfl rfl ?_
    obtain ⟨v1, e2, hf⟩ := bs hf
    refine J_callN (m := 1) (m' := 1) (ce' := 0) (sl' := 0) (gr := [gTp d h0 x0_bytes x0_size x0_start x0_end x0_token x0_value]) (gs' := fun _ => [gTp d h0 x0_bytes x0_size x0_start x0_end x0_token x0_value]) (st' := fun _ => [.int v1]) (st := []) hK qd0_148.2.2.2.2.2.2.2.2.1 cn_RX3_134 (As := [.int x0_value, .int p1, .int p2]) (kX6_within _ d x0_value p1 p2 e2) rfl rfl (Nat.le_of_ble_eq_true rfl) (by decide) [] [0] rfl (by decide +kernel) rfl rfl [0] (by decide +kernel) (fun _ => rfl) (fun _ => rfl) rfl rfl rfl (fun _ => rfl) (fun _ => ?_)
    refine J_if_ne (tg := 22) hK qd0_148.2.2.2.2.2.2.2.2.2.1 rfl rfl (fun hc17 => ?_) (fun hc17 => ?_)
    · have hf := iq hc17 hf
      refine J_aload_n hK qd0_148.2.2.2.2.2.2.2.2.2.2.2.2.1 rfl 0 rfl rfl ?_
      refine J_get hK fo_RX3_131 qd0_148.2.2.2.2.2.2.2.2.2.2.2.2.2.1 rfl 0 0 rfl rfl rfl ?_
      refine J_istore_n (L' := [(3, .int x0_value), (0, .ref (h0 0)), (1, .int p1), (2, .int p2)]) hK qd0_148.2.2.2.2.2.2.2.2.2.2.2.2.2.2.1 rfl rfl (by decide) rfl ?_
      refine J_aload_n hK qd0_148.2.2.2.2.2.2.2.2.2.2.2.2.2.2.2.1 rfl 1 rfl rfl ?_
      obtain ⟨⟨g3, g4, g5, g6⟩, e7, hf⟩ := bs hf
      have hf := un4 hf
      refine J_callV (m := 1) (m' := 1) (ce' := 0) (sl' := 0) (gr := []) (gs' := fun _ => [gTp d h0 x0_bytes x0_size g3 g4 g5 g6]) (st' := fun _ => []) (st := []) hK qd0_149.1 cv_RX3_22 iv_yX3_next (As := []) (kX3_next _ d h0 n x0_bytes x0_size x0_start x0_end x0_token x0_value e7) rfl rfl (Nat.le_of_ble_eq_true rfl) (by decide) 0 0 rfl rfl rfl [0] [] rfl (by decide +kernel) rfl rfl [0] (by decide +kernel) (fun _ => rfl) (fun _ => rfl) rfl rfl rfl (fun _ => rfl) (fun _ => ?_)
      refine J_iload_n hK qd0_149.2.1 rfl 0 rfl rfl ?_
      obtain rfl := Option.some.inj hf
      exact J_iret hK hR qd0_149.2.2.1 () rfl (by decide) (by decide)
    · have hf := ip hc17 hf
      refine J_iconst (v := (-1)) hK qd0_148.2.2.2.2.2.2.2.2.2.2.1 rfl (by decide) ?_
      obtain rfl := Option.some.inj hf
      exact J_iret hK hR qd0_148.2.2.2.2.2.2.2.2.2.2.2.1 () rfl (by decide) (by decide)

def fX3_perhaps (n : Nat) (X0 : TpT) (p1 : Nat) (p2 : Int32) (p3 : Int32) (p4 : Int32) : Option (Int32 × Int32 × Int32 × Int32 × Int32) :=
  u6 (fun (x0_bytes : (Nat → Int32)) (x0_size : Int32) (x0_start : Int32) (x0_end : Int32) (x0_token : Int32) (x0_value : Int32) => (fX3_isWord n (x0_bytes, x0_size, x0_start, x0_end, x0_token, x0_value) p1).bind (fun v1 => if v1 = 0 then (some (p4, x0_start, x0_end, x0_token, x0_value)) else ((fX3_next n (x0_bytes, x0_size, x0_start, x0_end, x0_token, x0_value)).bind (u4 fun g3 g4 g5 g6 => (fX3_number n (x0_bytes, x0_size, g3, g4, g5, g6) p2 p3).bind (u5 fun v8 g9 g10 g11 g12 => some (v8, g9, g10, g11, g12)))))) X0
set_option maxHeartbeats 4000000 in
set_option maxRecDepth 100000 in
theorem kX3_perhaps (l : Launch) (d : DT) (h0 : Nat → Nat) (n : Nat) (x0_bytes : (Nat → Int32)) (x0_size : Int32) (x0_start : Int32) (x0_end : Int32) (x0_token : Int32) (x0_value : Int32) (p1 : Nat) (p2 : Int32) (p3 : Int32) (p4 : Int32)  {out : Int32 × Int32 × Int32 × Int32 × Int32} (hf : fX3_perhaps n (x0_bytes, x0_size, x0_start, x0_end, x0_token, x0_value) p1 p2 p3 p4 = some out) : Ct l d yX3_perhaps cX3_perhaps 5 (some .int) { frames := 5, cells := 0, slots := 0, locals := 107 } [.ref (h0 0), .ref (d.2.2.2.1 p1), .int p2, .int p3, .int p4] [gTp d h0 x0_bytes x0_size x0_start x0_end x0_token x0_value] (fun _ : Unit => (some (.int out.1), [gTp d h0 x0_bytes x0_size (out.2.1) (out.2.2.1) (out.2.2.2.1) (out.2.2.2.2)])) := by
  refine Ct.of (by decide) (Nat.le_of_ble_eq_true rfl) ?_
  intro Φ hl hK hR
  subst hl
  have hK : Ok d Φ RX3 "perhaps" cX3_perhaps 5 (some .int) { frames := 5, cells := 0, slots := 0, locals := 107 } := hK
  unfold fX3_perhaps at hf
  have hf := un6 hf
  show J d Φ 5 [gTp d h0 x0_bytes x0_size x0_start x0_end x0_token x0_value] 0 0 0 [(0, .ref (h0 0)), (1, .ref (d.2.2.2.1 p1)), (2, .int p2), (3, .int p3), (4, .int p4)] []
  refine J_aload_n hK qd0_151.1 rfl 0 rfl rfl ?_
  refine J_aload_n hK qd0_151.2.1 rfl 1 rfl rfl ?_
  obtain ⟨v1, e2, hf⟩ := bs hf
  refine J_callV (m := 1) (m' := 1) (ce' := 0) (sl' := 0) (gr := []) (gs' := fun _ => [gTp d h0 x0_bytes x0_size x0_start x0_end x0_token x0_value]) (st' := fun _ => [.int v1]) (st := []) hK qd0_151.2.2.1 cv_RX3_37 iv_yX3_isWord (As := [.ref (d.2.2.2.1 p1)]) (kX3_isWord _ d h0 n x0_bytes x0_size x0_start x0_end x0_token x0_value p1 e2) rfl rfl (Nat.le_of_ble_eq_true rfl) (by decide) 0 0 rfl rfl rfl [0] [] rfl (by decide +kernel) rfl rfl [0] (by decide +kernel) (fun _ => rfl) (fun _ => rfl) rfl rfl rfl (fun _ => rfl) (fun _ => ?_)
  refine J_if_ne (tg := 11) hK qd0_151.2.2.2.1 rfl rfl (fun hc5 => ?_) (fun hc5 => ?_)
  · have hf := iq hc5 hf
    refine J_aload_n hK qd0_151.2.2.2.2.2.2.1 rfl 0 rfl rfl ?_
    obtain ⟨⟨g3, g4, g5, g6⟩, e7, hf⟩ := bs hf
    have hf := un4 hf
    refine J_callV (m := 1) (m' := 1) (ce' := 0) (sl' := 0) (gr := []) (gs' := fun _ => [gTp d h0 x0_bytes x0_size g3 g4 g5 g6]) (st' := fun _ => []) (st := []) hK qd0_151.2.2.2.2.2.2.2.1 cv_RX3_22 iv_yX3_next (As := []) (kX3_next _ d h0 n x0_bytes x0_size x0_start x0_end x0_token x0_value e7) rfl rfl (Nat.le_of_ble_eq_true rfl) (by decide) 0 0 rfl rfl rfl [0] [] rfl (by decide +kernel) rfl rfl [0] (by decide +kernel) (fun _ => rfl) (fun _ => rfl) rfl rfl rfl (fun _ => rfl) (fun _ => ?_)
    refine J_aload_n hK qd0_151.2.2.2.2.2.2.2.2.1 rfl 0 rfl rfl ?_
    refine J_iload_n hK qd0_151.2.2.2.2.2.2.2.2.2.1 rfl 2 rfl rfl ?_
    refine J_iload_n hK qd0_151.2.2.2.2.2.2.2.2.2.2.1 rfl 3 rfl rfl ?_
    obtain ⟨⟨v8, g9, g10, g11, g12⟩, e13, hf⟩ := bs hf
    have hf := un5 hf
    refine J_callV (m := 1) (m' := 1) (ce' := 0) (sl' := 0) (gr := []) (gs' := fun _ => [gTp d h0 x0_bytes x0_size g9 g10 g11 g12]) (st' := fun _ => [.int v8]) (st := []) hK qd0_151.2.2.2.2.2.2.2.2.2.2.2.1 cv_RX3_80 iv_yX3_number (As := [.int p2, .int p3]) (kX3_number _ d h0 n x0_bytes x0_size g3 g4 g5 g6 p2 p3 e13) rfl rfl (Nat.le_of_ble_eq_true rfl) (by decide) 0 0 rfl rfl rfl [0] [] rfl (by decide +kernel) rfl rfl [0] (by decide +kernel) (fun _ => rfl) (fun _ => rfl) rfl rfl rfl (fun _ => rfl) (fun _ => ?_)
    obtain rfl := Option.some.inj hf
    exact J_iret hK hR qd0_151.2.2.2.2.2.2.2.2.2.2.2.2.1 () rfl (by decide) (by decide)
  · have hf := ip hc5 hf
    refine J_iload hK qd0_151.2.2.2.2.1 rfl 4 rfl ?_
    obtain rfl := Option.some.inj hf
    exact J_iret hK hR qd0_151.2.2.2.2.2.1 () rfl (by decide) (by decide)

def fX3_numberUnlike (n : Nat) (X0 : TpT) (p1 : Int32) (p2 : Int32) : Option (Int32 × Int32 × Int32 × Int32 × Int32) :=
  u6 (fun (x0_bytes : (Nat → Int32)) (x0_size : Int32) (x0_start : Int32) (x0_end : Int32) (x0_token : Int32) (x0_value : Int32) => if x0_token = 2 then (if x0_value = p1 then (some ((-1), x0_start, x0_end, x0_token, x0_value)) else ((fX3_number n (x0_bytes, x0_size, x0_start, x0_end, x0_token, x0_value) (0) p2).bind (u5 fun v7 g8 g9 g10 g11 => some (v7, g8, g9, g10, g11)))) else ((fX3_number n (x0_bytes, x0_size, x0_start, x0_end, x0_token, x0_value) (0) p2).bind (u5 fun v1 g2 g3 g4 g5 => some (v1, g2, g3, g4, g5)))) X0
set_option maxHeartbeats 4000000 in
set_option maxRecDepth 100000 in
theorem kX3_numberUnlike (l : Launch) (d : DT) (h0 : Nat → Nat) (n : Nat) (x0_bytes : (Nat → Int32)) (x0_size : Int32) (x0_start : Int32) (x0_end : Int32) (x0_token : Int32) (x0_value : Int32) (p1 : Int32) (p2 : Int32)  {out : Int32 × Int32 × Int32 × Int32 × Int32} (hf : fX3_numberUnlike n (x0_bytes, x0_size, x0_start, x0_end, x0_token, x0_value) p1 p2 = some out) : Ct l d yX3_numberUnlike cX3_numberUnlike 3 (some .int) { frames := 3, cells := 0, slots := 0, locals := 66 } [.ref (h0 0), .int p1, .int p2] [gTp d h0 x0_bytes x0_size x0_start x0_end x0_token x0_value] (fun _ : Unit => (some (.int out.1), [gTp d h0 x0_bytes x0_size (out.2.1) (out.2.2.1) (out.2.2.2.1) (out.2.2.2.2)])) := by
  refine Ct.of (by decide) (Nat.le_of_ble_eq_true rfl) ?_
  intro Φ hl hK hR
  subst hl
  have hK : Ok d Φ RX3 "numberUnlike" cX3_numberUnlike 3 (some .int) { frames := 3, cells := 0, slots := 0, locals := 66 } := hK
  unfold fX3_numberUnlike at hf
  have hf := un6 hf
  show J d Φ 3 [gTp d h0 x0_bytes x0_size x0_start x0_end x0_token x0_value] 0 0 0 [(0, .ref (h0 0)), (1, .int p1), (2, .int p2)] []
  refine J_aload_n hK qd0_150.1 rfl 0 rfl rfl ?_
  refine J_get hK fo_RX3_32 qd0_150.2.1 rfl 0 0 rfl rfl rfl ?_
  refine J_iconst (v := 2) hK qd0_150.2.2.1 rfl (by decide) ?_
  refine J_icmp_ne (tg := 20) hK qd0_150.2.2.2.1 rfl rfl (fun hc5 => ?_) (fun hc5 => ?_)
  · have hf := iq hc5 hf
    refine J_aload_n hK qd0_150.2.2.2.2.2.2.2.2.2.2.1 rfl 0 rfl rfl ?_
    refine J_iconst (v := 0) hK qd0_150.2.2.2.2.2.2.2.2.2.2.2.1 rfl (by decide) ?_
    refine J_iload_n hK qd0_150.2.2.2.2.2.2.2.2.2.2.2.2.1 rfl 2 rfl rfl ?_
    obtain ⟨⟨v1, g2, g3, g4, g5⟩, e6, hf⟩ := bs hf
    have hf := un5 hf
    refine J_callV (m := 1) (m' := 1) (ce' := 0) (sl' := 0) (gr := []) (gs' := fun _ => [gTp d h0 x0_bytes x0_size g2 g3 g4 g5]) (st' := fun _ => [.int v1]) (st := []) hK qd0_150.2.2.2.2.2.2.2.2.2.2.2.2.2.1 cv_RX3_80 iv_yX3_number (As := [.int (0), .int p2]) (kX3_number _ d h0 n x0_bytes x0_size x0_start x0_end x0_token x0_value (0) p2 e6) rfl rfl (Nat.le_of_ble_eq_true rfl) (by decide) 0 0 rfl rfl rfl [0] [] rfl (by decide +kernel) rfl rfl [0] (by decide +kernel) (fun _ => rfl) (fun _ => rfl) rfl rfl rfl (fun _ => rfl) (fun _ => ?_)
    obtain rfl := Option.some.inj hf
    exact J_iret hK hR qd0_150.2.2.2.2.2.2.2.2.2.2.2.2.2.2.1 () rfl (by decide) (by decide)
  · have hf := ip hc5 hf
    refine J_aload_n hK qd0_150.2.2.2.2.1 rfl 0 rfl rfl ?_
    refine J_get hK fo_RX3_131 qd0_150.2.2.2.2.2.1 rfl 0 0 rfl rfl rfl ?_
    refine J_iload_n hK qd0_150.2.2.2.2.2.2.1 rfl 1 rfl rfl ?_
    refine J_icmp_ne (tg := 20) hK qd0_150.2.2.2.2.2.2.2.1 rfl rfl (fun hc13 => ?_) (fun hc13 => ?_)
    · have hf := iq hc13 hf
      refine J_aload_n hK qd0_150.2.2.2.2.2.2.2.2.2.2.1 rfl 0 rfl rfl ?_
      refine J_iconst (v := 0) hK qd0_150.2.2.2.2.2.2.2.2.2.2.2.1 rfl (by decide) ?_
      refine J_iload_n hK qd0_150.2.2.2.2.2.2.2.2.2.2.2.2.1 rfl 2 rfl rfl ?_
      obtain ⟨⟨v7, g8, g9, g10, g11⟩, e12, hf⟩ := bs hf
      have hf := un5 hf
      refine J_callV (m := 1) (m' := 1) (ce' := 0) (sl' := 0) (gr := []) (gs' := fun _ => [gTp d h0 x0_bytes x0_size g8 g9 g10 g11]) (st' := fun _ => [.int v7]) (st := []) hK qd0_150.2.2.2.2.2.2.2.2.2.2.2.2.2.1 cv_RX3_80 iv_yX3_number (As := [.int (0), .int p2]) (kX3_number _ d h0 n x0_bytes x0_size x0_start x0_end x0_token x0_value (0) p2 e12) rfl rfl (Nat.le_of_ble_eq_true rfl) (by decide) 0 0 rfl rfl rfl [0] [] rfl (by decide +kernel) rfl rfl [0] (by decide +kernel) (fun _ => rfl) (fun _ => rfl) rfl rfl rfl (fun _ => rfl) (fun _ => ?_)
      obtain rfl := Option.some.inj hf
      exact J_iret hK hR qd0_150.2.2.2.2.2.2.2.2.2.2.2.2.2.2.1 () rfl (by decide) (by decide)
    · have hf := ip hc13 hf
      refine J_iconst (v := (-1)) hK qd0_150.2.2.2.2.2.2.2.2.1 rfl (by decide) ?_
      refine J_goto hK qd0_150.2.2.2.2.2.2.2.2.2.1 (n := 26) rfl ?_
      obtain rfl := Option.some.inj hf
      exact J_iret hK hR qd0_150.2.2.2.2.2.2.2.2.2.2.2.2.2.2.1 () rfl (by decide) (by decide)

def fX3_readLine_j130 (x1_lineCount : Int32) (x1_goodsCount : Int32) (x1_workCount : Int32) (x1_years : Int32) (x1_lines : (Nat → Int32)) (x1_goods : (Nat → Int32)) (x1_works : (Nat → Int32)) (x1_change : (Nat → Int32)) (x1_coin : (Nat → Int32)) (x1_knownFree : (Nat → Int32)) (x1_isKnown : Int32) (v6 : Int32) (y16 : Int32) (v24 : Int32) (v37 : Int32) (v43 : Int32) (x49 : Int32) (x50 : Int32) (x51 : Int32) (x52 : Int32) (y53 : Int32) : Option (Int32 × Int32 × Int32 × Int32 × Int32 × Int32 × (Nat → Int32) × Int32) :=
  if y53 = (-1) then (some (0, x49, x50, x51, x52, x1_lineCount, x1_lines, x1_isKnown)) else ((fX1_addLine (x1_lineCount, x1_goodsCount, x1_workCount, x1_years, x1_lines, x1_goods, x1_works, x1_change, x1_coin, x1_knownFree, x1_isKnown) v6 y16 v24 v37 v43 y53).bind (u3 fun g54 g55 g56 => some (1, x49, x50, x51, x52, g54, g55, g56)))
def fX3_readLine_j28 (n : Nat) (x0_bytes : (Nat → Int32)) (x0_size : Int32) (x1_lineCount : Int32) (x1_goodsCount : Int32) (x1_workCount : Int32) (x1_years : Int32) (x1_lines : (Nat → Int32)) (x1_goods : (Nat → Int32)) (x1_works : (Nat → Int32)) (x1_change : (Nat → Int32)) (x1_coin : (Nat → Int32)) (x1_knownFree : (Nat → Int32)) (x1_isKnown : Int32) (v6 : Int32) (x12 : Int32) (x13 : Int32) (x14 : Int32) (x15 : Int32) (y16 : Int32) : Option (Int32 × Int32 × Int32 × Int32 × Int32 × Int32 × (Nat → Int32) × Int32) :=
  if y16 = (-1) then (some (0, x12, x13, x14, x15, x1_lineCount, x1_lines, x1_isKnown)) else ((fX3_isWord n (x0_bytes, x0_size, x12, x13, x14, x15) 1).bind (fun v17 => if v17 = 0 then (some (0, x12, x13, x14, x15, x1_lineCount, x1_lines, x1_isKnown)) else ((fX3_next n (x0_bytes, x0_size, x12, x13, x14, x15)).bind (u4 fun g19 g20 g21 g22 => (fX3_number n (x0_bytes, x0_size, g19, g20, g21, g22) (1) (7)).bind (u5 fun v24 g25 g26 g27 g28 => if v24 = (-1) then (some (0, g25, g26, g27, g28, x1_lineCount, x1_lines, x1_isKnown)) else ((fX3_isWord n (x0_bytes, x0_size, g25, g26, g27, g28) 2).bind (fun v30 => if v30 = 0 then (some (0, g25, g26, g27, g28, x1_lineCount, x1_lines, x1_isKnown)) else ((fX3_next n (x0_bytes, x0_size, g25, g26, g27, g28)).bind (u4 fun g32 g33 g34 g35 => (fX3_number n (x0_bytes, x0_size, g32, g33, g34, g35) (1) (60)).bind (u5 fun v37 g38 g39 g40 g41 => if v37 = (-1) then (some (0, g38, g39, g40, g41, x1_lineCount, x1_lines, x1_isKnown)) else ((fX3_perhaps n (x0_bytes, x0_size, g38, g39, g40, g41) 3 (1) (999) (999)).bind (u5 fun v43 g44 g45 g46 g47 => if v43 = (-1) then (fX3_readLine_j130 x1_lineCount x1_goodsCount x1_workCount x1_years x1_lines x1_goods x1_works x1_change x1_coin x1_knownFree x1_isKnown v6 y16 v24 v37 v43 g44 g45 g46 g47 (-1)) else ((fX3_perhaps n (x0_bytes, x0_size, g44, g45, g46, g47) 4 (0) (5) (0)).bind (u5 fun v58 g59 g60 g61 g62 => fX3_readLine_j130 x1_lineCount x1_goodsCount x1_workCount x1_years x1_lines x1_goods x1_works x1_change x1_coin x1_knownFree x1_isKnown v6 y16 v24 v37 v43 g59 g60 g61 g62 v58))))))))))))))
def fX3_readLine (n : Nat) (X0 : TpT) (X1 : LdT) : Option (Int32 × Int32 × Int32 × Int32 × Int32 × Int32 × (Nat → Int32) × Int32) :=
  u6 (fun (x0_bytes : (Nat → Int32)) (x0_size : Int32) (x0_start : Int32) (x0_end : Int32) (x0_token : Int32) (x0_value : Int32) => u11 (fun (x1_lineCount : Int32) (x1_goodsCount : Int32) (x1_workCount : Int32) (x1_years : Int32) (x1_lines : (Nat → Int32)) (x1_goods : (Nat → Int32)) (x1_works : (Nat → Int32)) (x1_change : (Nat → Int32)) (x1_coin : (Nat → Int32)) (x1_knownFree : (Nat → Int32)) (x1_isKnown : Int32) => (fX3_next n (x0_bytes, x0_size, x0_start, x0_end, x0_token, x0_value)).bind (u4 fun g1 g2 g3 g4 => (fX3_number n (x0_bytes, x0_size, g1, g2, g3, g4) (0) (11)).bind (u5 fun v6 g7 g8 g9 g10 => if v6 = (-1) then (fX3_readLine_j28 n x0_bytes x0_size x1_lineCount x1_goodsCount x1_workCount x1_years x1_lines x1_goods x1_works x1_change x1_coin x1_knownFree x1_isKnown v6 g7 g8 g9 g10 (-1)) else ((fX3_numberUnlike n (x0_bytes, x0_size, g7, g8, g9, g10) v6 (11)).bind (u5 fun v64 g65 g66 g67 g68 => fX3_readLine_j28 n x0_bytes x0_size x1_lineCount x1_goodsCount x1_workCount x1_years x1_lines x1_goods x1_works x1_change x1_coin x1_knownFree x1_isKnown v6 g65 g66 g67 g68 v64))))) X1) X0
set_option maxHeartbeats 4000000 in
set_option maxRecDepth 100000 in
theorem kX3_readLine (l : Launch) (d : DT) (h0 : Nat → Nat) (h1 : Nat → Nat) (n : Nat) (x0_bytes : (Nat → Int32)) (x0_size : Int32) (x0_start : Int32) (x0_end : Int32) (x0_token : Int32) (x0_value : Int32) (x1_lineCount : Int32) (x1_goodsCount : Int32) (x1_workCount : Int32) (x1_years : Int32) (x1_lines : (Nat → Int32)) (x1_goods : (Nat → Int32)) (x1_works : (Nat → Int32)) (x1_change : (Nat → Int32)) (x1_coin : (Nat → Int32)) (x1_knownFree : (Nat → Int32)) (x1_isKnown : Int32)  {out : Int32 × Int32 × Int32 × Int32 × Int32 × Int32 × (Nat → Int32) × Int32} (hf : fX3_readLine n (x0_bytes, x0_size, x0_start, x0_end, x0_token, x0_value) (x1_lineCount, x1_goodsCount, x1_workCount, x1_years, x1_lines, x1_goods, x1_works, x1_change, x1_coin, x1_knownFree, x1_isKnown) = some out) : Ct l d yX3_readLine cX3_readLine 8 (some .boolean) { frames := 6, cells := 0, slots := 0, locals := 131 } [.ref (h0 0), .ref (h1 0)] [gTp d h0 x0_bytes x0_size x0_start x0_end x0_token x0_value, gLd d h1 x1_lineCount x1_goodsCount x1_workCount x1_years x1_lines x1_goods x1_works x1_change x1_coin x1_knownFree x1_isKnown] (fun _ : Unit => (some (.int out.1), [gTp d h0 x0_bytes x0_size (out.2.1) (out.2.2.1) (out.2.2.2.1) (out.2.2.2.2.1), gLd d h1 (out.2.2.2.2.2.1) x1_goodsCount x1_workCount x1_years (out.2.2.2.2.2.2.1) x1_goods x1_works x1_change x1_coin x1_knownFree (out.2.2.2.2.2.2.2)])) := by
  refine Ct.of (by decide) (Nat.le_of_ble_eq_true rfl) ?_
  intro Φ hl hK hR
  subst hl
  have hK : Ok d Φ RX3 "readLine" cX3_readLine 8 (some .boolean) { frames := 6, cells := 0, slots := 0, locals := 131 } := hK
  unfold fX3_readLine at hf
  have hf := un6 hf
  have hf := un11 hf
  show J d Φ 8 [gTp d h0 x0_bytes x0_size x0_start x0_end x0_token x0_value, gLd d h1 x1_lineCount x1_goodsCount x1_workCount x1_years x1_lines x1_goods x1_works x1_change x1_coin x1_knownFree x1_isKnown] 0 0 0 [(0, .ref (h0 0)), (1, .ref (h1 0))] []
  refine J_aload_n hK qd0_128.1 rfl 0 rfl rfl ?_
  obtain ⟨⟨g1, g2, g3, g4⟩, e5, hf⟩ := bs hf
  have hf := un4 hf
  refine J_callV (m := 2) (m' := 2) (ce' := 0) (sl' := 0) (gr := [gLd d h1 x1_lineCount x1_goodsCount x1_workCount x1_years x1_lines x1_goods x1_works x1_change x1_coin x1_knownFree x1_isKnown]) (gs' := fun _ => [gTp d h0 x0_bytes x0_size g1 g2 g3 g4, gLd d h1 x1_lineCount x1_goodsCount x1_workCount x1_years x1_lines x1_goods x1_works x1_change x1_coin x1_knownFree x1_isKnown]) (st' := fun _ => []) (st := []) hK qd0_128.2.1 cv_RX3_22 iv_yX3_next (As := []) (kX3_next _ d h0 n x0_bytes x0_size x0_start x0_end x0_token x0_value e5) rfl rfl (Nat.le_of_ble_eq_true rfl) (by decide) 0 0 rfl rfl rfl [0] [1] rfl (by decide +kernel) rfl rfl [1, 0] (by decide +kernel) (fun _ => rfl) (fun _ => rfl) rfl rfl rfl (fun _ => rfl) (fun _ => ?_)
  refine J_aload_n hK qd0_128.2.2.1 rfl 0 rfl rfl ?_
  refine J_iconst (v := 0) hK qd0_128.2.2.2.1 rfl (by decide) ?_
  refine J_bipush (v := 11) hK qd0_128.2.2.2.2.1 rfl (by decide) ?_
  obtain ⟨⟨v6, g7, g8, g9, g10⟩, e11, hf⟩ := bs hf
  have hf := un5 hf
  refine J_callV (m := 2) (m' := 2) (ce' := 0) (sl' := 0) (gr := [gLd d h1 x1_lineCount x1_goodsCount x1_workCount x1_years x1_lines x1_goods x1_works x1_change x1_coin x1_knownFree x1_isKnown]) (gs' := fun _ => [gTp d h0 x0_bytes x0_size g7 g8 g9 g10, gLd d h1 x1_lineCount x1_goodsCount x1_workCount x1_years x1_lines x1_goods x1_works x1_change x1_coin x1_knownFree x1_isKnown]) (st' := fun _ => [.int v6]) (st := []) hK qd0_128.2.2.2.2.2.1 cv_RX3_80 iv_yX3_number (As := [.int (0), .int (11)]) (kX3_number _ d h0 n x0_bytes x0_size g1 g2 g3 g4 (0) (11) e11) rfl rfl (Nat.le_of_ble_eq_true rfl) (by decide) 0 0 rfl rfl rfl [0] [1] rfl (by decide +kernel) rfl rfl [1, 0] (by decide +kernel) (fun _ => rfl) (fun _ => rfl) rfl rfl rfl (fun _ => rfl) (fun _ => ?_)
  refine J_istore_n (L' := [(2, .int v6), (0, .ref (h0 0)), (1, .ref (h1 0))]) hK qd0_128.2.2.2.2.2.2.1 rfl rfl (by decide) rfl ?_
  refine J_iload_n hK qd0_128.2.2.2.2.2.2.2.1 rfl 0 rfl rfl ?_
  refine J_iconst (v := (-1)) hK qd0_128.2.2.2.2.2.2.2.2.1 rfl (by decide) ?_
  have j28 : ∀ (x12 : Int32) (x13 : Int32) (x14 : Int32) (x15 : Int32) (y16 : Int32), fX3_readLine_j28 n x0_bytes x0_size x1_lineCount x1_goodsCount x1_workCount x1_years x1_lines x1_goods x1_works x1_change x1_coin x1_knownFree x1_isKnown v6 x12 x13 x14 x15 y16 = some out → J d Φ 8 [gTp d h0 x0_bytes x0_size x12 x13 x14 x15, gLd d h1 x1_lineCount x1_goodsCount x1_workCount x1_years x1_lines x1_goods x1_works x1_change x1_coin x1_knownFree x1_isKnown] 0 0 28 [(0, .ref (h0 0)), (1, .ref (h1 0)), (2, .int v6)] [.int y16] := by
    intro x12 x13 x14 x15 y16 hf
    unfold fX3_readLine_j28 at hf
    refine J_istore_n (L' := [(3, .int y16), (0, .ref (h0 0)), (1, .ref (h1 0)), (2, .int v6)]) hK qd0_129.1 rfl rfl (by decide) rfl ?_
    refine J_iload_n hK qd0_129.2.1 rfl 0 rfl rfl ?_
    refine J_iconst (v := (-1)) hK qd0_129.2.2.1 rfl (by decide) ?_
    refine J_icmp_eq (tg := 43) hK qd0_129.2.2.2.1 rfl rfl (fun hc31 => ?_) (fun hc31 => ?_)
    · have hf := ip hc31 hf
      refine J_iconst (v := 0) hK qd0_129.2.2.2.2.2.2.2.2.1 rfl (by decide) ?_
      obtain rfl := Option.some.inj hf
      exact J_zret hK hR qd0_129.2.2.2.2.2.2.2.2.2.1 () rfl rfl (by decide) (by decide)
    · have hf := iq hc31 hf
      refine J_aload_n hK qd0_129.2.2.2.2.1 rfl 1 rfl rfl ?_
      refine J_str hK qd0_129.2.2.2.2.2.1 rfl 1 rfl rfl rfl ?_
      obtain ⟨v17, e18, hf⟩ := bs hf
      refine J_callV (m := 2) (m' := 2) (ce' := 0) (sl' := 0) (gr := [gLd d h1 x1_lineCount x1_goodsCount x1_workCount x1_years x1_lines x1_goods x1_works x1_change x1_coin x1_knownFree x1_isKnown]) (gs' := fun _ => [gTp d h0 x0_bytes x0_size x12 x13 x14 x15, gLd d h1 x1_lineCount x1_goodsCount x1_workCount x1_years x1_lines x1_goods x1_works x1_change x1_coin x1_knownFree x1_isKnown]) (st' := fun _ => [.int v17]) (st := []) hK qd0_129.2.2.2.2.2.2.1 cv_RX3_37 iv_yX3_isWord (As := [.ref (d.2.2.2.1 1)]) (kX3_isWord _ d h0 n x0_bytes x0_size x12 x13 x14 x15 1 e18) rfl rfl (Nat.le_of_ble_eq_true rfl) (by decide) 0 0 rfl rfl rfl [0] [1] rfl (by decide +kernel) rfl rfl [1, 0] (by decide +kernel) (fun _ => rfl) (fun _ => rfl) rfl rfl rfl (fun _ => rfl) (fun _ => ?_)
      refine J_if_ne (tg := 45) hK qd0_129.2.2.2.2.2.2.2.1 rfl rfl (fun hc40 => ?_) (fun hc40 => ?_)
      · have hf := iq hc40 hf
        refine J_aload_n hK qd0_129.2.2.2.2.2.2.2.2.2.2.1 rfl 1 rfl rfl ?_
        obtain ⟨⟨g19, g20, g21, g22⟩, e23, hf⟩ := bs hf
        have hf := un4 hf
        refine J_callV (m := 2) (m' := 2) (ce' := 0) (sl' := 0) (gr := [gLd d h1 x1_lineCount x1_goodsCount x1_workCount x1_years x1_lines x1_goods x1_works x1_change x1_coin x1_knownFree x1_isKnown]) (gs' := fun _ => [gTp d h0 x0_bytes x0_size g19 g20 g21 g22, gLd d h1 x1_lineCount x1_goodsCount x1_workCount x1_years x1_lines x1_goods x1_works x1_change x1_coin x1_knownFree x1_isKnown]) (st' := fun _ => []) (st := []) hK qd0_129.2.2.2.2.2.2.2.2.2.2.2.1 cv_RX3_22 iv_yX3_next (As := []) (kX3_next _ d h0 n x0_bytes x0_size x12 x13 x14 x15 e23) rfl rfl (Nat.le_of_ble_eq_true rfl) (by decide) 0 0 rfl rfl rfl [0] [1] rfl (by decide +kernel) rfl rfl [1, 0] (by decide +kernel) (fun _ => rfl) (fun _ => rfl) rfl rfl rfl (fun _ => rfl) (fun _ => ?_)
        refine J_aload_n hK qd0_129.2.2.2.2.2.2.2.2.2.2.2.2.1 rfl 1 rfl rfl ?_
        refine J_iconst (v := 1) hK qd0_129.2.2.2.2.2.2.2.2.2.2.2.2.2.1 rfl (by decide) ?_
        refine J_bipush (v := 7) hK qd0_129.2.2.2.2.2.2.2.2.2.2.2.2.2.2.1 rfl (by decide) ?_
        obtain ⟨⟨v24, g25, g26, g27, g28⟩, e29, hf⟩ := bs hf
        have hf := un5 hf
        refine J_callV (m := 2) (m' := 2) (ce' := 0) (sl' := 0) (gr := [gLd d h1 x1_lineCount x1_goodsCount x1_workCount x1_years x1_lines x1_goods x1_works x1_change x1_coin x1_knownFree x1_isKnown]) (gs' := fun _ => [gTp d h0 x0_bytes x0_size g25 g26 g27 g28, gLd d h1 x1_lineCount x1_goodsCount x1_workCount x1_years x1_lines x1_goods x1_works x1_change x1_coin x1_knownFree x1_isKnown]) (st' := fun _ => [.int v24]) (st := []) hK qd0_129.2.2.2.2.2.2.2.2.2.2.2.2.2.2.2.1 cv_RX3_80 iv_yX3_number (As := [.int (1), .int (7)]) (kX3_number _ d h0 n x0_bytes x0_size g19 g20 g21 g22 (1) (7) e29) rfl rfl (Nat.le_of_ble_eq_true rfl) (by decide) 0 0 rfl rfl rfl [0] [1] rfl (by decide +kernel) rfl rfl [1, 0] (by decide +kernel) (fun _ => rfl) (fun _ => rfl) rfl rfl rfl (fun _ => rfl) (fun _ => ?_)
        refine J_istore (L' := [(4, .int v24), (3, .int y16), (0, .ref (h0 0)), (1, .ref (h1 0)), (2, .int v6)]) hK qd0_130.1 rfl (by decide) rfl ?_
        refine J_iload hK qd0_130.2.1 rfl 0 rfl ?_
        refine J_iconst (v := (-1)) hK qd0_130.2.2.1 rfl (by decide) ?_
        refine J_icmp_eq (tg := 73) hK qd0_130.2.2.2.1 rfl rfl (fun hc61 => ?_) (fun hc61 => ?_)
        · have hf := ip hc61 hf
          refine J_iconst (v := 0) hK qd0_130.2.2.2.2.2.2.2.2.1 rfl (by decide) ?_
          obtain rfl := Option.some.inj hf
          exact J_zret hK hR qd0_130.2.2.2.2.2.2.2.2.2.1 () rfl rfl (by decide) (by decide)
        · have hf := iq hc61 hf
          refine J_aload_n hK qd0_130.2.2.2.2.1 rfl 2 rfl rfl ?_
          refine J_str hK qd0_130.2.2.2.2.2.1 rfl 2 rfl rfl rfl ?_
          obtain ⟨v30, e31, hf⟩ := bs hf
          refine J_callV (m := 2) (m' := 2) (ce' := 0) (sl' := 0) (gr := [gLd d h1 x1_lineCount x1_goodsCount x1_workCount x1_years x1_lines x1_goods x1_works x1_change x1_coin x1_knownFree x1_isKnown]) (gs' := fun _ => [gTp d h0 x0_bytes x0_size g25 g26 g27 g28, gLd d h1 x1_lineCount x1_goodsCount x1_workCount x1_years x1_lines x1_goods x1_works x1_change x1_coin x1_knownFree x1_isKnown]) (st' := fun _ => [.int v30]) (st := []) hK qd0_130.2.2.2.2.2.2.1 cv_RX3_37 iv_yX3_isWord (As := [.ref (d.2.2.2.1 2)]) (kX3_isWord _ d h0 n x0_bytes x0_size g25 g26 g27 g28 2 e31) rfl rfl (Nat.le_of_ble_eq_true rfl) (by decide) 0 0 rfl rfl rfl [0] [1] rfl (by decide +kernel) rfl rfl [1, 0] (by decide +kernel) (fun _ => rfl) (fun _ => rfl) rfl rfl rfl (fun _ => rfl) (fun _ => ?_)
          refine J_if_ne (tg := 75) hK qd0_130.2.2.2.2.2.2.2.1 rfl rfl (fun hc70 => ?_) (fun hc70 => ?_)
          · have hf := iq hc70 hf
            refine J_aload_n hK qd0_130.2.2.2.2.2.2.2.2.2.2.1 rfl 2 rfl rfl ?_
            obtain ⟨⟨g32, g33, g34, g35⟩, e36, hf⟩ := bs hf
            have hf := un4 hf
            refine J_callV (m := 2) (m' := 2) (ce' := 0) (sl' := 0) (gr := [gLd d h1 x1_lineCount x1_goodsCount x1_workCount x1_years x1_lines x1_goods x1_works x1_change x1_coin x1_knownFree x1_isKnown]) (gs' := fun _ => [gTp d h0 x0_bytes x0_size g32 g33 g34 g35, gLd d h1 x1_lineCount x1_goodsCount x1_workCount x1_years x1_lines x1_goods x1_works x1_change x1_coin x1_knownFree x1_isKnown]) (st' := fun _ => []) (st := []) hK qd0_130.2.2.2.2.2.2.2.2.2.2.2.1 cv_RX3_22 iv_yX3_next (As := []) (kX3_next _ d h0 n x0_bytes x0_size g25 g26 g27 g28 e36) rfl rfl (Nat.le_of_ble_eq_true rfl) (by decide) 0 0 rfl rfl rfl [0] [1] rfl (by decide +kernel) rfl rfl [1, 0] (by decide +kernel) (fun _ => rfl) (fun _ => rfl) rfl rfl rfl (fun _ => rfl) (fun _ => ?_)
            refine J_aload_n hK qd0_130.2.2.2.2.2.2.2.2.2.2.2.2.1 rfl 2 rfl rfl ?_
            refine J_iconst (v := 1) hK qd0_130.2.2.2.2.2.2.2.2.2.2.2.2.2.1 rfl (by decide) ?_
            refine J_bipush (v := 60) hK qd0_130.2.2.2.2.2.2.2.2.2.2.2.2.2.2.1 rfl (by decide) ?_
            obtain ⟨⟨v37, g38, g39, g40, g41⟩, e42, hf⟩ := bs hf
            have hf := un5 hf
            refine J_callV (m := 2) (m' := 2) (ce' := 0) (sl' := 0) (gr := [gLd d h1 x1_lineCount x1_goodsCount x1_workCount x1_years x1_lines x1_goods x1_works x1_change x1_coin x1_knownFree x1_isKnown]) (gs' := fun _ => [gTp d h0 x0_bytes x0_size g38 g39 g40 g41, gLd d h1 x1_lineCount x1_goodsCount x1_workCount x1_years x1_lines x1_goods x1_works x1_change x1_coin x1_knownFree x1_isKnown]) (st' := fun _ => [.int v37]) (st := []) hK qd0_130.2.2.2.2.2.2.2.2.2.2.2.2.2.2.2.1 cv_RX3_80 iv_yX3_number (As := [.int (1), .int (60)]) (kX3_number _ d h0 n x0_bytes x0_size g32 g33 g34 g35 (1) (60) e42) rfl rfl (Nat.le_of_ble_eq_true rfl) (by decide) 0 0 rfl rfl rfl [0] [1] rfl (by decide +kernel) rfl rfl [1, 0] (by decide +kernel) (fun _ => rfl) (fun _ => rfl) rfl rfl rfl (fun _ => rfl) (fun _ => ?_)
            refine J_istore (L' := [(5, .int v37), (4, .int v24), (3, .int y16), (0, .ref (h0 0)), (1, .ref (h1 0)), (2, .int v6)]) hK qd0_131.1 rfl (by decide) rfl ?_
            refine J_iload hK qd0_131.2.1 rfl 0 rfl ?_
            refine J_iconst (v := (-1)) hK qd0_131.2.2.1 rfl (by decide) ?_
            refine J_icmp_ne (tg := 96) hK qd0_131.2.2.2.1 rfl rfl (fun hc91 => ?_) (fun hc91 => ?_)
            · have hf := iq hc91 hf
              refine J_aload_n hK qd0_131.2.2.2.2.2.2.1 rfl 3 rfl rfl ?_
              refine J_str hK qd0_131.2.2.2.2.2.2.2.1 rfl 3 rfl rfl rfl ?_
              refine J_iconst (v := 1) hK qd0_131.2.2.2.2.2.2.2.2.1 rfl (by decide) ?_
              refine J_sipush (v := 999) hK qd0_131.2.2.2.2.2.2.2.2.2.1 rfl (by decide) ?_
              refine J_sipush (v := 999) hK qd0_131.2.2.2.2.2.2.2.2.2.2.1 rfl (by decide) ?_
              obtain ⟨⟨v43, g44, g45, g46, g47⟩, e48, hf⟩ := bs hf
              have hf := un5 hf
              refine J_callV (m := 2) (m' := 2) (ce' := 0) (sl' := 0) (gr := [gLd d h1 x1_lineCount x1_goodsCount x1_workCount x1_years x1_lines x1_goods x1_works x1_change x1_coin x1_knownFree x1_isKnown]) (gs' := fun _ => [gTp d h0 x0_bytes x0_size g44 g45 g46 g47, gLd d h1 x1_lineCount x1_goodsCount x1_workCount x1_years x1_lines x1_goods x1_works x1_change x1_coin x1_knownFree x1_isKnown]) (st' := fun _ => [.int v43]) (st := []) hK qd0_131.2.2.2.2.2.2.2.2.2.2.2.1 cv_RX3_93 iv_yX3_perhaps (As := [.ref (d.2.2.2.1 3), .int (1), .int (999), .int (999)]) (kX3_perhaps _ d h0 n x0_bytes x0_size g38 g39 g40 g41 3 (1) (999) (999) e48) rfl rfl (Nat.le_of_ble_eq_true rfl) (by decide) 0 0 rfl rfl rfl [0] [1] rfl (by decide +kernel) rfl rfl [1, 0] (by decide +kernel) (fun _ => rfl) (fun _ => rfl) rfl rfl rfl (fun _ => rfl) (fun _ => ?_)
              refine J_istore (L' := [(6, .int v43), (5, .int v37), (4, .int v24), (3, .int y16), (0, .ref (h0 0)), (1, .ref (h1 0)), (2, .int v6)]) hK qd0_131.2.2.2.2.2.2.2.2.2.2.2.2.1 rfl (by decide) rfl ?_
              refine J_iload hK qd0_131.2.2.2.2.2.2.2.2.2.2.2.2.2.1 rfl 0 rfl ?_
              refine J_iconst (v := (-1)) hK qd0_131.2.2.2.2.2.2.2.2.2.2.2.2.2.2.1 rfl (by decide) ?_
              have j130 : ∀ (x49 : Int32) (x50 : Int32) (x51 : Int32) (x52 : Int32) (y53 : Int32), fX3_readLine_j130 x1_lineCount x1_goodsCount x1_workCount x1_years x1_lines x1_goods x1_works x1_change x1_coin x1_knownFree x1_isKnown v6 y16 v24 v37 v43 x49 x50 x51 x52 y53 = some out → J d Φ 8 [gTp d h0 x0_bytes x0_size x49 x50 x51 x52, gLd d h1 x1_lineCount x1_goodsCount x1_workCount x1_years x1_lines x1_goods x1_works x1_change x1_coin x1_knownFree x1_isKnown] 0 0 130 [(1, .ref (h1 0)), (2, .int v6), (3, .int y16), (4, .int v24), (5, .int v37), (6, .int v43)] [.int y53] := by
                intro x49 x50 x51 x52 y53 hf
                unfold fX3_readLine_j130 at hf
                refine J_istore (L' := [(7, .int y53), (1, .ref (h1 0)), (2, .int v6), (3, .int y16), (4, .int v24), (5, .int v37), (6, .int v43)]) hK qd0_132.2.2.2.2.2.2.2.2.1 rfl (by decide) rfl ?_
                refine J_iload hK qd0_132.2.2.2.2.2.2.2.2.2.1 rfl 0 rfl ?_
                refine J_iconst (v := (-1)) hK qd0_132.2.2.2.2.2.2.2.2.2.2.1 rfl (by decide) ?_
                refine J_icmp_ne (tg := 140) hK qd0_132.2.2.2.2.2.2.2.2.2.2.2.1 rfl rfl (fun hc135 => ?_) (fun hc135 => ?_)
                · have hf := iq hc135 hf
                  refine J_aload_n hK qd0_132.2.2.2.2.2.2.2.2.2.2.2.2.2.2.1 rfl 1 rfl rfl ?_
                  refine J_iload_n hK qd0_132.2.2.2.2.2.2.2.2.2.2.2.2.2.2.2.1 rfl 2 rfl rfl ?_
                  refine J_iload_n hK qd0_133.1 rfl 3 rfl rfl ?_
                  refine J_iload hK qd0_133.2.1 rfl 4 rfl ?_
                  refine J_iload hK qd0_133.2.2.1 rfl 5 rfl ?_
                  refine J_iload hK qd0_133.2.2.2.1 rfl 6 rfl ?_
                  refine J_iload hK qd0_133.2.2.2.2.1 rfl 0 rfl ?_
                  obtain ⟨⟨g54, g55, g56⟩, e57, hf⟩ := bs hf
                  have hf := un3 hf
                  refine J_callV (m := 2) (m' := 2) (ce' := 0) (sl' := 0) (gr := [gTp d h0 x0_bytes x0_size x49 x50 x51 x52]) (gs' := fun _ => [gTp d h0 x0_bytes x0_size x49 x50 x51 x52, gLd d h1 g54 x1_goodsCount x1_workCount x1_years g55 x1_goods x1_works x1_change x1_coin x1_knownFree g56]) (st' := fun _ => []) (st := []) hK qd0_133.2.2.2.2.2.1 cv_RX3_99 iv_yX1_addLine (As := [.int v6, .int y16, .int v24, .int v37, .int v43, .int y53]) (kX1_addLine _ d h1 x1_lineCount x1_goodsCount x1_workCount x1_years x1_lines x1_goods x1_works x1_change x1_coin x1_knownFree x1_isKnown v6 y16 v24 v37 v43 y53 e57) rfl rfl (Nat.le_of_ble_eq_true rfl) (by decide) 1 0 rfl rfl rfl [1] [0] rfl (by decide +kernel) rfl rfl [0, 1] (by decide +kernel) (fun _ => rfl) (fun _ => rfl) rfl rfl rfl (fun _ => rfl) (fun _ => ?_)
                  refine J_iconst (v := 1) hK qd0_133.2.2.2.2.2.2.1 rfl (by decide) ?_
                  obtain rfl := Option.some.inj hf
                  exact J_zret hK hR qd0_133.2.2.2.2.2.2.2.1 () rfl rfl (by decide) (by decide)
                · have hf := ip hc135 hf
                  refine J_iconst (v := 0) hK qd0_132.2.2.2.2.2.2.2.2.2.2.2.2.1 rfl (by decide) ?_
                  obtain rfl := Option.some.inj hf
                  exact J_zret hK hR qd0_132.2.2.2.2.2.2.2.2.2.2.2.2.2.1 () rfl rfl (by decide) (by decide)
              refine J_icmp_ne (tg := 121) hK qd0_131.2.2.2.2.2.2.2.2.2.2.2.2.2.2.2.1 rfl rfl (fun hc114 => ?_) (fun hc114 => ?_)
              · have hf := iq hc114 hf
                refine J_aload_n hK qd0_132.2.2.1 rfl 4 rfl rfl ?_
                refine J_str hK qd0_132.2.2.2.1 rfl 4 rfl rfl rfl ?_
                refine J_iconst (v := 0) hK qd0_132.2.2.2.2.1 rfl (by decide) ?_
                refine J_iconst (v := 5) hK qd0_132.2.2.2.2.2.1 rfl (by decide) ?_
                refine J_iconst (v := 0) hK qd0_132.2.2.2.2.2.2.1 rfl (by decide) ?_
                obtain ⟨⟨v58, g59, g60, g61, g62⟩, e63, hf⟩ := bs hf
                have hf := un5 hf
                refine J_callV (m := 2) (m' := 2) (ce' := 0) (sl' := 0) (gr := [gLd d h1 x1_lineCount x1_goodsCount x1_workCount x1_years x1_lines x1_goods x1_works x1_change x1_coin x1_knownFree x1_isKnown]) (gs' := fun _ => [gTp d h0 x0_bytes x0_size g59 g60 g61 g62, gLd d h1 x1_lineCount x1_goodsCount x1_workCount x1_years x1_lines x1_goods x1_works x1_change x1_coin x1_knownFree x1_isKnown]) (st' := fun _ => [.int v58]) (st := []) hK qd0_132.2.2.2.2.2.2.2.1 cv_RX3_93 iv_yX3_perhaps (As := [.ref (d.2.2.2.1 4), .int (0), .int (5), .int (0)]) (kX3_perhaps _ d h0 n x0_bytes x0_size g44 g45 g46 g47 4 (0) (5) (0) e63) rfl rfl (Nat.le_of_ble_eq_true rfl) (by decide) 0 0 rfl rfl rfl [0] [1] rfl (by decide +kernel) rfl rfl [1, 0] (by decide +kernel) (fun _ => rfl) (fun _ => rfl) rfl rfl rfl (fun _ => rfl) (fun _ => ?_)
                exact J_loc [5, 6, 3, 2, 1, 0] rfl (j130 g59 g60 g61 g62 v58 hf)
              · have hf := ip hc114 hf
                refine J_iconst (v := (-1)) hK qd0_132.1 rfl (by decide) ?_
                refine J_goto hK qd0_132.2.1 (n := 130) rfl ?_
                exact J_loc [5, 6, 3, 2, 1, 0] rfl (j130 g44 g45 g46 g47 (-1) hf)
            · have hf := ip hc91 hf
              refine J_iconst (v := 0) hK qd0_131.2.2.2.2.1 rfl (by decide) ?_
              obtain rfl := Option.some.inj hf
              exact J_zret hK hR qd0_131.2.2.2.2.2.1 () rfl rfl (by decide) (by decide)
          · have hf := ip hc70 hf
            refine J_iconst (v := 0) hK qd0_130.2.2.2.2.2.2.2.2.1 rfl (by decide) ?_
            obtain rfl := Option.some.inj hf
            exact J_zret hK hR qd0_130.2.2.2.2.2.2.2.2.2.1 () rfl rfl (by decide) (by decide)
      · have hf := ip hc40 hf
        refine J_iconst (v := 0) hK qd0_129.2.2.2.2.2.2.2.2.1 rfl (by decide) ?_
        obtain rfl := Option.some.inj hf
        exact J_zret hK hR qd0_129.2.2.2.2.2.2.2.2.2.1 () rfl rfl (by decide) (by decide)
  refine J_icmp_ne (tg := 21) hK qd0_128.2.2.2.2.2.2.2.2.2.1 rfl rfl (fun hc14 => ?_) (fun hc14 => ?_)
  · have hf := iq hc14 hf
    refine J_aload_n hK qd0_128.2.2.2.2.2.2.2.2.2.2.2.2.1 rfl 1 rfl rfl ?_
    refine J_iload_n hK qd0_128.2.2.2.2.2.2.2.2.2.2.2.2.2.1 rfl 0 rfl rfl ?_
    refine J_bipush (v := 11) hK qd0_128.2.2.2.2.2.2.2.2.2.2.2.2.2.2.1 rfl (by decide) ?_
    obtain ⟨⟨v64, g65, g66, g67, g68⟩, e69, hf⟩ := bs hf
    have hf := un5 hf
    refine J_callV (m := 2) (m' := 2) (ce' := 0) (sl' := 0) (gr := [gLd d h1 x1_lineCount x1_goodsCount x1_workCount x1_years x1_lines x1_goods x1_works x1_change x1_coin x1_knownFree x1_isKnown]) (gs' := fun _ => [gTp d h0 x0_bytes x0_size g65 g66 g67 g68, gLd d h1 x1_lineCount x1_goodsCount x1_workCount x1_years x1_lines x1_goods x1_works x1_change x1_coin x1_knownFree x1_isKnown]) (st' := fun _ => [.int v64]) (st := []) hK qd0_128.2.2.2.2.2.2.2.2.2.2.2.2.2.2.2.1 cv_RX3_84 iv_yX3_numberUnlike (As := [.int v6, .int (11)]) (kX3_numberUnlike _ d h0 n x0_bytes x0_size g7 g8 g9 g10 v6 (11) e69) rfl rfl (Nat.le_of_ble_eq_true rfl) (by decide) 0 0 rfl rfl rfl [0] [1] rfl (by decide +kernel) rfl rfl [1, 0] (by decide +kernel) (fun _ => rfl) (fun _ => rfl) rfl rfl rfl (fun _ => rfl) (fun _ => ?_)
    exact J_loc [1, 2, 0] rfl (j28 g65 g66 g67 g68 v64 hf)
  · have hf := ip hc14 hf
    refine J_iconst (v := (-1)) hK qd0_128.2.2.2.2.2.2.2.2.2.2.1 rfl (by decide) ?_
    refine J_goto hK qd0_128.2.2.2.2.2.2.2.2.2.2.2.1 (n := 28) rfl ?_
    exact J_loc [1, 2, 0] rfl (j28 g7 g8 g9 g10 (-1) hf)
end
section
def fX3_readGoods_j45 (x1_lineCount : Int32) (x1_goodsCount : Int32) (x1_workCount : Int32) (x1_years : Int32) (x1_lines : (Nat → Int32)) (x1_goods : (Nat → Int32)) (x1_works : (Nat → Int32)) (x1_change : (Nat → Int32)) (x1_coin : (Nat → Int32)) (x1_knownFree : (Nat → Int32)) (x1_isKnown : Int32) (v6 : Int32) (y16 : Int32) (x17 : Int32) (x18 : Int32) (x19 : Int32) (x20 : Int32) (y21 : Int32) : Option (Int32 × Int32 × Int32 × Int32 × Int32 × Int32 × (Nat → Int32) × Int32) :=
  if y21 = (-1) then (some (0, x17, x18, x19, x20, x1_goodsCount, x1_goods, x1_isKnown)) else ((fX1_addGoods (x1_lineCount, x1_goodsCount, x1_workCount, x1_years, x1_lines, x1_goods, x1_works, x1_change, x1_coin, x1_knownFree, x1_isKnown) v6 y16 y21).bind (u3 fun g22 g23 g24 => some (1, x17, x18, x19, x20, g22, g23, g24)))
def fX3_readGoods_j28 (n : Nat) (x0_bytes : (Nat → Int32)) (x0_size : Int32) (x1_lineCount : Int32) (x1_goodsCount : Int32) (x1_workCount : Int32) (x1_years : Int32) (x1_lines : (Nat → Int32)) (x1_goods : (Nat → Int32)) (x1_works : (Nat → Int32)) (x1_change : (Nat → Int32)) (x1_coin : (Nat → Int32)) (x1_knownFree : (Nat → Int32)) (x1_isKnown : Int32) (v6 : Int32) (x12 : Int32) (x13 : Int32) (x14 : Int32) (x15 : Int32) (y16 : Int32) : Option (Int32 × Int32 × Int32 × Int32 × Int32 × Int32 × (Nat → Int32) × Int32) :=
  if y16 = (-1) then (fX3_readGoods_j45 x1_lineCount x1_goodsCount x1_workCount x1_years x1_lines x1_goods x1_works x1_change x1_coin x1_knownFree x1_isKnown v6 y16 x12 x13 x14 x15 (-1)) else ((fX3_number n (x0_bytes, x0_size, x12, x13, x14, x15) (1) (99)).bind (u5 fun v26 g27 g28 g29 g30 => fX3_readGoods_j45 x1_lineCount x1_goodsCount x1_workCount x1_years x1_lines x1_goods x1_works x1_change x1_coin x1_knownFree x1_isKnown v6 y16 g27 g28 g29 g30 v26))
def fX3_readGoods (n : Nat) (X0 : TpT) (X1 : LdT) : Option (Int32 × Int32 × Int32 × Int32 × Int32 × Int32 × (Nat → Int32) × Int32) :=
  u6 (fun (x0_bytes : (Nat → Int32)) (x0_size : Int32) (x0_start : Int32) (x0_end : Int32) (x0_token : Int32) (x0_value : Int32) => u11 (fun (x1_lineCount : Int32) (x1_goodsCount : Int32) (x1_workCount : Int32) (x1_years : Int32) (x1_lines : (Nat → Int32)) (x1_goods : (Nat → Int32)) (x1_works : (Nat → Int32)) (x1_change : (Nat → Int32)) (x1_coin : (Nat → Int32)) (x1_knownFree : (Nat → Int32)) (x1_isKnown : Int32) => (fX3_next n (x0_bytes, x0_size, x0_start, x0_end, x0_token, x0_value)).bind (u4 fun g1 g2 g3 g4 => (fX3_number n (x0_bytes, x0_size, g1, g2, g3, g4) (0) (11)).bind (u5 fun v6 g7 g8 g9 g10 => if v6 = (-1) then (fX3_readGoods_j28 n x0_bytes x0_size x1_lineCount x1_goodsCount x1_workCount x1_years x1_lines x1_goods x1_works x1_change x1_coin x1_knownFree x1_isKnown v6 g7 g8 g9 g10 (-1)) else ((fX3_numberUnlike n (x0_bytes, x0_size, g7, g8, g9, g10) v6 (11)).bind (u5 fun v32 g33 g34 g35 g36 => fX3_readGoods_j28 n x0_bytes x0_size x1_lineCount x1_goodsCount x1_workCount x1_years x1_lines x1_goods x1_works x1_change x1_coin x1_knownFree x1_isKnown v6 g33 g34 g35 g36 v32))))) X1) X0
set_option maxHeartbeats 4000000 in
set_option maxRecDepth 100000 in
theorem kX3_readGoods (l : Launch) (d : DT) (h0 : Nat → Nat) (h1 : Nat → Nat) (n : Nat) (x0_bytes : (Nat → Int32)) (x0_size : Int32) (x0_start : Int32) (x0_end : Int32) (x0_token : Int32) (x0_value : Int32) (x1_lineCount : Int32) (x1_goodsCount : Int32) (x1_workCount : Int32) (x1_years : Int32) (x1_lines : (Nat → Int32)) (x1_goods : (Nat → Int32)) (x1_works : (Nat → Int32)) (x1_change : (Nat → Int32)) (x1_coin : (Nat → Int32)) (x1_knownFree : (Nat → Int32)) (x1_isKnown : Int32)  {out : Int32 × Int32 × Int32 × Int32 × Int32 × Int32 × (Nat → Int32) × Int32} (hf : fX3_readGoods n (x0_bytes, x0_size, x0_start, x0_end, x0_token, x0_value) (x1_lineCount, x1_goodsCount, x1_workCount, x1_years, x1_lines, x1_goods, x1_works, x1_change, x1_coin, x1_knownFree, x1_isKnown) = some out) : Ct l d yX3_readGoods cX3_readGoods 5 (some .boolean) { frames := 4, cells := 0, slots := 0, locals := 88 } [.ref (h0 0), .ref (h1 0)] [gTp d h0 x0_bytes x0_size x0_start x0_end x0_token x0_value, gLd d h1 x1_lineCount x1_goodsCount x1_workCount x1_years x1_lines x1_goods x1_works x1_change x1_coin x1_knownFree x1_isKnown] (fun _ : Unit => (some (.int out.1), [gTp d h0 x0_bytes x0_size (out.2.1) (out.2.2.1) (out.2.2.2.1) (out.2.2.2.2.1), gLd d h1 x1_lineCount (out.2.2.2.2.2.1) x1_workCount x1_years x1_lines (out.2.2.2.2.2.2.1) x1_works x1_change x1_coin x1_knownFree (out.2.2.2.2.2.2.2)])) := by
  refine Ct.of (by decide) (Nat.le_of_ble_eq_true rfl) ?_
  intro Φ hl hK hR
  subst hl
  have hK : Ok d Φ RX3 "readGoods" cX3_readGoods 5 (some .boolean) { frames := 4, cells := 0, slots := 0, locals := 88 } := hK
  unfold fX3_readGoods at hf
  have hf := un6 hf
  have hf := un11 hf
  show J d Φ 5 [gTp d h0 x0_bytes x0_size x0_start x0_end x0_token x0_value, gLd d h1 x1_lineCount x1_goodsCount x1_workCount x1_years x1_lines x1_goods x1_works x1_change x1_coin x1_knownFree x1_isKnown] 0 0 0 [(0, .ref (h0 0)), (1, .ref (h1 0))] []
  refine J_aload_n hK qd0_134.1 rfl 0 rfl rfl ?_
  obtain ⟨⟨g1, g2, g3, g4⟩, e5, hf⟩ := bs hf
  have hf := un4 hf
  refine J_callV (m := 2) (m' := 2) (ce' := 0) (sl' := 0) (gr := [gLd d h1 x1_lineCount x1_goodsCount x1_workCount x1_years x1_lines x1_goods x1_works x1_change x1_coin x1_knownFree x1_isKnown]) (gs' := fun _ => [gTp d h0 x0_bytes x0_size g1 g2 g3 g4, gLd d h1 x1_lineCount x1_goodsCount x1_workCount x1_years x1_lines x1_goods x1_works x1_change x1_coin x1_knownFree x1_isKnown]) (st' := fun _ => []) (st := []) hK qd0_134.2.1 cv_RX3_22 iv_yX3_next (As := []) (kX3_next _ d h0 n x0_bytes x0_size x0_start x0_end x0_token x0_value e5) rfl rfl (Nat.le_of_ble_eq_true rfl) (by decide) 0 0 rfl rfl rfl [0] [1] rfl (by decide +kernel) rfl rfl [1, 0] (by decide +kernel) (fun _ => rfl) (fun _ => rfl) rfl rfl rfl (fun _ => rfl) (fun _ => ?_)
  refine J_aload_n hK qd0_134.2.2.1 rfl 0 rfl rfl ?_
  refine J_iconst (v := 0) hK qd0_134.2.2.2.1 rfl (by decide) ?_
  refine J_bipush (v := 11) hK qd0_134.2.2.2.2.1 rfl (by decide) ?_
  obtain ⟨⟨v6, g7, g8, g9, g10⟩, e11, hf⟩ := bs hf
  have hf := un5 hf
  refine J_callV (m := 2) (m' := 2) (ce' := 0) (sl' := 0) (gr := [gLd d h1 x1_lineCount x1_goodsCount x1_workCount x1_years x1_lines x1_goods x1_works x1_change x1_coin x1_knownFree x1_isKnown]) (gs' := fun _ => [gTp d h0 x0_bytes x0_size g7 g8 g9 g10, gLd d h1 x1_lineCount x1_goodsCount x1_workCount x1_years x1_lines x1_goods x1_works x1_change x1_coin x1_knownFree x1_isKnown]) (st' := fun _ => [.int v6]) (st := []) hK qd0_134.2.2.2.2.2.1 cv_RX3_80 iv_yX3_number (As := [.int (0), .int (11)]) (kX3_number _ d h0 n x0_bytes x0_size g1 g2 g3 g4 (0) (11) e11) rfl rfl (Nat.le_of_ble_eq_true rfl) (by decide) 0 0 rfl rfl rfl [0] [1] rfl (by decide +kernel) rfl rfl [1, 0] (by decide +kernel) (fun _ => rfl) (fun _ => rfl) rfl rfl rfl (fun _ => rfl) (fun _ => ?_)
  refine J_istore_n (L' := [(2, .int v6), (0, .ref (h0 0)), (1, .ref (h1 0))]) hK qd0_134.2.2.2.2.2.2.1 rfl rfl (by decide) rfl ?_
  refine J_iload_n hK qd0_134.2.2.2.2.2.2.2.1 rfl 0 rfl rfl ?_
  refine J_iconst (v := (-1)) hK qd0_134.2.2.2.2.2.2.2.2.1 rfl (by decide) ?_
  have j28 : ∀ (x12 : Int32) (x13 : Int32) (x14 : Int32) (x15 : Int32) (y16 : Int32), fX3_readGoods_j28 n x0_bytes x0_size x1_lineCount x1_goodsCount x1_workCount x1_years x1_lines x1_goods x1_works x1_change x1_coin x1_knownFree x1_isKnown v6 x12 x13 x14 x15 y16 = some out → J d Φ 5 [gTp d h0 x0_bytes x0_size x12 x13 x14 x15, gLd d h1 x1_lineCount x1_goodsCount x1_workCount x1_years x1_lines x1_goods x1_works x1_change x1_coin x1_knownFree x1_isKnown] 0 0 28 [(0, .ref (h0 0)), (1, .ref (h1 0)), (2, .int v6)] [.int y16] := by
    intro x12 x13 x14 x15 y16 hf
    unfold fX3_readGoods_j28 at hf
    refine J_istore_n (L' := [(3, .int y16), (0, .ref (h0 0)), (1, .ref (h1 0)), (2, .int v6)]) hK qd0_135.1 rfl rfl (by decide) rfl ?_
    refine J_iload_n hK qd0_135.2.1 rfl 0 rfl rfl ?_
    refine J_iconst (v := (-1)) hK qd0_135.2.2.1 rfl (by decide) ?_
    have j45 : ∀ (x17 : Int32) (x18 : Int32) (x19 : Int32) (x20 : Int32) (y21 : Int32), fX3_readGoods_j45 x1_lineCount x1_goodsCount x1_workCount x1_years x1_lines x1_goods x1_works x1_change x1_coin x1_knownFree x1_isKnown v6 y16 x17 x18 x19 x20 y21 = some out → J d Φ 5 [gTp d h0 x0_bytes x0_size x17 x18 x19 x20, gLd d h1 x1_lineCount x1_goodsCount x1_workCount x1_years x1_lines x1_goods x1_works x1_change x1_coin x1_knownFree x1_isKnown] 0 0 45 [(1, .ref (h1 0)), (2, .int v6), (3, .int y16)] [.int y21] := by
      intro x17 x18 x19 x20 y21 hf
      unfold fX3_readGoods_j45 at hf
      refine J_istore (L' := [(4, .int y21), (1, .ref (h1 0)), (2, .int v6), (3, .int y16)]) hK qd0_135.2.2.2.2.2.2.2.2.2.2.1 rfl (by decide) rfl ?_
      refine J_iload hK qd0_135.2.2.2.2.2.2.2.2.2.2.2.1 rfl 0 rfl ?_
      refine J_iconst (v := (-1)) hK qd0_135.2.2.2.2.2.2.2.2.2.2.2.2.1 rfl (by decide) ?_
      refine J_icmp_ne (tg := 55) hK qd0_135.2.2.2.2.2.2.2.2.2.2.2.2.2.1 rfl rfl (fun hc50 => ?_) (fun hc50 => ?_)
      · have hf := iq hc50 hf
        refine J_aload_n hK qd0_136.1 rfl 1 rfl rfl ?_
        refine J_iload_n hK qd0_136.2.1 rfl 2 rfl rfl ?_
        refine J_iload_n hK qd0_136.2.2.1 rfl 3 rfl rfl ?_
        refine J_iload hK qd0_136.2.2.2.1 rfl 0 rfl ?_
        obtain ⟨⟨g22, g23, g24⟩, e25, hf⟩ := bs hf
        have hf := un3 hf
        refine J_callV (m := 2) (m' := 2) (ce' := 0) (sl' := 0) (gr := [gTp d h0 x0_bytes x0_size x17 x18 x19 x20]) (gs' := fun _ => [gTp d h0 x0_bytes x0_size x17 x18 x19 x20, gLd d h1 x1_lineCount g22 x1_workCount x1_years x1_lines g23 x1_works x1_change x1_coin x1_knownFree g24]) (st' := fun _ => []) (st := []) hK qd0_136.2.2.2.2.1 cv_RX3_103 iv_yX1_addGoods (As := [.int v6, .int y16, .int y21]) (kX1_addGoods _ d h1 x1_lineCount x1_goodsCount x1_workCount x1_years x1_lines x1_goods x1_works x1_change x1_coin x1_knownFree x1_isKnown v6 y16 y21 e25) rfl rfl (Nat.le_of_ble_eq_true rfl) (by decide) 1 0 rfl rfl rfl [1] [0] rfl (by decide +kernel) rfl rfl [0, 1] (by decide +kernel) (fun _ => rfl) (fun _ => rfl) rfl rfl rfl (fun _ => rfl) (fun _ => ?_)
        refine J_iconst (v := 1) hK qd0_136.2.2.2.2.2.1 rfl (by decide) ?_
        obtain rfl := Option.some.inj hf
        exact J_zret hK hR qd0_136.2.2.2.2.2.2.1 () rfl rfl (by decide) (by decide)
      · have hf := ip hc50 hf
        refine J_iconst (v := 0) hK qd0_135.2.2.2.2.2.2.2.2.2.2.2.2.2.2.1 rfl (by decide) ?_
        obtain rfl := Option.some.inj hf
        exact J_zret hK hR qd0_135.2.2.2.2.2.2.2.2.2.2.2.2.2.2.2.1 () rfl rfl (by decide) (by decide)
    refine J_icmp_ne (tg := 38) hK qd0_135.2.2.2.1 rfl rfl (fun hc31 => ?_) (fun hc31 => ?_)
    · have hf := iq hc31 hf
      refine J_aload_n hK qd0_135.2.2.2.2.2.2.1 rfl 1 rfl rfl ?_
      refine J_iconst (v := 1) hK qd0_135.2.2.2.2.2.2.2.1 rfl (by decide) ?_
      refine J_bipush (v := 99) hK qd0_135.2.2.2.2.2.2.2.2.1 rfl (by decide) ?_
      obtain ⟨⟨v26, g27, g28, g29, g30⟩, e31, hf⟩ := bs hf
      have hf := un5 hf
      refine J_callV (m := 2) (m' := 2) (ce' := 0) (sl' := 0) (gr := [gLd d h1 x1_lineCount x1_goodsCount x1_workCount x1_years x1_lines x1_goods x1_works x1_change x1_coin x1_knownFree x1_isKnown]) (gs' := fun _ => [gTp d h0 x0_bytes x0_size g27 g28 g29 g30, gLd d h1 x1_lineCount x1_goodsCount x1_workCount x1_years x1_lines x1_goods x1_works x1_change x1_coin x1_knownFree x1_isKnown]) (st' := fun _ => [.int v26]) (st := []) hK qd0_135.2.2.2.2.2.2.2.2.2.1 cv_RX3_80 iv_yX3_number (As := [.int (1), .int (99)]) (kX3_number _ d h0 n x0_bytes x0_size x12 x13 x14 x15 (1) (99) e31) rfl rfl (Nat.le_of_ble_eq_true rfl) (by decide) 0 0 rfl rfl rfl [0] [1] rfl (by decide +kernel) rfl rfl [1, 0] (by decide +kernel) (fun _ => rfl) (fun _ => rfl) rfl rfl rfl (fun _ => rfl) (fun _ => ?_)
      exact J_loc [2, 3, 0] rfl (j45 g27 g28 g29 g30 v26 hf)
    · have hf := ip hc31 hf
      refine J_iconst (v := (-1)) hK qd0_135.2.2.2.2.1 rfl (by decide) ?_
      refine J_goto hK qd0_135.2.2.2.2.2.1 (n := 45) rfl ?_
      exact J_loc [2, 3, 0] rfl (j45 x12 x13 x14 x15 (-1) hf)
  refine J_icmp_ne (tg := 21) hK qd0_134.2.2.2.2.2.2.2.2.2.1 rfl rfl (fun hc14 => ?_) (fun hc14 => ?_)
  · have hf := iq hc14 hf
    refine J_aload_n hK qd0_134.2.2.2.2.2.2.2.2.2.2.2.2.1 rfl 1 rfl rfl ?_
    refine J_iload_n hK qd0_134.2.2.2.2.2.2.2.2.2.2.2.2.2.1 rfl 0 rfl rfl ?_
    refine J_bipush (v := 11) hK qd0_134.2.2.2.2.2.2.2.2.2.2.2.2.2.2.1 rfl (by decide) ?_
    obtain ⟨⟨v32, g33, g34, g35, g36⟩, e37, hf⟩ := bs hf
    have hf := un5 hf
    refine J_callV (m := 2) (m' := 2) (ce' := 0) (sl' := 0) (gr := [gLd d h1 x1_lineCount x1_goodsCount x1_workCount x1_years x1_lines x1_goods x1_works x1_change x1_coin x1_knownFree x1_isKnown]) (gs' := fun _ => [gTp d h0 x0_bytes x0_size g33 g34 g35 g36, gLd d h1 x1_lineCount x1_goodsCount x1_workCount x1_years x1_lines x1_goods x1_works x1_change x1_coin x1_knownFree x1_isKnown]) (st' := fun _ => [.int v32]) (st := []) hK qd0_134.2.2.2.2.2.2.2.2.2.2.2.2.2.2.2.1 cv_RX3_84 iv_yX3_numberUnlike (As := [.int v6, .int (11)]) (kX3_numberUnlike _ d h0 n x0_bytes x0_size g7 g8 g9 g10 v6 (11) e37) rfl rfl (Nat.le_of_ble_eq_true rfl) (by decide) 0 0 rfl rfl rfl [0] [1] rfl (by decide +kernel) rfl rfl [1, 0] (by decide +kernel) (fun _ => rfl) (fun _ => rfl) rfl rfl rfl (fun _ => rfl) (fun _ => ?_)
    exact J_loc [1, 2, 0] rfl (j28 g33 g34 g35 g36 v32 hf)
  · have hf := ip hc14 hf
    refine J_iconst (v := (-1)) hK qd0_134.2.2.2.2.2.2.2.2.2.2.1 rfl (by decide) ?_
    refine J_goto hK qd0_134.2.2.2.2.2.2.2.2.2.2.2.1 (n := 28) rfl ?_
    exact J_loc [1, 2, 0] rfl (j28 g7 g8 g9 g10 (-1) hf)

def fX3_readWork_j90 (x1_lineCount : Int32) (x1_goodsCount : Int32) (x1_workCount : Int32) (x1_years : Int32) (x1_lines : (Nat → Int32)) (x1_goods : (Nat → Int32)) (x1_works : (Nat → Int32)) (x1_change : (Nat → Int32)) (x1_coin : (Nat → Int32)) (x1_knownFree : (Nat → Int32)) (x1_isKnown : Int32) (v6 : Int32) (y16 : Int32) (y25 : Int32) (x26 : Int32) (x27 : Int32) (x28 : Int32) (x29 : Int32) (y30 : Int32) : Option (Int32 × Int32 × Int32 × Int32 × Int32 × Int32 × (Nat → Int32) × Int32) :=
  if y30 = (-1) then (some (0, x26, x27, x28, x29, x1_workCount, x1_works, x1_isKnown)) else ((fX1_addWork (x1_lineCount, x1_goodsCount, x1_workCount, x1_years, x1_lines, x1_goods, x1_works, x1_change, x1_coin, x1_knownFree, x1_isKnown) v6 y16 y25 y30).bind (u3 fun g31 g32 g33 => some (1, x26, x27, x28, x29, g31, g32, g33)))
def fX3_readWork_j70 (n : Nat) (x0_bytes : (Nat → Int32)) (x0_size : Int32) (x1_lineCount : Int32) (x1_goodsCount : Int32) (x1_workCount : Int32) (x1_years : Int32) (x1_lines : (Nat → Int32)) (x1_goods : (Nat → Int32)) (x1_works : (Nat → Int32)) (x1_change : (Nat → Int32)) (x1_coin : (Nat → Int32)) (x1_knownFree : (Nat → Int32)) (x1_isKnown : Int32) (v6 : Int32) (y16 : Int32) (x21 : Int32) (x22 : Int32) (x23 : Int32) (x24 : Int32) (y25 : Int32) : Option (Int32 × Int32 × Int32 × Int32 × Int32 × Int32 × (Nat → Int32) × Int32) :=
  if y25 = (-1) then (fX3_readWork_j90 x1_lineCount x1_goodsCount x1_workCount x1_years x1_lines x1_goods x1_works x1_change x1_coin x1_knownFree x1_isKnown v6 y16 y25 x21 x22 x23 x24 (-1)) else ((fX3_number n (x0_bytes, x0_size, x21, x22, x23, x24) (0) (999)).bind (u5 fun v35 g36 g37 g38 g39 => fX3_readWork_j90 x1_lineCount x1_goodsCount x1_workCount x1_years x1_lines x1_goods x1_works x1_change x1_coin x1_knownFree x1_isKnown v6 y16 y25 g36 g37 g38 g39 v35))
def fX3_readWork_j30 (n : Nat) (x0_bytes : (Nat → Int32)) (x0_size : Int32) (x1_lineCount : Int32) (x1_goodsCount : Int32) (x1_workCount : Int32) (x1_years : Int32) (x1_lines : (Nat → Int32)) (x1_goods : (Nat → Int32)) (x1_works : (Nat → Int32)) (x1_change : (Nat → Int32)) (x1_coin : (Nat → Int32)) (x1_knownFree : (Nat → Int32)) (x1_isKnown : Int32) (v6 : Int32) (x12 : Int32) (x13 : Int32) (x14 : Int32) (x15 : Int32) (y16 : Int32) : Option (Int32 × Int32 × Int32 × Int32 × Int32 × Int32 × (Nat → Int32) × Int32) :=
  if y16 = (-1) then (some (0, x12, x13, x14, x15, x1_workCount, x1_works, x1_isKnown)) else ((fX1_greatestB v6).bind (fun v17 => (fX6_isUnder n v6 (4)).bind (fun v19 => if v19 = 0 then ((fX3_number n (x0_bytes, x0_size, x12, x13, x14, x15) (0) v17).bind (u5 fun v41 g42 g43 g44 g45 => fX3_readWork_j70 n x0_bytes x0_size x1_lineCount x1_goodsCount x1_workCount x1_years x1_lines x1_goods x1_works x1_change x1_coin x1_knownFree x1_isKnown v6 y16 g42 g43 g44 g45 v41)) else ((fX3_numberUnlike n (x0_bytes, x0_size, x12, x13, x14, x15) y16 v17).bind (u5 fun v47 g48 g49 g50 g51 => fX3_readWork_j70 n x0_bytes x0_size x1_lineCount x1_goodsCount x1_workCount x1_years x1_lines x1_goods x1_works x1_change x1_coin x1_knownFree x1_isKnown v6 y16 g48 g49 g50 g51 v47)))))
def fX3_readWork (n : Nat) (X0 : TpT) (X1 : LdT) : Option (Int32 × Int32 × Int32 × Int32 × Int32 × Int32 × (Nat → Int32) × Int32) :=
  u6 (fun (x0_bytes : (Nat → Int32)) (x0_size : Int32) (x0_start : Int32) (x0_end : Int32) (x0_token : Int32) (x0_value : Int32) => u11 (fun (x1_lineCount : Int32) (x1_goodsCount : Int32) (x1_workCount : Int32) (x1_years : Int32) (x1_lines : (Nat → Int32)) (x1_goods : (Nat → Int32)) (x1_works : (Nat → Int32)) (x1_change : (Nat → Int32)) (x1_coin : (Nat → Int32)) (x1_knownFree : (Nat → Int32)) (x1_isKnown : Int32) => (fX3_next n (x0_bytes, x0_size, x0_start, x0_end, x0_token, x0_value)).bind (u4 fun g1 g2 g3 g4 => (fX3_number n (x0_bytes, x0_size, g1, g2, g3, g4) (1) (5)).bind (u5 fun v6 g7 g8 g9 g10 => if v6 = (-1) then (fX3_readWork_j30 n x0_bytes x0_size x1_lineCount x1_goodsCount x1_workCount x1_years x1_lines x1_goods x1_works x1_change x1_coin x1_knownFree x1_isKnown v6 g7 g8 g9 g10 (-1)) else ((fX1_greatestA (x1_lineCount, x1_goodsCount, x1_workCount, x1_years, x1_lines, x1_goods, x1_works, x1_change, x1_coin, x1_knownFree, x1_isKnown) v6).bind (fun v53 => (fX3_number n (x0_bytes, x0_size, g7, g8, g9, g10) (0) v53).bind (u5 fun v55 g56 g57 g58 g59 => fX3_readWork_j30 n x0_bytes x0_size x1_lineCount x1_goodsCount x1_workCount x1_years x1_lines x1_goods x1_works x1_change x1_coin x1_knownFree x1_isKnown v6 g56 g57 g58 g59 v55)))))) X1) X0
set_option maxHeartbeats 4000000 in
set_option maxRecDepth 100000 in
theorem kX3_readWork (l : Launch) (d : DT) (h0 : Nat → Nat) (h1 : Nat → Nat) (n : Nat) (x0_bytes : (Nat → Int32)) (x0_size : Int32) (x0_start : Int32) (x0_end : Int32) (x0_token : Int32) (x0_value : Int32) (x1_lineCount : Int32) (x1_goodsCount : Int32) (x1_workCount : Int32) (x1_years : Int32) (x1_lines : (Nat → Int32)) (x1_goods : (Nat → Int32)) (x1_works : (Nat → Int32)) (x1_change : (Nat → Int32)) (x1_coin : (Nat → Int32)) (x1_knownFree : (Nat → Int32)) (x1_isKnown : Int32)  {out : Int32 × Int32 × Int32 × Int32 × Int32 × Int32 × (Nat → Int32) × Int32} (hf : fX3_readWork n (x0_bytes, x0_size, x0_start, x0_end, x0_token, x0_value) (x1_lineCount, x1_goodsCount, x1_workCount, x1_years, x1_lines, x1_goods, x1_works, x1_change, x1_coin, x1_knownFree, x1_isKnown) = some out) : Ct l d yX3_readWork cX3_readWork 7 (some .boolean) { frames := 4, cells := 0, slots := 0, locals := 88 } [.ref (h0 0), .ref (h1 0)] [gTp d h0 x0_bytes x0_size x0_start x0_end x0_token x0_value, gLd d h1 x1_lineCount x1_goodsCount x1_workCount x1_years x1_lines x1_goods x1_works x1_change x1_coin x1_knownFree x1_isKnown] (fun _ : Unit => (some (.int out.1), [gTp d h0 x0_bytes x0_size (out.2.1) (out.2.2.1) (out.2.2.2.1) (out.2.2.2.2.1), gLd d h1 x1_lineCount x1_goodsCount (out.2.2.2.2.2.1) x1_years x1_lines x1_goods (out.2.2.2.2.2.2.1) x1_change x1_coin x1_knownFree (out.2.2.2.2.2.2.2)])) := by
  refine Ct.of (by decide) (Nat.le_of_ble_eq_true rfl) ?_
  intro Φ hl hK hR
  subst hl
  have hK : Ok d Φ RX3 "readWork" cX3_readWork 7 (some .boolean) { frames := 4, cells := 0, slots := 0, locals := 88 } := hK
  unfold fX3_readWork at hf
  have hf := un6 hf
  have hf := un11 hf
  show J d Φ 7 [gTp d h0 x0_bytes x0_size x0_start x0_end x0_token x0_value, gLd d h1 x1_lineCount x1_goodsCount x1_workCount x1_years x1_lines x1_goods x1_works x1_change x1_coin x1_knownFree x1_isKnown] 0 0 0 [(0, .ref (h0 0)), (1, .ref (h1 0))] []
  refine J_aload_n hK qd0_137.1 rfl 0 rfl rfl ?_
  obtain ⟨⟨g1, g2, g3, g4⟩, e5, hf⟩ := bs hf
  have hf := un4 hf
  refine J_callV (m := 2) (m' := 2) (ce' := 0) (sl' := 0) (gr := [gLd d h1 x1_lineCount x1_goodsCount x1_workCount x1_years x1_lines x1_goods x1_works x1_change x1_coin x1_knownFree x1_isKnown]) (gs' := fun _ => [gTp d h0 x0_bytes x0_size g1 g2 g3 g4, gLd d h1 x1_lineCount x1_goodsCount x1_workCount x1_years x1_lines x1_goods x1_works x1_change x1_coin x1_knownFree x1_isKnown]) (st' := fun _ => []) (st := []) hK qd0_137.2.1 cv_RX3_22 iv_yX3_next (As := []) (kX3_next _ d h0 n x0_bytes x0_size x0_start x0_end x0_token x0_value e5) rfl rfl (Nat.le_of_ble_eq_true rfl) (by decide) 0 0 rfl rfl rfl [0] [1] rfl (by decide +kernel) rfl rfl [1, 0] (by decide +kernel) (fun _ => rfl) (fun _ => rfl) rfl rfl rfl (fun _ => rfl) (fun _ => ?_)
  refine J_aload_n hK qd0_137.2.2.1 rfl 0 rfl rfl ?_
  refine J_iconst (v := 1) hK qd0_137.2.2.2.1 rfl (by decide) ?_
  refine J_iconst (v := 5) hK qd0_137.2.2.2.2.1 rfl (by decide) ?_
  obtain ⟨⟨v6, g7, g8, g9, g10⟩, e11, hf⟩ := bs hf
  have hf := un5 hf
  refine J_callV (m := 2) (m' := 2) (ce' := 0) (sl' := 0) (gr := [gLd d h1 x1_lineCount x1_goodsCount x1_workCount x1_years x1_lines x1_goods x1_works x1_change x1_coin x1_knownFree x1_isKnown]) (gs' := fun _ => [gTp d h0 x0_bytes x0_size g7 g8 g9 g10, gLd d h1 x1_lineCount x1_goodsCount x1_workCount x1_years x1_lines x1_goods x1_works x1_change x1_coin x1_knownFree x1_isKnown]) (st' := fun _ => [.int v6]) (st := []) hK qd0_137.2.2.2.2.2.1 cv_RX3_80 iv_yX3_number (As := [.int (1), .int (5)]) (kX3_number _ d h0 n x0_bytes x0_size g1 g2 g3 g4 (1) (5) e11) rfl rfl (Nat.le_of_ble_eq_true rfl) (by decide) 0 0 rfl rfl rfl [0] [1] rfl (by decide +kernel) rfl rfl [1, 0] (by decide +kernel) (fun _ => rfl) (fun _ => rfl) rfl rfl rfl (fun _ => rfl) (fun _ => ?_)
  refine J_istore_n (L' := [(2, .int v6), (0, .ref (h0 0)), (1, .ref (h1 0))]) hK qd0_137.2.2.2.2.2.2.1 rfl rfl (by decide) rfl ?_
  refine J_iload_n hK qd0_137.2.2.2.2.2.2.2.1 rfl 0 rfl rfl ?_
  refine J_iconst (v := (-1)) hK qd0_137.2.2.2.2.2.2.2.2.1 rfl (by decide) ?_
  have j30 : ∀ (x12 : Int32) (x13 : Int32) (x14 : Int32) (x15 : Int32) (y16 : Int32), fX3_readWork_j30 n x0_bytes x0_size x1_lineCount x1_goodsCount x1_workCount x1_years x1_lines x1_goods x1_works x1_change x1_coin x1_knownFree x1_isKnown v6 x12 x13 x14 x15 y16 = some out → J d Φ 7 [gTp d h0 x0_bytes x0_size x12 x13 x14 x15, gLd d h1 x1_lineCount x1_goodsCount x1_workCount x1_years x1_lines x1_goods x1_works x1_change x1_coin x1_knownFree x1_isKnown] 0 0 30 [(0, .ref (h0 0)), (1, .ref (h1 0)), (2, .int v6)] [.int y16] := by
    intro x12 x13 x14 x15 y16 hf
    unfold fX3_readWork_j30 at hf
    refine J_istore_n (L' := [(3, .int y16), (0, .ref (h0 0)), (1, .ref (h1 0)), (2, .int v6)]) hK qd0_138.2.2.1 rfl rfl (by decide) rfl ?_
    refine J_iload_n hK qd0_138.2.2.2.1 rfl 0 rfl rfl ?_
    refine J_iconst (v := (-1)) hK qd0_138.2.2.2.2.1 rfl (by decide) ?_
    refine J_icmp_ne (tg := 38) hK qd0_138.2.2.2.2.2.1 rfl rfl (fun hc33 => ?_) (fun hc33 => ?_)
    · have hf := iq hc33 hf
      refine J_aload_n hK qd0_138.2.2.2.2.2.2.2.2.1 rfl 2 rfl rfl ?_
      refine J_iload_n hK qd0_138.2.2.2.2.2.2.2.2.2.1 rfl 3 rfl rfl ?_
      obtain ⟨v17, e18, hf⟩ := bs hf
      refine J_callV (m := 2) (m' := 2) (ce' := 0) (sl' := 0) (gr := [gTp d h0 x0_bytes x0_size x12 x13 x14 x15, gLd d h1 x1_lineCount x1_goodsCount x1_workCount x1_years x1_lines x1_goods x1_works x1_change x1_coin x1_knownFree x1_isKnown]) (gs' := fun _ => [gTp d h0 x0_bytes x0_size x12 x13 x14 x15, gLd d h1 x1_lineCount x1_goodsCount x1_workCount x1_years x1_lines x1_goods x1_works x1_change x1_coin x1_knownFree x1_isKnown]) (st' := fun _ => [.int v17]) (st := []) hK qd0_138.2.2.2.2.2.2.2.2.2.2.1 cv_RX3_111 iv_yX1_greatestB (As := [.int v6]) (kX1_greatestB _ d (h1 0) v6 e18) rfl rfl (Nat.le_of_ble_eq_true rfl) (by decide) 1 0 rfl rfl rfl [] [0, 1] rfl (by decide +kernel) rfl rfl [0, 1] (by decide +kernel) (fun _ => rfl) (fun _ => rfl) rfl rfl rfl (fun _ => rfl) (fun _ => ?_)
      refine J_istore (L' := [(4, .int v17), (3, .int y16), (0, .ref (h0 0)), (1, .ref (h1 0)), (2, .int v6)]) hK qd0_138.2.2.2.2.2.2.2.2.2.2.2.1 rfl (by decide) rfl ?_
      refine J_iload_n hK qd0_138.2.2.2.2.2.2.2.2.2.2.2.2.1 rfl 4 rfl rfl ?_
      refine J_iconst (v := 4) hK qd0_138.2.2.2.2.2.2.2.2.2.2.2.2.2.1 rfl (by decide) ?_
      obtain ⟨v19, e20, hf⟩ := bs hf
      refine J_callN (m := 2) (m' := 2) (ce' := 0) (sl' := 0) (gr := [gTp d h0 x0_bytes x0_size x12 x13 x14 x15, gLd d h1 x1_lineCount x1_goodsCount x1_workCount x1_years x1_lines x1_goods x1_works x1_change x1_coin x1_knownFree x1_isKnown]) (gs' := fun _ => [gTp d h0 x0_bytes x0_size x12 x13 x14 x15, gLd d h1 x1_lineCount x1_goodsCount x1_workCount x1_years x1_lines x1_goods x1_works x1_change x1_coin x1_knownFree x1_isKnown]) (st' := fun _ => [.int v19]) (st := []) hK qd0_138.2.2.2.2.2.2.2.2.2.2.2.2.2.2.1 cn_RX3_114 (As := [.int v6, .int (4)]) (kX6_isUnder _ d n v6 (4) e20) rfl rfl (Nat.le_of_ble_eq_true rfl) (by decide) [] [0, 1] rfl (by decide +kernel) rfl rfl [0, 1] (by decide +kernel) (fun _ => rfl) (fun _ => rfl) rfl rfl rfl (fun _ => rfl) (fun _ => ?_)
      have j70 : ∀ (x21 : Int32) (x22 : Int32) (x23 : Int32) (x24 : Int32) (y25 : Int32), fX3_readWork_j70 n x0_bytes x0_size x1_lineCount x1_goodsCount x1_workCount x1_years x1_lines x1_goods x1_works x1_change x1_coin x1_knownFree x1_isKnown v6 y16 x21 x22 x23 x24 y25 = some out → J d Φ 7 [gTp d h0 x0_bytes x0_size x21 x22 x23 x24, gLd d h1 x1_lineCount x1_goodsCount x1_workCount x1_years x1_lines x1_goods x1_works x1_change x1_coin x1_knownFree x1_isKnown] 0 0 70 [(0, .ref (h0 0)), (1, .ref (h1 0)), (2, .int v6), (3, .int y16)] [.int y25] := by
        intro x21 x22 x23 x24 y25 hf
        unfold fX3_readWork_j70 at hf
        refine J_istore (L' := [(5, .int y25), (0, .ref (h0 0)), (1, .ref (h1 0)), (2, .int v6), (3, .int y16)]) hK qd0_139.2.2.2.2.2.2.2.2.2.1 rfl (by decide) rfl ?_
        refine J_iload hK qd0_139.2.2.2.2.2.2.2.2.2.2.1 rfl 0 rfl ?_
        refine J_iconst (v := (-1)) hK qd0_139.2.2.2.2.2.2.2.2.2.2.2.1 rfl (by decide) ?_
        have j90 : ∀ (x26 : Int32) (x27 : Int32) (x28 : Int32) (x29 : Int32) (y30 : Int32), fX3_readWork_j90 x1_lineCount x1_goodsCount x1_workCount x1_years x1_lines x1_goods x1_works x1_change x1_coin x1_knownFree x1_isKnown v6 y16 y25 x26 x27 x28 x29 y30 = some out → J d Φ 7 [gTp d h0 x0_bytes x0_size x26 x27 x28 x29, gLd d h1 x1_lineCount x1_goodsCount x1_workCount x1_years x1_lines x1_goods x1_works x1_change x1_coin x1_knownFree x1_isKnown] 0 0 90 [(1, .ref (h1 0)), (2, .int v6), (3, .int y16), (5, .int y25)] [.int y30] := by
          intro x26 x27 x28 x29 y30 hf
          unfold fX3_readWork_j90 at hf
          refine J_istore (L' := [(6, .int y30), (1, .ref (h1 0)), (2, .int v6), (3, .int y16), (5, .int y25)]) hK qd0_140.2.2.2.1 rfl (by decide) rfl ?_
          refine J_iload hK qd0_140.2.2.2.2.1 rfl 0 rfl ?_
          refine J_iconst (v := (-1)) hK qd0_140.2.2.2.2.2.1 rfl (by decide) ?_
          refine J_icmp_ne (tg := 100) hK qd0_140.2.2.2.2.2.2.1 rfl rfl (fun hc95 => ?_) (fun hc95 => ?_)
          · have hf := iq hc95 hf
            refine J_aload_n hK qd0_140.2.2.2.2.2.2.2.2.2.1 rfl 1 rfl rfl ?_
            refine J_iload_n hK qd0_140.2.2.2.2.2.2.2.2.2.2.1 rfl 2 rfl rfl ?_
            refine J_iload_n hK qd0_140.2.2.2.2.2.2.2.2.2.2.2.1 rfl 3 rfl rfl ?_
            refine J_iload hK qd0_140.2.2.2.2.2.2.2.2.2.2.2.2.1 rfl 4 rfl ?_
            refine J_iload hK qd0_140.2.2.2.2.2.2.2.2.2.2.2.2.2.1 rfl 0 rfl ?_
            obtain ⟨⟨g31, g32, g33⟩, e34, hf⟩ := bs hf
            have hf := un3 hf
            refine J_callV (m := 2) (m' := 2) (ce' := 0) (sl' := 0) (gr := [gTp d h0 x0_bytes x0_size x26 x27 x28 x29]) (gs' := fun _ => [gTp d h0 x0_bytes x0_size x26 x27 x28 x29, gLd d h1 x1_lineCount x1_goodsCount g31 x1_years x1_lines x1_goods g32 x1_change x1_coin x1_knownFree g33]) (st' := fun _ => []) (st := []) hK qd0_140.2.2.2.2.2.2.2.2.2.2.2.2.2.2.1 cv_RX3_118 iv_yX1_addWork (As := [.int v6, .int y16, .int y25, .int y30]) (kX1_addWork _ d h1 x1_lineCount x1_goodsCount x1_workCount x1_years x1_lines x1_goods x1_works x1_change x1_coin x1_knownFree x1_isKnown v6 y16 y25 y30 e34) rfl rfl (Nat.le_of_ble_eq_true rfl) (by decide) 1 0 rfl rfl rfl [1] [0] rfl (by decide +kernel) rfl rfl [0, 1] (by decide +kernel) (fun _ => rfl) (fun _ => rfl) rfl rfl rfl (fun _ => rfl) (fun _ => ?_)
            refine J_iconst (v := 1) hK qd0_140.2.2.2.2.2.2.2.2.2.2.2.2.2.2.2.1 rfl (by decide) ?_
            obtain rfl := Option.some.inj hf
            exact J_zret hK hR qd0_141.1 () rfl rfl (by decide) (by decide)
          · have hf := ip hc95 hf
            refine J_iconst (v := 0) hK qd0_140.2.2.2.2.2.2.2.1 rfl (by decide) ?_
            obtain rfl := Option.some.inj hf
            exact J_zret hK hR qd0_140.2.2.2.2.2.2.2.2.1 () rfl rfl (by decide) (by decide)
        refine J_icmp_ne (tg := 82) hK qd0_139.2.2.2.2.2.2.2.2.2.2.2.2.1 rfl rfl (fun hc75 => ?_) (fun hc75 => ?_)
        · have hf := iq hc75 hf
          refine J_aload_n hK qd0_139.2.2.2.2.2.2.2.2.2.2.2.2.2.2.2.1 rfl 1 rfl rfl ?_
          refine J_iconst (v := 0) hK qd0_140.1 rfl (by decide) ?_
          refine J_sipush (v := 999) hK qd0_140.2.1 rfl (by decide) ?_
          obtain ⟨⟨v35, g36, g37, g38, g39⟩, e40, hf⟩ := bs hf
          have hf := un5 hf
          refine J_callV (m := 2) (m' := 2) (ce' := 0) (sl' := 0) (gr := [gLd d h1 x1_lineCount x1_goodsCount x1_workCount x1_years x1_lines x1_goods x1_works x1_change x1_coin x1_knownFree x1_isKnown]) (gs' := fun _ => [gTp d h0 x0_bytes x0_size g36 g37 g38 g39, gLd d h1 x1_lineCount x1_goodsCount x1_workCount x1_years x1_lines x1_goods x1_works x1_change x1_coin x1_knownFree x1_isKnown]) (st' := fun _ => [.int v35]) (st := []) hK qd0_140.2.2.1 cv_RX3_80 iv_yX3_number (As := [.int (0), .int (999)]) (kX3_number _ d h0 n x0_bytes x0_size x21 x22 x23 x24 (0) (999) e40) rfl rfl (Nat.le_of_ble_eq_true rfl) (by decide) 0 0 rfl rfl rfl [0] [1] rfl (by decide +kernel) rfl rfl [1, 0] (by decide +kernel) (fun _ => rfl) (fun _ => rfl) rfl rfl rfl (fun _ => rfl) (fun _ => ?_)
          exact J_loc [2, 3, 4, 0] rfl (j90 g36 g37 g38 g39 v35 hf)
        · have hf := ip hc75 hf
          refine J_iconst (v := (-1)) hK qd0_139.2.2.2.2.2.2.2.2.2.2.2.2.2.1 rfl (by decide) ?_
          refine J_goto hK qd0_139.2.2.2.2.2.2.2.2.2.2.2.2.2.2.1 (n := 90) rfl ?_
          exact J_loc [2, 3, 4, 0] rfl (j90 x21 x22 x23 x24 (-1) hf)
      refine J_if_eq (tg := 63) hK qd0_138.2.2.2.2.2.2.2.2.2.2.2.2.2.2.2.1 rfl rfl (fun hc50 => ?_) (fun hc50 => ?_)
      · have hf := ip hc50 hf
        refine J_aload_n hK qd0_139.2.2.2.2.2.1 rfl 2 rfl rfl ?_
        refine J_iconst (v := 0) hK qd0_139.2.2.2.2.2.2.1 rfl (by decide) ?_
        refine J_iload hK qd0_139.2.2.2.2.2.2.2.1 rfl 0 rfl ?_
        obtain ⟨⟨v41, g42, g43, g44, g45⟩, e46, hf⟩ := bs hf
        have hf := un5 hf
        refine J_callV (m := 2) (m' := 2) (ce' := 0) (sl' := 0) (gr := [gLd d h1 x1_lineCount x1_goodsCount x1_workCount x1_years x1_lines x1_goods x1_works x1_change x1_coin x1_knownFree x1_isKnown]) (gs' := fun _ => [gTp d h0 x0_bytes x0_size g42 g43 g44 g45, gLd d h1 x1_lineCount x1_goodsCount x1_workCount x1_years x1_lines x1_goods x1_works x1_change x1_coin x1_knownFree x1_isKnown]) (st' := fun _ => [.int v41]) (st := []) hK qd0_139.2.2.2.2.2.2.2.2.1 cv_RX3_80 iv_yX3_number (As := [.int (0), .int v17]) (kX3_number _ d h0 n x0_bytes x0_size x12 x13 x14 x15 (0) v17 e46) rfl rfl (Nat.le_of_ble_eq_true rfl) (by decide) 0 0 rfl rfl rfl [0] [1] rfl (by decide +kernel) rfl rfl [1, 0] (by decide +kernel) (fun _ => rfl) (fun _ => rfl) rfl rfl rfl (fun _ => rfl) (fun _ => ?_)
        exact J_loc [2, 3, 4, 1] rfl (j70 g42 g43 g44 g45 v41 hf)
      · have hf := iq hc50 hf
        refine J_aload_n hK qd0_139.1 rfl 2 rfl rfl ?_
        refine J_iload_n hK qd0_139.2.1 rfl 1 rfl rfl ?_
        refine J_iload hK qd0_139.2.2.1 rfl 0 rfl ?_
        obtain ⟨⟨v47, g48, g49, g50, g51⟩, e52, hf⟩ := bs hf
        have hf := un5 hf
        refine J_callV (m := 2) (m' := 2) (ce' := 0) (sl' := 0) (gr := [gLd d h1 x1_lineCount x1_goodsCount x1_workCount x1_years x1_lines x1_goods x1_works x1_change x1_coin x1_knownFree x1_isKnown]) (gs' := fun _ => [gTp d h0 x0_bytes x0_size g48 g49 g50 g51, gLd d h1 x1_lineCount x1_goodsCount x1_workCount x1_years x1_lines x1_goods x1_works x1_change x1_coin x1_knownFree x1_isKnown]) (st' := fun _ => [.int v47]) (st := []) hK qd0_139.2.2.2.1 cv_RX3_84 iv_yX3_numberUnlike (As := [.int y16, .int v17]) (kX3_numberUnlike _ d h0 n x0_bytes x0_size x12 x13 x14 x15 y16 v17 e52) rfl rfl (Nat.le_of_ble_eq_true rfl) (by decide) 0 0 rfl rfl rfl [0] [1] rfl (by decide +kernel) rfl rfl [1, 0] (by decide +kernel) (fun _ => rfl) (fun _ => rfl) rfl rfl rfl (fun _ => rfl) (fun _ => ?_)
        refine J_goto hK qd0_139.2.2.2.2.1 (n := 70) rfl ?_
        exact J_loc [2, 3, 4, 1] rfl (j70 g48 g49 g50 g51 v47 hf)
    · have hf := ip hc33 hf
      refine J_iconst (v := 0) hK qd0_138.2.2.2.2.2.2.1 rfl (by decide) ?_
      obtain rfl := Option.some.inj hf
      exact J_zret hK hR qd0_138.2.2.2.2.2.2.2.1 () rfl rfl (by decide) (by decide)
  refine J_icmp_ne (tg := 20) hK qd0_137.2.2.2.2.2.2.2.2.2.1 rfl rfl (fun hc13 => ?_) (fun hc13 => ?_)
  · have hf := iq hc13 hf
    refine J_aload_n hK qd0_137.2.2.2.2.2.2.2.2.2.2.2.2.1 rfl 1 rfl rfl ?_
    refine J_iconst (v := 0) hK qd0_137.2.2.2.2.2.2.2.2.2.2.2.2.2.1 rfl (by decide) ?_
    refine J_aload_n hK qd0_137.2.2.2.2.2.2.2.2.2.2.2.2.2.2.1 rfl 2 rfl rfl ?_
    refine J_iload_n hK qd0_137.2.2.2.2.2.2.2.2.2.2.2.2.2.2.2.1 rfl 0 rfl rfl ?_
    obtain ⟨v53, e54, hf⟩ := bs hf
    refine J_callV (m := 2) (m' := 2) (ce' := 0) (sl' := 0) (gr := [gTp d h0 x0_bytes x0_size g7 g8 g9 g10]) (gs' := fun _ => [gTp d h0 x0_bytes x0_size g7 g8 g9 g10, gLd d h1 x1_lineCount x1_goodsCount x1_workCount x1_years x1_lines x1_goods x1_works x1_change x1_coin x1_knownFree x1_isKnown]) (st' := fun _ => [.int v53, .int (0), .ref (h0 0)]) (st := [.int (0), .ref (h0 0)]) hK qd0_138.1 cv_RX3_107 iv_yX1_greatestA (As := [.int v6]) (kX1_greatestA _ d h1 x1_lineCount x1_goodsCount x1_workCount x1_years x1_lines x1_goods x1_works x1_change x1_coin x1_knownFree x1_isKnown v6 e54) rfl rfl (Nat.le_of_ble_eq_true rfl) (by decide) 1 0 rfl rfl rfl [1] [0] rfl (by decide +kernel) rfl rfl [0, 1] (by decide +kernel) (fun _ => rfl) (fun _ => rfl) rfl rfl rfl (fun _ => rfl) (fun _ => ?_)
    obtain ⟨⟨v55, g56, g57, g58, g59⟩, e60, hf⟩ := bs hf
    have hf := un5 hf
    refine J_callV (m := 2) (m' := 2) (ce' := 0) (sl' := 0) (gr := [gLd d h1 x1_lineCount x1_goodsCount x1_workCount x1_years x1_lines x1_goods x1_works x1_change x1_coin x1_knownFree x1_isKnown]) (gs' := fun _ => [gTp d h0 x0_bytes x0_size g56 g57 g58 g59, gLd d h1 x1_lineCount x1_goodsCount x1_workCount x1_years x1_lines x1_goods x1_works x1_change x1_coin x1_knownFree x1_isKnown]) (st' := fun _ => [.int v55]) (st := []) hK qd0_138.2.1 cv_RX3_80 iv_yX3_number (As := [.int (0), .int v53]) (kX3_number _ d h0 n x0_bytes x0_size g7 g8 g9 g10 (0) v53 e60) rfl rfl (Nat.le_of_ble_eq_true rfl) (by decide) 0 0 rfl rfl rfl [0] [1] rfl (by decide +kernel) rfl rfl [1, 0] (by decide +kernel) (fun _ => rfl) (fun _ => rfl) rfl rfl rfl (fun _ => rfl) (fun _ => ?_)
    exact J_loc [1, 2, 0] rfl (j30 g56 g57 g58 g59 v55 hf)
  · have hf := ip hc13 hf
    refine J_iconst (v := (-1)) hK qd0_137.2.2.2.2.2.2.2.2.2.2.1 rfl (by decide) ?_
    refine J_goto hK qd0_137.2.2.2.2.2.2.2.2.2.2.2.1 (n := 30) rfl ?_
    exact J_loc [1, 2, 0] rfl (j30 g7 g8 g9 g10 (-1) hf)

def fX3_readChange_j28 (x1_lineCount : Int32) (x1_goodsCount : Int32) (x1_workCount : Int32) (x1_years : Int32) (x1_lines : (Nat → Int32)) (x1_goods : (Nat → Int32)) (x1_works : (Nat → Int32)) (x1_change : (Nat → Int32)) (x1_coin : (Nat → Int32)) (x1_knownFree : (Nat → Int32)) (x1_isKnown : Int32) (v6 : Int32) (x12 : Int32) (x13 : Int32) (x14 : Int32) (x15 : Int32) (y16 : Int32) : Option (Int32 × Int32 × Int32 × Int32 × Int32 × (Nat → Int32) × Int32) :=
  if y16 = (-1) then (some (0, x12, x13, x14, x15, x1_change, x1_isKnown)) else ((fX1_putChange (x1_lineCount, x1_goodsCount, x1_workCount, x1_years, x1_lines, x1_goods, x1_works, x1_change, x1_coin, x1_knownFree, x1_isKnown) v6 y16).bind (u2 fun g17 g18 => some (1, x12, x13, x14, x15, g17, g18)))
def fX3_readChange (n : Nat) (X0 : TpT) (X1 : LdT) : Option (Int32 × Int32 × Int32 × Int32 × Int32 × (Nat → Int32) × Int32) :=
  u6 (fun (x0_bytes : (Nat → Int32)) (x0_size : Int32) (x0_start : Int32) (x0_end : Int32) (x0_token : Int32) (x0_value : Int32) => u11 (fun (x1_lineCount : Int32) (x1_goodsCount : Int32) (x1_workCount : Int32) (x1_years : Int32) (x1_lines : (Nat → Int32)) (x1_goods : (Nat → Int32)) (x1_works : (Nat → Int32)) (x1_change : (Nat → Int32)) (x1_coin : (Nat → Int32)) (x1_knownFree : (Nat → Int32)) (x1_isKnown : Int32) => (fX3_next n (x0_bytes, x0_size, x0_start, x0_end, x0_token, x0_value)).bind (u4 fun g1 g2 g3 g4 => (fX3_number n (x0_bytes, x0_size, g1, g2, g3, g4) (0) (11)).bind (u5 fun v6 g7 g8 g9 g10 => if v6 = (-1) then (fX3_readChange_j28 x1_lineCount x1_goodsCount x1_workCount x1_years x1_lines x1_goods x1_works x1_change x1_coin x1_knownFree x1_isKnown v6 g7 g8 g9 g10 (-1)) else ((fX3_number n (x0_bytes, x0_size, g7, g8, g9, g10) (0) (99)).bind (u5 fun v20 g21 g22 g23 g24 => fX3_readChange_j28 x1_lineCount x1_goodsCount x1_workCount x1_years x1_lines x1_goods x1_works x1_change x1_coin x1_knownFree x1_isKnown v6 g21 g22 g23 g24 v20))))) X1) X0
set_option maxHeartbeats 4000000 in
set_option maxRecDepth 100000 in
theorem kX3_readChange (l : Launch) (d : DT) (h0 : Nat → Nat) (h1 : Nat → Nat) (n : Nat) (x0_bytes : (Nat → Int32)) (x0_size : Int32) (x0_start : Int32) (x0_end : Int32) (x0_token : Int32) (x0_value : Int32) (x1_lineCount : Int32) (x1_goodsCount : Int32) (x1_workCount : Int32) (x1_years : Int32) (x1_lines : (Nat → Int32)) (x1_goods : (Nat → Int32)) (x1_works : (Nat → Int32)) (x1_change : (Nat → Int32)) (x1_coin : (Nat → Int32)) (x1_knownFree : (Nat → Int32)) (x1_isKnown : Int32)  {out : Int32 × Int32 × Int32 × Int32 × Int32 × (Nat → Int32) × Int32} (hf : fX3_readChange n (x0_bytes, x0_size, x0_start, x0_end, x0_token, x0_value) (x1_lineCount, x1_goodsCount, x1_workCount, x1_years, x1_lines, x1_goods, x1_works, x1_change, x1_coin, x1_knownFree, x1_isKnown) = some out) : Ct l d yX3_readChange cX3_readChange 4 (some .boolean) { frames := 3, cells := 0, slots := 0, locals := 66 } [.ref (h0 0), .ref (h1 0)] [gTp d h0 x0_bytes x0_size x0_start x0_end x0_token x0_value, gLd d h1 x1_lineCount x1_goodsCount x1_workCount x1_years x1_lines x1_goods x1_works x1_change x1_coin x1_knownFree x1_isKnown] (fun _ : Unit => (some (.int out.1), [gTp d h0 x0_bytes x0_size (out.2.1) (out.2.2.1) (out.2.2.2.1) (out.2.2.2.2.1), gLd d h1 x1_lineCount x1_goodsCount x1_workCount x1_years x1_lines x1_goods x1_works (out.2.2.2.2.2.1) x1_coin x1_knownFree (out.2.2.2.2.2.2)])) := by
  refine Ct.of (by decide) (Nat.le_of_ble_eq_true rfl) ?_
  intro Φ hl hK hR
  subst hl
  have hK : Ok d Φ RX3 "readChange" cX3_readChange 4 (some .boolean) { frames := 3, cells := 0, slots := 0, locals := 66 } := hK
  unfold fX3_readChange at hf
  have hf := un6 hf
  have hf := un11 hf
  show J d Φ 4 [gTp d h0 x0_bytes x0_size x0_start x0_end x0_token x0_value, gLd d h1 x1_lineCount x1_goodsCount x1_workCount x1_years x1_lines x1_goods x1_works x1_change x1_coin x1_knownFree x1_isKnown] 0 0 0 [(0, .ref (h0 0)), (1, .ref (h1 0))] []
  refine J_aload_n hK qd0_142.1 rfl 0 rfl rfl ?_
  obtain ⟨⟨g1, g2, g3, g4⟩, e5, hf⟩ := bs hf
  have hf := un4 hf
  refine J_callV (m := 2) (m' := 2) (ce' := 0) (sl' := 0) (gr := [gLd d h1 x1_lineCount x1_goodsCount x1_workCount x1_years x1_lines x1_goods x1_works x1_change x1_coin x1_knownFree x1_isKnown]) (gs' := fun _ => [gTp d h0 x0_bytes x0_size g1 g2 g3 g4, gLd d h1 x1_lineCount x1_goodsCount x1_workCount x1_years x1_lines x1_goods x1_works x1_change x1_coin x1_knownFree x1_isKnown]) (st' := fun _ => []) (st := []) hK qd0_142.2.1 cv_RX3_22 iv_yX3_next (As := []) (kX3_next _ d h0 n x0_bytes x0_size x0_start x0_end x0_token x0_value e5) rfl rfl (Nat.le_of_ble_eq_true rfl) (by decide) 0 0 rfl rfl rfl [0] [1] rfl (by decide +kernel) rfl rfl [1, 0] (by decide +kernel) (fun _ => rfl) (fun _ => rfl) rfl rfl rfl (fun _ => rfl) (fun _ => ?_)
  refine J_aload_n hK qd0_142.2.2.1 rfl 0 rfl rfl ?_
  refine J_iconst (v := 0) hK qd0_142.2.2.2.1 rfl (by decide) ?_
  refine J_bipush (v := 11) hK qd0_142.2.2.2.2.1 rfl (by decide) ?_
  obtain ⟨⟨v6, g7, g8, g9, g10⟩, e11, hf⟩ := bs hf
  have hf := un5 hf
  refine J_callV (m := 2) (m' := 2) (ce' := 0) (sl' := 0) (gr := [gLd d h1 x1_lineCount x1_goodsCount x1_workCount x1_years x1_lines x1_goods x1_works x1_change x1_coin x1_knownFree x1_isKnown]) (gs' := fun _ => [gTp d h0 x0_bytes x0_size g7 g8 g9 g10, gLd d h1 x1_lineCount x1_goodsCount x1_workCount x1_years x1_lines x1_goods x1_works x1_change x1_coin x1_knownFree x1_isKnown]) (st' := fun _ => [.int v6]) (st := []) hK qd0_142.2.2.2.2.2.1 cv_RX3_80 iv_yX3_number (As := [.int (0), .int (11)]) (kX3_number _ d h0 n x0_bytes x0_size g1 g2 g3 g4 (0) (11) e11) rfl rfl (Nat.le_of_ble_eq_true rfl) (by decide) 0 0 rfl rfl rfl [0] [1] rfl (by decide +kernel) rfl rfl [1, 0] (by decide +kernel) (fun _ => rfl) (fun _ => rfl) rfl rfl rfl (fun _ => rfl) (fun _ => ?_)
  refine J_istore_n (L' := [(2, .int v6), (0, .ref (h0 0)), (1, .ref (h1 0))]) hK qd0_142.2.2.2.2.2.2.1 rfl rfl (by decide) rfl ?_
  refine J_iload_n hK qd0_142.2.2.2.2.2.2.2.1 rfl 0 rfl rfl ?_
  refine J_iconst (v := (-1)) hK qd0_142.2.2.2.2.2.2.2.2.1 rfl (by decide) ?_
  have j28 : ∀ (x12 : Int32) (x13 : Int32) (x14 : Int32) (x15 : Int32) (y16 : Int32), fX3_readChange_j28 x1_lineCount x1_goodsCount x1_workCount x1_years x1_lines x1_goods x1_works x1_change x1_coin x1_knownFree x1_isKnown v6 x12 x13 x14 x15 y16 = some out → J d Φ 4 [gTp d h0 x0_bytes x0_size x12 x13 x14 x15, gLd d h1 x1_lineCount x1_goodsCount x1_workCount x1_years x1_lines x1_goods x1_works x1_change x1_coin x1_knownFree x1_isKnown] 0 0 28 [(1, .ref (h1 0)), (2, .int v6)] [.int y16] := by
    intro x12 x13 x14 x15 y16 hf
    unfold fX3_readChange_j28 at hf
    refine J_istore_n (L' := [(3, .int y16), (1, .ref (h1 0)), (2, .int v6)]) hK qd0_143.1 rfl rfl (by decide) rfl ?_
    refine J_iload_n hK qd0_143.2.1 rfl 0 rfl rfl ?_
    refine J_iconst (v := (-1)) hK qd0_143.2.2.1 rfl (by decide) ?_
    refine J_icmp_ne (tg := 36) hK qd0_143.2.2.2.1 rfl rfl (fun hc31 => ?_) (fun hc31 => ?_)
    · have hf := iq hc31 hf
      refine J_aload_n hK qd0_143.2.2.2.2.2.2.1 rfl 1 rfl rfl ?_
      refine J_iload_n hK qd0_143.2.2.2.2.2.2.2.1 rfl 2 rfl rfl ?_
      refine J_iload_n hK qd0_143.2.2.2.2.2.2.2.2.1 rfl 0 rfl rfl ?_
      obtain ⟨⟨g17, g18⟩, e19, hf⟩ := bs hf
      have hf := un2 hf
      refine J_callV (m := 2) (m' := 2) (ce' := 0) (sl' := 0) (gr := [gTp d h0 x0_bytes x0_size x12 x13 x14 x15]) (gs' := fun _ => [gTp d h0 x0_bytes x0_size x12 x13 x14 x15, gLd d h1 x1_lineCount x1_goodsCount x1_workCount x1_years x1_lines x1_goods x1_works g17 x1_coin x1_knownFree g18]) (st' := fun _ => []) (st := []) hK qd0_143.2.2.2.2.2.2.2.2.2.1 cv_RX3_122 iv_yX1_putChange (As := [.int v6, .int y16]) (kX1_putChange _ d h1 x1_lineCount x1_goodsCount x1_workCount x1_years x1_lines x1_goods x1_works x1_change x1_coin x1_knownFree x1_isKnown v6 y16 e19) rfl rfl (Nat.le_of_ble_eq_true rfl) (by decide) 1 0 rfl rfl rfl [1] [0] rfl (by decide +kernel) rfl rfl [0, 1] (by decide +kernel) (fun _ => rfl) (fun _ => rfl) rfl rfl rfl (fun _ => rfl) (fun _ => ?_)
      refine J_iconst (v := 1) hK qd0_143.2.2.2.2.2.2.2.2.2.2.1 rfl (by decide) ?_
      obtain rfl := Option.some.inj hf
      exact J_zret hK hR qd0_143.2.2.2.2.2.2.2.2.2.2.2.1 () rfl rfl (by decide) (by decide)
    · have hf := ip hc31 hf
      refine J_iconst (v := 0) hK qd0_143.2.2.2.2.1 rfl (by decide) ?_
      obtain rfl := Option.some.inj hf
      exact J_zret hK hR qd0_143.2.2.2.2.2.1 () rfl rfl (by decide) (by decide)
  refine J_icmp_ne (tg := 21) hK qd0_142.2.2.2.2.2.2.2.2.2.1 rfl rfl (fun hc14 => ?_) (fun hc14 => ?_)
  · have hf := iq hc14 hf
    refine J_aload_n hK qd0_142.2.2.2.2.2.2.2.2.2.2.2.2.1 rfl 1 rfl rfl ?_
    refine J_iconst (v := 0) hK qd0_142.2.2.2.2.2.2.2.2.2.2.2.2.2.1 rfl (by decide) ?_
    refine J_bipush (v := 99) hK qd0_142.2.2.2.2.2.2.2.2.2.2.2.2.2.2.1 rfl (by decide) ?_
    obtain ⟨⟨v20, g21, g22, g23, g24⟩, e25, hf⟩ := bs hf
    have hf := un5 hf
    refine J_callV (m := 2) (m' := 2) (ce' := 0) (sl' := 0) (gr := [gLd d h1 x1_lineCount x1_goodsCount x1_workCount x1_years x1_lines x1_goods x1_works x1_change x1_coin x1_knownFree x1_isKnown]) (gs' := fun _ => [gTp d h0 x0_bytes x0_size g21 g22 g23 g24, gLd d h1 x1_lineCount x1_goodsCount x1_workCount x1_years x1_lines x1_goods x1_works x1_change x1_coin x1_knownFree x1_isKnown]) (st' := fun _ => [.int v20]) (st := []) hK qd0_142.2.2.2.2.2.2.2.2.2.2.2.2.2.2.2.1 cv_RX3_80 iv_yX3_number (As := [.int (0), .int (99)]) (kX3_number _ d h0 n x0_bytes x0_size g7 g8 g9 g10 (0) (99) e25) rfl rfl (Nat.le_of_ble_eq_true rfl) (by decide) 0 0 rfl rfl rfl [0] [1] rfl (by decide +kernel) rfl rfl [1, 0] (by decide +kernel) (fun _ => rfl) (fun _ => rfl) rfl rfl rfl (fun _ => rfl) (fun _ => ?_)
    exact J_loc [2, 0] rfl (j28 g21 g22 g23 g24 v20 hf)
  · have hf := ip hc14 hf
    refine J_iconst (v := (-1)) hK qd0_142.2.2.2.2.2.2.2.2.2.2.1 rfl (by decide) ?_
    refine J_goto hK qd0_142.2.2.2.2.2.2.2.2.2.2.2.1 (n := 28) rfl ?_
    exact J_loc [2, 0] rfl (j28 g7 g8 g9 g10 (-1) hf)

def fX3_readCoin_j27 (x1_lineCount : Int32) (x1_goodsCount : Int32) (x1_workCount : Int32) (x1_years : Int32) (x1_lines : (Nat → Int32)) (x1_goods : (Nat → Int32)) (x1_works : (Nat → Int32)) (x1_change : (Nat → Int32)) (x1_coin : (Nat → Int32)) (x1_knownFree : (Nat → Int32)) (x1_isKnown : Int32) (v6 : Int32) (x12 : Int32) (x13 : Int32) (x14 : Int32) (x15 : Int32) (y16 : Int32) : Option (Int32 × Int32 × Int32 × Int32 × Int32 × (Nat → Int32) × Int32) :=
  if y16 = (-1) then (some (0, x12, x13, x14, x15, x1_coin, x1_isKnown)) else ((fX1_putCoin (x1_lineCount, x1_goodsCount, x1_workCount, x1_years, x1_lines, x1_goods, x1_works, x1_change, x1_coin, x1_knownFree, x1_isKnown) v6 y16).bind (u2 fun g17 g18 => some (1, x12, x13, x14, x15, g17, g18)))
def fX3_readCoin (n : Nat) (X0 : TpT) (X1 : LdT) : Option (Int32 × Int32 × Int32 × Int32 × Int32 × (Nat → Int32) × Int32) :=
  u6 (fun (x0_bytes : (Nat → Int32)) (x0_size : Int32) (x0_start : Int32) (x0_end : Int32) (x0_token : Int32) (x0_value : Int32) => u11 (fun (x1_lineCount : Int32) (x1_goodsCount : Int32) (x1_workCount : Int32) (x1_years : Int32) (x1_lines : (Nat → Int32)) (x1_goods : (Nat → Int32)) (x1_works : (Nat → Int32)) (x1_change : (Nat → Int32)) (x1_coin : (Nat → Int32)) (x1_knownFree : (Nat → Int32)) (x1_isKnown : Int32) => (fX3_next n (x0_bytes, x0_size, x0_start, x0_end, x0_token, x0_value)).bind (u4 fun g1 g2 g3 g4 => (fX3_number n (x0_bytes, x0_size, g1, g2, g3, g4) (0) (2)).bind (u5 fun v6 g7 g8 g9 g10 => if v6 = (-1) then (fX3_readCoin_j27 x1_lineCount x1_goodsCount x1_workCount x1_years x1_lines x1_goods x1_works x1_change x1_coin x1_knownFree x1_isKnown v6 g7 g8 g9 g10 (-1)) else ((fX3_number n (x0_bytes, x0_size, g7, g8, g9, g10) (0) (9)).bind (u5 fun v20 g21 g22 g23 g24 => fX3_readCoin_j27 x1_lineCount x1_goodsCount x1_workCount x1_years x1_lines x1_goods x1_works x1_change x1_coin x1_knownFree x1_isKnown v6 g21 g22 g23 g24 v20))))) X1) X0
set_option maxHeartbeats 4000000 in
set_option maxRecDepth 100000 in
theorem kX3_readCoin (l : Launch) (d : DT) (h0 : Nat → Nat) (h1 : Nat → Nat) (n : Nat) (x0_bytes : (Nat → Int32)) (x0_size : Int32) (x0_start : Int32) (x0_end : Int32) (x0_token : Int32) (x0_value : Int32) (x1_lineCount : Int32) (x1_goodsCount : Int32) (x1_workCount : Int32) (x1_years : Int32) (x1_lines : (Nat → Int32)) (x1_goods : (Nat → Int32)) (x1_works : (Nat → Int32)) (x1_change : (Nat → Int32)) (x1_coin : (Nat → Int32)) (x1_knownFree : (Nat → Int32)) (x1_isKnown : Int32)  {out : Int32 × Int32 × Int32 × Int32 × Int32 × (Nat → Int32) × Int32} (hf : fX3_readCoin n (x0_bytes, x0_size, x0_start, x0_end, x0_token, x0_value) (x1_lineCount, x1_goodsCount, x1_workCount, x1_years, x1_lines, x1_goods, x1_works, x1_change, x1_coin, x1_knownFree, x1_isKnown) = some out) : Ct l d yX3_readCoin cX3_readCoin 4 (some .boolean) { frames := 3, cells := 0, slots := 0, locals := 66 } [.ref (h0 0), .ref (h1 0)] [gTp d h0 x0_bytes x0_size x0_start x0_end x0_token x0_value, gLd d h1 x1_lineCount x1_goodsCount x1_workCount x1_years x1_lines x1_goods x1_works x1_change x1_coin x1_knownFree x1_isKnown] (fun _ : Unit => (some (.int out.1), [gTp d h0 x0_bytes x0_size (out.2.1) (out.2.2.1) (out.2.2.2.1) (out.2.2.2.2.1), gLd d h1 x1_lineCount x1_goodsCount x1_workCount x1_years x1_lines x1_goods x1_works x1_change (out.2.2.2.2.2.1) x1_knownFree (out.2.2.2.2.2.2)])) := by
  refine Ct.of (by decide) (Nat.le_of_ble_eq_true rfl) ?_
  intro Φ hl hK hR
  subst hl
  have hK : Ok d Φ RX3 "readCoin" cX3_readCoin 4 (some .boolean) { frames := 3, cells := 0, slots := 0, locals := 66 } := hK
  unfold fX3_readCoin at hf
  have hf := un6 hf
  have hf := un11 hf
  show J d Φ 4 [gTp d h0 x0_bytes x0_size x0_start x0_end x0_token x0_value, gLd d h1 x1_lineCount x1_goodsCount x1_workCount x1_years x1_lines x1_goods x1_works x1_change x1_coin x1_knownFree x1_isKnown] 0 0 0 [(0, .ref (h0 0)), (1, .ref (h1 0))] []
  refine J_aload_n hK qd0_144.1 rfl 0 rfl rfl ?_
  obtain ⟨⟨g1, g2, g3, g4⟩, e5, hf⟩ := bs hf
  have hf := un4 hf
  refine J_callV (m := 2) (m' := 2) (ce' := 0) (sl' := 0) (gr := [gLd d h1 x1_lineCount x1_goodsCount x1_workCount x1_years x1_lines x1_goods x1_works x1_change x1_coin x1_knownFree x1_isKnown]) (gs' := fun _ => [gTp d h0 x0_bytes x0_size g1 g2 g3 g4, gLd d h1 x1_lineCount x1_goodsCount x1_workCount x1_years x1_lines x1_goods x1_works x1_change x1_coin x1_knownFree x1_isKnown]) (st' := fun _ => []) (st := []) hK qd0_144.2.1 cv_RX3_22 iv_yX3_next (As := []) (kX3_next _ d h0 n x0_bytes x0_size x0_start x0_end x0_token x0_value e5) rfl rfl (Nat.le_of_ble_eq_true rfl) (by decide) 0 0 rfl rfl rfl [0] [1] rfl (by decide +kernel) rfl rfl [1, 0] (by decide +kernel) (fun _ => rfl) (fun _ => rfl) rfl rfl rfl (fun _ => rfl) (fun _ => ?_)
  refine J_aload_n hK qd0_144.2.2.1 rfl 0 rfl rfl ?_
  refine J_iconst (v := 0) hK qd0_144.2.2.2.1 rfl (by decide) ?_
  refine J_iconst (v := 2) hK qd0_144.2.2.2.2.1 rfl (by decide) ?_
  obtain ⟨⟨v6, g7, g8, g9, g10⟩, e11, hf⟩ := bs hf
  have hf := un5 hf
  refine J_callV (m := 2) (m' := 2) (ce' := 0) (sl' := 0) (gr := [gLd d h1 x1_lineCount x1_goodsCount x1_workCount x1_years x1_lines x1_goods x1_works x1_change x1_coin x1_knownFree x1_isKnown]) (gs' := fun _ => [gTp d h0 x0_bytes x0_size g7 g8 g9 g10, gLd d h1 x1_lineCount x1_goodsCount x1_workCount x1_years x1_lines x1_goods x1_works x1_change x1_coin x1_knownFree x1_isKnown]) (st' := fun _ => [.int v6]) (st := []) hK qd0_144.2.2.2.2.2.1 cv_RX3_80 iv_yX3_number (As := [.int (0), .int (2)]) (kX3_number _ d h0 n x0_bytes x0_size g1 g2 g3 g4 (0) (2) e11) rfl rfl (Nat.le_of_ble_eq_true rfl) (by decide) 0 0 rfl rfl rfl [0] [1] rfl (by decide +kernel) rfl rfl [1, 0] (by decide +kernel) (fun _ => rfl) (fun _ => rfl) rfl rfl rfl (fun _ => rfl) (fun _ => ?_)
  refine J_istore_n (L' := [(2, .int v6), (0, .ref (h0 0)), (1, .ref (h1 0))]) hK qd0_144.2.2.2.2.2.2.1 rfl rfl (by decide) rfl ?_
  refine J_iload_n hK qd0_144.2.2.2.2.2.2.2.1 rfl 0 rfl rfl ?_
  refine J_iconst (v := (-1)) hK qd0_144.2.2.2.2.2.2.2.2.1 rfl (by decide) ?_
  have j27 : ∀ (x12 : Int32) (x13 : Int32) (x14 : Int32) (x15 : Int32) (y16 : Int32), fX3_readCoin_j27 x1_lineCount x1_goodsCount x1_workCount x1_years x1_lines x1_goods x1_works x1_change x1_coin x1_knownFree x1_isKnown v6 x12 x13 x14 x15 y16 = some out → J d Φ 4 [gTp d h0 x0_bytes x0_size x12 x13 x14 x15, gLd d h1 x1_lineCount x1_goodsCount x1_workCount x1_years x1_lines x1_goods x1_works x1_change x1_coin x1_knownFree x1_isKnown] 0 0 27 [(1, .ref (h1 0)), (2, .int v6)] [.int y16] := by
    intro x12 x13 x14 x15 y16 hf
    unfold fX3_readCoin_j27 at hf
    refine J_istore_n (L' := [(3, .int y16), (1, .ref (h1 0)), (2, .int v6)]) hK qd0_145.1 rfl rfl (by decide) rfl ?_
    refine J_iload_n hK qd0_145.2.1 rfl 0 rfl rfl ?_
    refine J_iconst (v := (-1)) hK qd0_145.2.2.1 rfl (by decide) ?_
    refine J_icmp_ne (tg := 35) hK qd0_145.2.2.2.1 rfl rfl (fun hc30 => ?_) (fun hc30 => ?_)
    · have hf := iq hc30 hf
      refine J_aload_n hK qd0_145.2.2.2.2.2.2.1 rfl 1 rfl rfl ?_
      refine J_iload_n hK qd0_145.2.2.2.2.2.2.2.1 rfl 2 rfl rfl ?_
      refine J_iload_n hK qd0_145.2.2.2.2.2.2.2.2.1 rfl 0 rfl rfl ?_
      obtain ⟨⟨g17, g18⟩, e19, hf⟩ := bs hf
      have hf := un2 hf
      refine J_callV (m := 2) (m' := 2) (ce' := 0) (sl' := 0) (gr := [gTp d h0 x0_bytes x0_size x12 x13 x14 x15]) (gs' := fun _ => [gTp d h0 x0_bytes x0_size x12 x13 x14 x15, gLd d h1 x1_lineCount x1_goodsCount x1_workCount x1_years x1_lines x1_goods x1_works x1_change g17 x1_knownFree g18]) (st' := fun _ => []) (st := []) hK qd0_145.2.2.2.2.2.2.2.2.2.1 cv_RX3_126 iv_yX1_putCoin (As := [.int v6, .int y16]) (kX1_putCoin _ d h1 x1_lineCount x1_goodsCount x1_workCount x1_years x1_lines x1_goods x1_works x1_change x1_coin x1_knownFree x1_isKnown v6 y16 e19) rfl rfl (Nat.le_of_ble_eq_true rfl) (by decide) 1 0 rfl rfl rfl [1] [0] rfl (by decide +kernel) rfl rfl [0, 1] (by decide +kernel) (fun _ => rfl) (fun _ => rfl) rfl rfl rfl (fun _ => rfl) (fun _ => ?_)
      refine J_iconst (v := 1) hK qd0_145.2.2.2.2.2.2.2.2.2.2.1 rfl (by decide) ?_
      obtain rfl := Option.some.inj hf
      exact J_zret hK hR qd0_145.2.2.2.2.2.2.2.2.2.2.2.1 () rfl rfl (by decide) (by decide)
    · have hf := ip hc30 hf
      refine J_iconst (v := 0) hK qd0_145.2.2.2.2.1 rfl (by decide) ?_
      obtain rfl := Option.some.inj hf
      exact J_zret hK hR qd0_145.2.2.2.2.2.1 () rfl rfl (by decide) (by decide)
  refine J_icmp_ne (tg := 20) hK qd0_144.2.2.2.2.2.2.2.2.2.1 rfl rfl (fun hc13 => ?_) (fun hc13 => ?_)
  · have hf := iq hc13 hf
    refine J_aload_n hK qd0_144.2.2.2.2.2.2.2.2.2.2.2.2.1 rfl 1 rfl rfl ?_
    refine J_iconst (v := 0) hK qd0_144.2.2.2.2.2.2.2.2.2.2.2.2.2.1 rfl (by decide) ?_
    refine J_bipush (v := 9) hK qd0_144.2.2.2.2.2.2.2.2.2.2.2.2.2.2.1 rfl (by decide) ?_
    obtain ⟨⟨v20, g21, g22, g23, g24⟩, e25, hf⟩ := bs hf
    have hf := un5 hf
    refine J_callV (m := 2) (m' := 2) (ce' := 0) (sl' := 0) (gr := [gLd d h1 x1_lineCount x1_goodsCount x1_workCount x1_years x1_lines x1_goods x1_works x1_change x1_coin x1_knownFree x1_isKnown]) (gs' := fun _ => [gTp d h0 x0_bytes x0_size g21 g22 g23 g24, gLd d h1 x1_lineCount x1_goodsCount x1_workCount x1_years x1_lines x1_goods x1_works x1_change x1_coin x1_knownFree x1_isKnown]) (st' := fun _ => [.int v20]) (st := []) hK qd0_144.2.2.2.2.2.2.2.2.2.2.2.2.2.2.2.1 cv_RX3_80 iv_yX3_number (As := [.int (0), .int (9)]) (kX3_number _ d h0 n x0_bytes x0_size g7 g8 g9 g10 (0) (9) e25) rfl rfl (Nat.le_of_ble_eq_true rfl) (by decide) 0 0 rfl rfl rfl [0] [1] rfl (by decide +kernel) rfl rfl [1, 0] (by decide +kernel) (fun _ => rfl) (fun _ => rfl) rfl rfl rfl (fun _ => rfl) (fun _ => ?_)
    exact J_loc [2, 0] rfl (j27 g21 g22 g23 g24 v20 hf)
  · have hf := ip hc13 hf
    refine J_iconst (v := (-1)) hK qd0_144.2.2.2.2.2.2.2.2.2.2.1 rfl (by decide) ?_
    refine J_goto hK qd0_144.2.2.2.2.2.2.2.2.2.2.2.1 (n := 27) rfl ?_
    exact J_loc [2, 0] rfl (j27 g7 g8 g9 g10 (-1) hf)

def fX3_readYears (n : Nat) (X0 : TpT) (X1 : LdT) : Option (Int32 × Int32 × Int32 × Int32 × Int32 × Int32) :=
  u6 (fun (x0_bytes : (Nat → Int32)) (x0_size : Int32) (x0_start : Int32) (x0_end : Int32) (x0_token : Int32) (x0_value : Int32) => u11 (fun (x1_lineCount : Int32) (x1_goodsCount : Int32) (x1_workCount : Int32) (x1_years : Int32) (x1_lines : (Nat → Int32)) (x1_goods : (Nat → Int32)) (x1_works : (Nat → Int32)) (x1_change : (Nat → Int32)) (x1_coin : (Nat → Int32)) (x1_knownFree : (Nat → Int32)) (x1_isKnown : Int32) => (fX3_next n (x0_bytes, x0_size, x0_start, x0_end, x0_token, x0_value)).bind (u4 fun g1 g2 g3 g4 => (fX3_number n (x0_bytes, x0_size, g1, g2, g3, g4) (1) (30)).bind (u5 fun v6 g7 g8 g9 g10 => if v6 = (-1) then (some (0, g7, g8, g9, g10, x1_years)) else (some (1, g7, g8, g9, g10, v6))))) X1) X0
set_option maxHeartbeats 4000000 in
set_option maxRecDepth 100000 in
theorem kX3_readYears (l : Launch) (d : DT) (h0 : Nat → Nat) (h1 : Nat → Nat) (n : Nat) (x0_bytes : (Nat → Int32)) (x0_size : Int32) (x0_start : Int32) (x0_end : Int32) (x0_token : Int32) (x0_value : Int32) (x1_lineCount : Int32) (x1_goodsCount : Int32) (x1_workCount : Int32) (x1_years : Int32) (x1_lines : (Nat → Int32)) (x1_goods : (Nat → Int32)) (x1_works : (Nat → Int32)) (x1_change : (Nat → Int32)) (x1_coin : (Nat → Int32)) (x1_knownFree : (Nat → Int32)) (x1_isKnown : Int32)  {out : Int32 × Int32 × Int32 × Int32 × Int32 × Int32} (hf : fX3_readYears n (x0_bytes, x0_size, x0_start, x0_end, x0_token, x0_value) (x1_lineCount, x1_goodsCount, x1_workCount, x1_years, x1_lines, x1_goods, x1_works, x1_change, x1_coin, x1_knownFree, x1_isKnown) = some out) : Ct l d yX3_readYears cX3_readYears 3 (some .boolean) { frames := 3, cells := 0, slots := 0, locals := 66 } [.ref (h0 0), .ref (h1 0)] [gTp d h0 x0_bytes x0_size x0_start x0_end x0_token x0_value, gLd d h1 x1_lineCount x1_goodsCount x1_workCount x1_years x1_lines x1_goods x1_works x1_change x1_coin x1_knownFree x1_isKnown] (fun _ : Unit => (some (.int out.1), [gTp d h0 x0_bytes x0_size (out.2.1) (out.2.2.1) (out.2.2.2.1) (out.2.2.2.2.1), gLd d h1 x1_lineCount x1_goodsCount x1_workCount (out.2.2.2.2.2) x1_lines x1_goods x1_works x1_change x1_coin x1_knownFree x1_isKnown])) := by
  refine Ct.of (by decide) (Nat.le_of_ble_eq_true rfl) ?_
  intro Φ hl hK hR
  subst hl
  have hK : Ok d Φ RX3 "readYears" cX3_readYears 3 (some .boolean) { frames := 3, cells := 0, slots := 0, locals := 66 } := hK
  unfold fX3_readYears at hf
  have hf := un6 hf
  have hf := un11 hf
  show J d Φ 3 [gTp d h0 x0_bytes x0_size x0_start x0_end x0_token x0_value, gLd d h1 x1_lineCount x1_goodsCount x1_workCount x1_years x1_lines x1_goods x1_works x1_change x1_coin x1_knownFree x1_isKnown] 0 0 0 [(0, .ref (h0 0)), (1, .ref (h1 0))] []
  refine J_aload_n hK qd0_146.1 rfl 0 rfl rfl ?_
  obtain ⟨⟨g1, g2, g3, g4⟩, e5, hf⟩ := bs hf
  have hf := un4 hf
  refine J_callV (m := 2) (m' := 2) (ce' := 0) (sl' := 0) (gr := [gLd d h1 x1_lineCount x1_goodsCount x1_workCount x1_years x1_lines x1_goods x1_works x1_change x1_coin x1_knownFree x1_isKnown]) (gs' := fun _ => [gTp d h0 x0_bytes x0_size g1 g2 g3 g4, gLd d h1 x1_lineCount x1_goodsCount x1_workCount x1_years x1_lines x1_goods x1_works x1_change x1_coin x1_knownFree x1_isKnown]) (st' := fun _ => []) (st := []) hK qd0_146.2.1 cv_RX3_22 iv_yX3_next (As := []) (kX3_next _ d h0 n x0_bytes x0_size x0_start x0_end x0_token x0_value e5) rfl rfl (Nat.le_of_ble_eq_true rfl) (by decide) 0 0 rfl rfl rfl [0] [1] rfl (by decide +kernel) rfl rfl [1, 0] (by decide +kernel) (fun _ => rfl) (fun _ => rfl) rfl rfl rfl (fun _ => rfl) (fun _ => ?_)
  refine J_aload_n hK qd0_146.2.2.1 rfl 0 rfl rfl ?_
  refine J_iconst (v := 1) hK qd0_146.2.2.2.1 rfl (by decide) ?_
  refine J_bipush (v := 30) hK qd0_146.2.2.2.2.1 rfl (by decide) ?_
  obtain ⟨⟨v6, g7, g8, g9, g10⟩, e11, hf⟩ := bs hf
  have hf := un5 hf
  refine J_callV (m := 2) (m' := 2) (ce' := 0) (sl' := 0) (gr := [gLd d h1 x1_lineCount x1_goodsCount x1_workCount x1_years x1_lines x1_goods x1_works x1_change x1_coin x1_knownFree x1_isKnown]) (gs' := fun _ => [gTp d h0 x0_bytes x0_size g7 g8 g9 g10, gLd d h1 x1_lineCount x1_goodsCount x1_workCount x1_years x1_lines x1_goods x1_works x1_change x1_coin x1_knownFree x1_isKnown]) (st' := fun _ => [.int v6]) (st := []) hK qd0_146.2.2.2.2.2.1 cv_RX3_80 iv_yX3_number (As := [.int (1), .int (30)]) (kX3_number _ d h0 n x0_bytes x0_size g1 g2 g3 g4 (1) (30) e11) rfl rfl (Nat.le_of_ble_eq_true rfl) (by decide) 0 0 rfl rfl rfl [0] [1] rfl (by decide +kernel) rfl rfl [1, 0] (by decide +kernel) (fun _ => rfl) (fun _ => rfl) rfl rfl rfl (fun _ => rfl) (fun _ => ?_)
  refine J_istore_n (L' := [(2, .int v6), (0, .ref (h0 0)), (1, .ref (h1 0))]) hK qd0_146.2.2.2.2.2.2.1 rfl rfl (by decide) rfl ?_
  refine J_iload_n hK qd0_146.2.2.2.2.2.2.2.1 rfl 0 rfl rfl ?_
  refine J_iconst (v := (-1)) hK qd0_146.2.2.2.2.2.2.2.2.1 rfl (by decide) ?_
  refine J_icmp_ne (tg := 19) hK qd0_146.2.2.2.2.2.2.2.2.2.1 rfl rfl (fun hc14 => ?_) (fun hc14 => ?_)
  · have hf := iq hc14 hf
    refine J_aload_n hK qd0_146.2.2.2.2.2.2.2.2.2.2.2.2.1 rfl 2 rfl rfl ?_
    refine J_iload_n hK qd0_146.2.2.2.2.2.2.2.2.2.2.2.2.2.1 rfl 0 rfl rfl ?_
    refine J_put (g' := gLd d h1 x1_lineCount x1_goodsCount x1_workCount v6 x1_lines x1_goods x1_works x1_change x1_coin x1_knownFree x1_isKnown) (gs' := [gTp d h0 x0_bytes x0_size g7 g8 g9 g10, gLd d h1 x1_lineCount x1_goodsCount x1_workCount v6 x1_lines x1_goods x1_works x1_change x1_coin x1_knownFree x1_isKnown]) hK fp_RX3_129 qd0_146.2.2.2.2.2.2.2.2.2.2.2.2.2.2.1 rfl 1 0 rfl rfl rfl rfl (Nat.le_of_ble_eq_true rfl) rfl rfl ?_
    refine J_iconst (v := 1) hK qd0_146.2.2.2.2.2.2.2.2.2.2.2.2.2.2.2.1 rfl (by decide) ?_
    obtain rfl := Option.some.inj hf
    exact J_zret hK hR qd0_147.1 () rfl rfl (by decide) (by decide)
  · have hf := ip hc14 hf
    refine J_iconst (v := 0) hK qd0_146.2.2.2.2.2.2.2.2.2.2.1 rfl (by decide) ?_
    obtain rfl := Option.some.inj hf
    exact J_zret hK hR qd0_146.2.2.2.2.2.2.2.2.2.2.2.1 () rfl rfl (by decide) (by decide)

def fX3_readStatement (n : Nat) (X0 : TpT) (X1 : LdT) : Option (Int32 × Int32 × Int32 × Int32 × Int32 × (Int32 × Int32 × Int32 × Int32 × (Nat → Int32) × (Nat → Int32) × (Nat → Int32) × (Nat → Int32) × (Nat → Int32) × Int32)) :=
  u6 (fun (x0_bytes : (Nat → Int32)) (x0_size : Int32) (x0_start : Int32) (x0_end : Int32) (x0_token : Int32) (x0_value : Int32) => u11 (fun (x1_lineCount : Int32) (x1_goodsCount : Int32) (x1_workCount : Int32) (x1_years : Int32) (x1_lines : (Nat → Int32)) (x1_goods : (Nat → Int32)) (x1_works : (Nat → Int32)) (x1_change : (Nat → Int32)) (x1_coin : (Nat → Int32)) (x1_knownFree : (Nat → Int32)) (x1_isKnown : Int32) => (fX3_isWord n (x0_bytes, x0_size, x0_start, x0_end, x0_token, x0_value) 0).bind (fun v1 => if v1 = 0 then ((fX3_isWord n (x0_bytes, x0_size, x0_start, x0_end, x0_token, x0_value) 5).bind (fun v3 => if v3 = 0 then ((fX3_isWord n (x0_bytes, x0_size, x0_start, x0_end, x0_token, x0_value) 6).bind (fun v5 => if v5 = 0 then ((fX3_isWord n (x0_bytes, x0_size, x0_start, x0_end, x0_token, x0_value) 7).bind (fun v7 => if v7 = 0 then ((fX3_isWord n (x0_bytes, x0_size, x0_start, x0_end, x0_token, x0_value) 8).bind (fun v9 => if v9 = 0 then ((fX3_isWord n (x0_bytes, x0_size, x0_start, x0_end, x0_token, x0_value) 9).bind (fun v11 => if v11 = 0 then (some (0, x0_start, x0_end, x0_token, x0_value, (x1_lineCount, x1_goodsCount, x1_workCount, x1_years, x1_lines, x1_goods, x1_works, x1_change, x1_coin, x1_isKnown))) else ((fX3_readYears n (x0_bytes, x0_size, x0_start, x0_end, x0_token, x0_value) (x1_lineCount, x1_goodsCount, x1_workCount, x1_years, x1_lines, x1_goods, x1_works, x1_change, x1_coin, x1_knownFree, x1_isKnown)).bind (u6 fun v13 g14 g15 g16 g17 g18 => if v13 = 0 then (some (0, g14, g15, g16, g17, (x1_lineCount, x1_goodsCount, x1_workCount, g18, x1_lines, x1_goods, x1_works, x1_change, x1_coin, x1_isKnown))) else (some (1, g14, g15, g16, g17, (x1_lineCount, x1_goodsCount, x1_workCount, g18, x1_lines, x1_goods, x1_works, x1_change, x1_coin, x1_isKnown))))))) else ((fX3_readCoin n (x0_bytes, x0_size, x0_start, x0_end, x0_token, x0_value) (x1_lineCount, x1_goodsCount, x1_workCount, x1_years, x1_lines, x1_goods, x1_works, x1_change, x1_coin, x1_knownFree, x1_isKnown)).bind (u7 fun v20 g21 g22 g23 g24 g25 g26 => (zb v20).bind fun v28 => some (v28, g21, g22, g23, g24, (x1_lineCount, x1_goodsCount, x1_workCount, x1_years, x1_lines, x1_goods, x1_works, x1_change, g25, g26)))))) else ((fX3_readChange n (x0_bytes, x0_size, x0_start, x0_end, x0_token, x0_value) (x1_lineCount, x1_goodsCount, x1_workCount, x1_years, x1_lines, x1_goods, x1_works, x1_change, x1_coin, x1_knownFree, x1_isKnown)).bind (u7 fun v29 g30 g31 g32 g33 g34 g35 => (zb v29).bind fun v37 => some (v37, g30, g31, g32, g33, (x1_lineCount, x1_goodsCount, x1_workCount, x1_years, x1_lines, x1_goods, x1_works, g34, x1_coin, g35)))))) else (if 7 ≤ x1_workCount then (some (0, x0_start, x0_end, x0_token, x0_value, (x1_lineCount, x1_goodsCount, x1_workCount, x1_years, x1_lines, x1_goods, x1_works, x1_change, x1_coin, x1_isKnown))) else ((fX3_readWork n (x0_bytes, x0_size, x0_start, x0_end, x0_token, x0_value) (x1_lineCount, x1_goodsCount, x1_workCount, x1_years, x1_lines, x1_goods, x1_works, x1_change, x1_coin, x1_knownFree, x1_isKnown)).bind (u8 fun v38 g39 g40 g41 g42 g43 g44 g45 => if v38 = 0 then (some (0, g39, g40, g41, g42, (x1_lineCount, x1_goodsCount, g43, x1_years, x1_lines, x1_goods, g44, x1_change, x1_coin, g45))) else (some (1, g39, g40, g41, g42, (x1_lineCount, x1_goodsCount, g43, x1_years, x1_lines, x1_goods, g44, x1_change, x1_coin, g45)))))))) else (if 8 ≤ x1_goodsCount then (some (0, x0_start, x0_end, x0_token, x0_value, (x1_lineCount, x1_goodsCount, x1_workCount, x1_years, x1_lines, x1_goods, x1_works, x1_change, x1_coin, x1_isKnown))) else ((fX3_readGoods n (x0_bytes, x0_size, x0_start, x0_end, x0_token, x0_value) (x1_lineCount, x1_goodsCount, x1_workCount, x1_years, x1_lines, x1_goods, x1_works, x1_change, x1_coin, x1_knownFree, x1_isKnown)).bind (u8 fun v47 g48 g49 g50 g51 g52 g53 g54 => if v47 = 0 then (some (0, g48, g49, g50, g51, (x1_lineCount, g52, x1_workCount, x1_years, x1_lines, g53, x1_works, x1_change, x1_coin, g54))) else (some (1, g48, g49, g50, g51, (x1_lineCount, g52, x1_workCount, x1_years, x1_lines, g53, x1_works, x1_change, x1_coin, g54)))))))) else (if 20 ≤ x1_lineCount then (some (0, x0_start, x0_end, x0_token, x0_value, (x1_lineCount, x1_goodsCount, x1_workCount, x1_years, x1_lines, x1_goods, x1_works, x1_change, x1_coin, x1_isKnown))) else ((fX3_readLine n (x0_bytes, x0_size, x0_start, x0_end, x0_token, x0_value) (x1_lineCount, x1_goodsCount, x1_workCount, x1_years, x1_lines, x1_goods, x1_works, x1_change, x1_coin, x1_knownFree, x1_isKnown)).bind (u8 fun v56 g57 g58 g59 g60 g61 g62 g63 => if v56 = 0 then (some (0, g57, g58, g59, g60, (g61, x1_goodsCount, x1_workCount, x1_years, g62, x1_goods, x1_works, x1_change, x1_coin, g63))) else (some (1, g57, g58, g59, g60, (g61, x1_goodsCount, x1_workCount, x1_years, g62, x1_goods, x1_works, x1_change, x1_coin, g63)))))))) X1) X0
set_option maxHeartbeats 4000000 in
set_option maxRecDepth 100000 in
theorem kX3_readStatement (l : Launch) (d : DT) (h0 : Nat → Nat) (h1 : Nat → Nat) (n : Nat) (x0_bytes : (Nat → Int32)) (x0_size : Int32) (x0_start : Int32) (x0_end : Int32) (x0_token : Int32) (x0_value : Int32) (x1_lineCount : Int32) (x1_goodsCount : Int32) (x1_workCount : Int32) (x1_years : Int32) (x1_lines : (Nat → Int32)) (x1_goods : (Nat → Int32)) (x1_works : (Nat → Int32)) (x1_change : (Nat → Int32)) (x1_coin : (Nat → Int32)) (x1_knownFree : (Nat → Int32)) (x1_isKnown : Int32)  {out : Int32 × Int32 × Int32 × Int32 × Int32 × (Int32 × Int32 × Int32 × Int32 × (Nat → Int32) × (Nat → Int32) × (Nat → Int32) × (Nat → Int32) × (Nat → Int32) × Int32)} (hf : fX3_readStatement n (x0_bytes, x0_size, x0_start, x0_end, x0_token, x0_value) (x1_lineCount, x1_goodsCount, x1_workCount, x1_years, x1_lines, x1_goods, x1_works, x1_change, x1_coin, x1_knownFree, x1_isKnown) = some out) : Ct l d yX3_readStatement cX3_readStatement 2 (some .boolean) { frames := 7, cells := 0, slots := 0, locals := 158 } [.ref (h0 0), .ref (h1 0)] [gTp d h0 x0_bytes x0_size x0_start x0_end x0_token x0_value, gLd d h1 x1_lineCount x1_goodsCount x1_workCount x1_years x1_lines x1_goods x1_works x1_change x1_coin x1_knownFree x1_isKnown] (fun _ : Unit => (some (.int out.1), [gTp d h0 x0_bytes x0_size (out.2.1) (out.2.2.1) (out.2.2.2.1) (out.2.2.2.2.1), gLd d h1 (out.2.2.2.2.2.1) (out.2.2.2.2.2.2.1) (out.2.2.2.2.2.2.2.1) (out.2.2.2.2.2.2.2.2.1) (out.2.2.2.2.2.2.2.2.2.1) (out.2.2.2.2.2.2.2.2.2.2.1) (out.2.2.2.2.2.2.2.2.2.2.2.1) (out.2.2.2.2.2.2.2.2.2.2.2.2.1) (out.2.2.2.2.2.2.2.2.2.2.2.2.2.1) x1_knownFree (out.2.2.2.2.2.2.2.2.2.2.2.2.2.2)])) := by
  refine Ct.of (by decide) (Nat.le_of_ble_eq_true rfl) ?_
  intro Φ hl hK hR
  subst hl
  have hK : Ok d Φ RX3 "readStatement" cX3_readStatement 2 (some .boolean) { frames := 7, cells := 0, slots := 0, locals := 158 } := hK
  unfold fX3_readStatement at hf
  have hf := un6 hf
  have hf := un11 hf
  show J d Φ 2 [gTp d h0 x0_bytes x0_size x0_start x0_end x0_token x0_value, gLd d h1 x1_lineCount x1_goodsCount x1_workCount x1_years x1_lines x1_goods x1_works x1_change x1_coin x1_knownFree x1_isKnown] 0 0 0 [(0, .ref (h0 0)), (1, .ref (h1 0))] []
  refine J_aload_n hK qd0_123.1 rfl 0 rfl rfl ?_
  refine J_str hK qd0_123.2.1 rfl 0 rfl rfl rfl ?_
  obtain ⟨v1, e2, hf⟩ := bs hf
  refine J_callV (m := 2) (m' := 2) (ce' := 0) (sl' := 0) (gr := [gLd d h1 x1_lineCount x1_goodsCount x1_workCount x1_years x1_lines x1_goods x1_works x1_change x1_coin x1_knownFree x1_isKnown]) (gs' := fun _ => [gTp d h0 x0_bytes x0_size x0_start x0_end x0_token x0_value, gLd d h1 x1_lineCount x1_goodsCount x1_workCount x1_years x1_lines x1_goods x1_works x1_change x1_coin x1_knownFree x1_isKnown]) (st' := fun _ => [.int v1]) (st := []) hK qd0_123.2.2.1 cv_RX3_37 iv_yX3_isWord (As := [.ref (d.2.2.2.1 0)]) (kX3_isWord _ d h0 n x0_bytes x0_size x0_start x0_end x0_token x0_value 0 e2) rfl rfl (Nat.le_of_ble_eq_true rfl) (by decide) 0 0 rfl rfl rfl [0] [1] rfl (by decide +kernel) rfl rfl [1, 0] (by decide +kernel) (fun _ => rfl) (fun _ => rfl) rfl rfl rfl (fun _ => rfl) (fun _ => ?_)
  refine J_if_eq (tg := 32) hK qd0_123.2.2.2.1 rfl rfl (fun hc6 => ?_) (fun hc6 => ?_)
  · have hf := ip hc6 hf
    refine J_aload_n hK qd0_124.1 rfl 0 rfl rfl ?_
    refine J_str hK qd0_124.2.1 rfl 5 rfl rfl rfl ?_
    obtain ⟨v3, e4, hf⟩ := bs hf
    refine J_callV (m := 2) (m' := 2) (ce' := 0) (sl' := 0) (gr := [gLd d h1 x1_lineCount x1_goodsCount x1_workCount x1_years x1_lines x1_goods x1_works x1_change x1_coin x1_knownFree x1_isKnown]) (gs' := fun _ => [gTp d h0 x0_bytes x0_size x0_start x0_end x0_token x0_value, gLd d h1 x1_lineCount x1_goodsCount x1_workCount x1_years x1_lines x1_goods x1_works x1_change x1_coin x1_knownFree x1_isKnown]) (st' := fun _ => [.int v3]) (st := []) hK qd0_124.2.2.1 cv_RX3_37 iv_yX3_isWord (As := [.ref (d.2.2.2.1 5)]) (kX3_isWord _ d h0 n x0_bytes x0_size x0_start x0_end x0_token x0_value 5 e4) rfl rfl (Nat.le_of_ble_eq_true rfl) (by decide) 0 0 rfl rfl rfl [0] [1] rfl (by decide +kernel) rfl rfl [1, 0] (by decide +kernel) (fun _ => rfl) (fun _ => rfl) rfl rfl rfl (fun _ => rfl) (fun _ => ?_)
    refine J_if_eq (tg := 64) hK qd0_124.2.2.2.1 rfl rfl (fun hc38 => ?_) (fun hc38 => ?_)
    · have hf := ip hc38 hf
      refine J_aload_n hK qd0_125.1 rfl 0 rfl rfl ?_
      refine J_str hK qd0_125.2.1 rfl 6 rfl rfl rfl ?_
      obtain ⟨v5, e6, hf⟩ := bs hf
      refine J_callV (m := 2) (m' := 2) (ce' := 0) (sl' := 0) (gr := [gLd d h1 x1_lineCount x1_goodsCount x1_workCount x1_years x1_lines x1_goods x1_works x1_change x1_coin x1_knownFree x1_isKnown]) (gs' := fun _ => [gTp d h0 x0_bytes x0_size x0_start x0_end x0_token x0_value, gLd d h1 x1_lineCount x1_goodsCount x1_workCount x1_years x1_lines x1_goods x1_works x1_change x1_coin x1_knownFree x1_isKnown]) (st' := fun _ => [.int v5]) (st := []) hK qd0_125.2.2.1 cv_RX3_37 iv_yX3_isWord (As := [.ref (d.2.2.2.1 6)]) (kX3_isWord _ d h0 n x0_bytes x0_size x0_start x0_end x0_token x0_value 6 e6) rfl rfl (Nat.le_of_ble_eq_true rfl) (by decide) 0 0 rfl rfl rfl [0] [1] rfl (by decide +kernel) rfl rfl [1, 0] (by decide +kernel) (fun _ => rfl) (fun _ => rfl) rfl rfl rfl (fun _ => rfl) (fun _ => ?_)
      refine J_if_eq (tg := 96) hK qd0_125.2.2.2.1 rfl rfl (fun hc70 => ?_) (fun hc70 => ?_)
      · have hf := ip hc70 hf
        refine J_aload_n hK qd0_126.1 rfl 0 rfl rfl ?_
        refine J_str hK qd0_126.2.1 rfl 7 rfl rfl rfl ?_
        obtain ⟨v7, e8, hf⟩ := bs hf
        refine J_callV (m := 2) (m' := 2) (ce' := 0) (sl' := 0) (gr := [gLd d h1 x1_lineCount x1_goodsCount x1_workCount x1_years x1_lines x1_goods x1_works x1_change x1_coin x1_knownFree x1_isKnown]) (gs' := fun _ => [gTp d h0 x0_bytes x0_size x0_start x0_end x0_token x0_value, gLd d h1 x1_lineCount x1_goodsCount x1_workCount x1_years x1_lines x1_goods x1_works x1_change x1_coin x1_knownFree x1_isKnown]) (st' := fun _ => [.int v7]) (st := []) hK qd0_126.2.2.1 cv_RX3_37 iv_yX3_isWord (As := [.ref (d.2.2.2.1 7)]) (kX3_isWord _ d h0 n x0_bytes x0_size x0_start x0_end x0_token x0_value 7 e8) rfl rfl (Nat.le_of_ble_eq_true rfl) (by decide) 0 0 rfl rfl rfl [0] [1] rfl (by decide +kernel) rfl rfl [1, 0] (by decide +kernel) (fun _ => rfl) (fun _ => rfl) rfl rfl rfl (fun _ => rfl) (fun _ => ?_)
        refine J_if_eq (tg := 111) hK qd0_126.2.2.2.1 rfl rfl (fun hc102 => ?_) (fun hc102 => ?_)
        · have hf := ip hc102 hf
          refine J_aload_n hK qd0_126.2.2.2.2.2.2.2.2.1 rfl 0 rfl rfl ?_
          refine J_str hK qd0_126.2.2.2.2.2.2.2.2.2.1 rfl 8 rfl rfl rfl ?_
          obtain ⟨v9, e10, hf⟩ := bs hf
          refine J_callV (m := 2) (m' := 2) (ce' := 0) (sl' := 0) (gr := [gLd d h1 x1_lineCount x1_goodsCount x1_workCount x1_years x1_lines x1_goods x1_works x1_change x1_coin x1_knownFree x1_isKnown]) (gs' := fun _ => [gTp d h0 x0_bytes x0_size x0_start x0_end x0_token x0_value, gLd d h1 x1_lineCount x1_goodsCount x1_workCount x1_years x1_lines x1_goods x1_works x1_change x1_coin x1_knownFree x1_isKnown]) (st' := fun _ => [.int v9]) (st := []) hK qd0_126.2.2.2.2.2.2.2.2.2.2.1 cv_RX3_37 iv_yX3_isWord (As := [.ref (d.2.2.2.1 8)]) (kX3_isWord _ d h0 n x0_bytes x0_size x0_start x0_end x0_token x0_value 8 e10) rfl rfl (Nat.le_of_ble_eq_true rfl) (by decide) 0 0 rfl rfl rfl [0] [1] rfl (by decide +kernel) rfl rfl [1, 0] (by decide +kernel) (fun _ => rfl) (fun _ => rfl) rfl rfl rfl (fun _ => rfl) (fun _ => ?_)
          refine J_if_eq (tg := 126) hK qd0_126.2.2.2.2.2.2.2.2.2.2.2.1 rfl rfl (fun hc117 => ?_) (fun hc117 => ?_)
          · have hf := ip hc117 hf
            refine J_aload_n hK qd0_127.1 rfl 0 rfl rfl ?_
            refine J_str hK qd0_127.2.1 rfl 9 rfl rfl rfl ?_
            obtain ⟨v11, e12, hf⟩ := bs hf
            refine J_callV (m := 2) (m' := 2) (ce' := 0) (sl' := 0) (gr := [gLd d h1 x1_lineCount x1_goodsCount x1_workCount x1_years x1_lines x1_goods x1_works x1_change x1_coin x1_knownFree x1_isKnown]) (gs' := fun _ => [gTp d h0 x0_bytes x0_size x0_start x0_end x0_token x0_value, gLd d h1 x1_lineCount x1_goodsCount x1_workCount x1_years x1_lines x1_goods x1_works x1_change x1_coin x1_knownFree x1_isKnown]) (st' := fun _ => [.int v11]) (st := []) hK qd0_127.2.2.1 cv_RX3_37 iv_yX3_isWord (As := [.ref (d.2.2.2.1 9)]) (kX3_isWord _ d h0 n x0_bytes x0_size x0_start x0_end x0_token x0_value 9 e12) rfl rfl (Nat.le_of_ble_eq_true rfl) (by decide) 0 0 rfl rfl rfl [0] [1] rfl (by decide +kernel) rfl rfl [1, 0] (by decide +kernel) (fun _ => rfl) (fun _ => rfl) rfl rfl rfl (fun _ => rfl) (fun _ => ?_)
            refine J_if_eq (tg := 147) hK qd0_127.2.2.2.1 rfl rfl (fun hc132 => ?_) (fun hc132 => ?_)
            · have hf := ip hc132 hf
              refine J_iconst (v := 0) hK qd0_127.2.2.2.2.2.2.2.2.2.2.1 rfl (by decide) ?_
              obtain rfl := Option.some.inj hf
              exact J_zret hK hR qd0_127.2.2.2.2.2.2.2.2.2.2.2.1 () rfl rfl (by decide) (by decide)
            · have hf := iq hc132 hf
              refine J_aload_n hK qd0_127.2.2.2.2.1 rfl 0 rfl rfl ?_
              refine J_aload_n hK qd0_127.2.2.2.2.2.1 rfl 1 rfl rfl ?_
              obtain ⟨⟨v13, g14, g15, g16, g17, g18⟩, e19, hf⟩ := bs hf
              have hf := un6 hf
              refine J_callV (m := 2) (m' := 2) (ce' := 0) (sl' := 0) (gr := []) (gs' := fun _ => [gTp d h0 x0_bytes x0_size g14 g15 g16 g17, gLd d h1 x1_lineCount x1_goodsCount x1_workCount g18 x1_lines x1_goods x1_works x1_change x1_coin x1_knownFree x1_isKnown]) (st' := fun _ => [.int v13]) (st := []) hK qd0_127.2.2.2.2.2.2.1 cv_RX3_77 iv_yX3_readYears (As := [.ref (h1 0)]) (kX3_readYears _ d h0 h1 n x0_bytes x0_size x0_start x0_end x0_token x0_value x1_lineCount x1_goodsCount x1_workCount x1_years x1_lines x1_goods x1_works x1_change x1_coin x1_knownFree x1_isKnown e19) rfl rfl (Nat.le_of_ble_eq_true rfl) (by decide) 0 0 rfl rfl rfl [0, 1] [] rfl (by decide +kernel) rfl rfl [0, 1] (by decide +kernel) (fun _ => rfl) (fun _ => rfl) rfl rfl rfl (fun _ => rfl) (fun _ => ?_)
              refine J_if_eq (tg := 147) hK qd0_127.2.2.2.2.2.2.2.1 rfl rfl (fun hc140 => ?_) (fun hc140 => ?_)
              · have hf := ip hc140 hf
                refine J_iconst (v := 0) hK qd0_127.2.2.2.2.2.2.2.2.2.2.1 rfl (by decide) ?_
                obtain rfl := Option.some.inj hf
                exact J_zret hK hR qd0_127.2.2.2.2.2.2.2.2.2.2.2.1 () rfl rfl (by decide) (by decide)
              · have hf := iq hc140 hf
                refine J_iconst (v := 1) hK qd0_127.2.2.2.2.2.2.2.2.1 rfl (by decide) ?_
                refine J_goto hK qd0_127.2.2.2.2.2.2.2.2.2.1 (n := 148) rfl ?_
                obtain rfl := Option.some.inj hf
                exact J_zret hK hR qd0_127.2.2.2.2.2.2.2.2.2.2.2.1 () rfl rfl (by decide) (by decide)
          · have hf := iq hc117 hf
            refine J_aload_n hK qd0_126.2.2.2.2.2.2.2.2.2.2.2.2.1 rfl 0 rfl rfl ?_
            refine J_aload_n hK qd0_126.2.2.2.2.2.2.2.2.2.2.2.2.2.1 rfl 1 rfl rfl ?_
            obtain ⟨⟨v20, g21, g22, g23, g24, g25, g26⟩, e27, hf⟩ := bs hf
            have hf := un7 hf
            refine J_callV (m := 2) (m' := 2) (ce' := 0) (sl' := 0) (gr := []) (gs' := fun _ => [gTp d h0 x0_bytes x0_size g21 g22 g23 g24, gLd d h1 x1_lineCount x1_goodsCount x1_workCount x1_years x1_lines x1_goods x1_works x1_change g25 x1_knownFree g26]) (st' := fun _ => [.int v20]) (st := []) hK qd0_126.2.2.2.2.2.2.2.2.2.2.2.2.2.2.1 cv_RX3_72 iv_yX3_readCoin (As := [.ref (h1 0)]) (kX3_readCoin _ d h0 h1 n x0_bytes x0_size x0_start x0_end x0_token x0_value x1_lineCount x1_goodsCount x1_workCount x1_years x1_lines x1_goods x1_works x1_change x1_coin x1_knownFree x1_isKnown e27) rfl rfl (Nat.le_of_ble_eq_true rfl) (by decide) 0 0 rfl rfl rfl [0, 1] [] rfl (by decide +kernel) rfl rfl [0, 1] (by decide +kernel) (fun _ => rfl) (fun _ => rfl) rfl rfl rfl (fun _ => rfl) (fun _ => ?_)
            obtain ⟨v28, ev28, hf⟩ := bs hf
            obtain rfl := Option.some.inj hf
            exact J_zret hK hR qd0_126.2.2.2.2.2.2.2.2.2.2.2.2.2.2.2.1 () (zb_ok ev28).2 (by rw [(zb_ok ev28).1]) (by decide) (by decide)
        · have hf := iq hc102 hf
          refine J_aload_n hK qd0_126.2.2.2.2.1 rfl 0 rfl rfl ?_
          refine J_aload_n hK qd0_126.2.2.2.2.2.1 rfl 1 rfl rfl ?_
          obtain ⟨⟨v29, g30, g31, g32, g33, g34, g35⟩, e36, hf⟩ := bs hf
          have hf := un7 hf
          refine J_callV (m := 2) (m' := 2) (ce' := 0) (sl' := 0) (gr := []) (gs' := fun _ => [gTp d h0 x0_bytes x0_size g30 g31 g32 g33, gLd d h1 x1_lineCount x1_goodsCount x1_workCount x1_years x1_lines x1_goods x1_works g34 x1_coin x1_knownFree g35]) (st' := fun _ => [.int v29]) (st := []) hK qd0_126.2.2.2.2.2.2.1 cv_RX3_67 iv_yX3_readChange (As := [.ref (h1 0)]) (kX3_readChange _ d h0 h1 n x0_bytes x0_size x0_start x0_end x0_token x0_value x1_lineCount x1_goodsCount x1_workCount x1_years x1_lines x1_goods x1_works x1_change x1_coin x1_knownFree x1_isKnown e36) rfl rfl (Nat.le_of_ble_eq_true rfl) (by decide) 0 0 rfl rfl rfl [0, 1] [] rfl (by decide +kernel) rfl rfl [0, 1] (by decide +kernel) (fun _ => rfl) (fun _ => rfl) rfl rfl rfl (fun _ => rfl) (fun _ => ?_)
          obtain ⟨v37, ev37, hf⟩ := bs hf
          obtain rfl := Option.some.inj hf
          exact J_zret hK hR qd0_126.2.2.2.2.2.2.2.1 () (zb_ok ev37).2 (by rw [(zb_ok ev37).1]) (by decide) (by decide)
      · have hf := iq hc70 hf
        refine J_aload_n hK qd0_125.2.2.2.2.1 rfl 1 rfl rfl ?_
        refine J_get hK fo_RX3_59 qd0_125.2.2.2.2.2.1 rfl 1 0 rfl rfl rfl ?_
        refine J_bipush (v := 7) hK qd0_125.2.2.2.2.2.2.1 rfl (by decide) ?_
        refine J_icmp_ge (tg := 94) hK qd0_125.2.2.2.2.2.2.2.1 rfl rfl (fun hc79 => ?_) (fun hc79 => ?_)
        · have hf := ip hc79 hf
          refine J_iconst (v := 0) hK qd0_125.2.2.2.2.2.2.2.2.2.2.2.2.2.2.1 rfl (by decide) ?_
          obtain rfl := Option.some.inj hf
          exact J_zret hK hR qd0_125.2.2.2.2.2.2.2.2.2.2.2.2.2.2.2.1 () rfl rfl (by decide) (by decide)
        · have hf := iq hc79 hf
          refine J_aload_n hK qd0_125.2.2.2.2.2.2.2.2.1 rfl 0 rfl rfl ?_
          refine J_aload_n hK qd0_125.2.2.2.2.2.2.2.2.2.1 rfl 1 rfl rfl ?_
          obtain ⟨⟨v38, g39, g40, g41, g42, g43, g44, g45⟩, e46, hf⟩ := bs hf
          have hf := un8 hf
          refine J_callV (m := 2) (m' := 2) (ce' := 0) (sl' := 0) (gr := []) (gs' := fun _ => [gTp d h0 x0_bytes x0_size g39 g40 g41 g42, gLd d h1 x1_lineCount x1_goodsCount g43 x1_years x1_lines x1_goods g44 x1_change x1_coin x1_knownFree g45]) (st' := fun _ => [.int v38]) (st := []) hK qd0_125.2.2.2.2.2.2.2.2.2.2.1 cv_RX3_62 iv_yX3_readWork (As := [.ref (h1 0)]) (kX3_readWork _ d h0 h1 n x0_bytes x0_size x0_start x0_end x0_token x0_value x1_lineCount x1_goodsCount x1_workCount x1_years x1_lines x1_goods x1_works x1_change x1_coin x1_knownFree x1_isKnown e46) rfl rfl (Nat.le_of_ble_eq_true rfl) (by decide) 0 0 rfl rfl rfl [0, 1] [] rfl (by decide +kernel) rfl rfl [0, 1] (by decide +kernel) (fun _ => rfl) (fun _ => rfl) rfl rfl rfl (fun _ => rfl) (fun _ => ?_)
          refine J_if_eq (tg := 94) hK qd0_125.2.2.2.2.2.2.2.2.2.2.2.1 rfl rfl (fun hc87 => ?_) (fun hc87 => ?_)
          · have hf := ip hc87 hf
            refine J_iconst (v := 0) hK qd0_125.2.2.2.2.2.2.2.2.2.2.2.2.2.2.1 rfl (by decide) ?_
            obtain rfl := Option.some.inj hf
            exact J_zret hK hR qd0_125.2.2.2.2.2.2.2.2.2.2.2.2.2.2.2.1 () rfl rfl (by decide) (by decide)
          · have hf := iq hc87 hf
            refine J_iconst (v := 1) hK qd0_125.2.2.2.2.2.2.2.2.2.2.2.2.1 rfl (by decide) ?_
            refine J_goto hK qd0_125.2.2.2.2.2.2.2.2.2.2.2.2.2.1 (n := 95) rfl ?_
            obtain rfl := Option.some.inj hf
            exact J_zret hK hR qd0_125.2.2.2.2.2.2.2.2.2.2.2.2.2.2.2.1 () rfl rfl (by decide) (by decide)
    · have hf := iq hc38 hf
      refine J_aload_n hK qd0_124.2.2.2.2.1 rfl 1 rfl rfl ?_
      refine J_get hK fo_RX3_51 qd0_124.2.2.2.2.2.1 rfl 1 0 rfl rfl rfl ?_
      refine J_bipush (v := 8) hK qd0_124.2.2.2.2.2.2.1 rfl (by decide) ?_
      refine J_icmp_ge (tg := 62) hK qd0_124.2.2.2.2.2.2.2.1 rfl rfl (fun hc47 => ?_) (fun hc47 => ?_)
      · have hf := ip hc47 hf
        refine J_iconst (v := 0) hK qd0_124.2.2.2.2.2.2.2.2.2.2.2.2.2.2.1 rfl (by decide) ?_
        obtain rfl := Option.some.inj hf
        exact J_zret hK hR qd0_124.2.2.2.2.2.2.2.2.2.2.2.2.2.2.2.1 () rfl rfl (by decide) (by decide)
      · have hf := iq hc47 hf
        refine J_aload_n hK qd0_124.2.2.2.2.2.2.2.2.1 rfl 0 rfl rfl ?_
        refine J_aload_n hK qd0_124.2.2.2.2.2.2.2.2.2.1 rfl 1 rfl rfl ?_
        obtain ⟨⟨v47, g48, g49, g50, g51, g52, g53, g54⟩, e55, hf⟩ := bs hf
        have hf := un8 hf
        refine J_callV (m := 2) (m' := 2) (ce' := 0) (sl' := 0) (gr := []) (gs' := fun _ => [gTp d h0 x0_bytes x0_size g48 g49 g50 g51, gLd d h1 x1_lineCount g52 x1_workCount x1_years x1_lines g53 x1_works x1_change x1_coin x1_knownFree g54]) (st' := fun _ => [.int v47]) (st := []) hK qd0_124.2.2.2.2.2.2.2.2.2.2.1 cv_RX3_54 iv_yX3_readGoods (As := [.ref (h1 0)]) (kX3_readGoods _ d h0 h1 n x0_bytes x0_size x0_start x0_end x0_token x0_value x1_lineCount x1_goodsCount x1_workCount x1_years x1_lines x1_goods x1_works x1_change x1_coin x1_knownFree x1_isKnown e55) rfl rfl (Nat.le_of_ble_eq_true rfl) (by decide) 0 0 rfl rfl rfl [0, 1] [] rfl (by decide +kernel) rfl rfl [0, 1] (by decide +kernel) (fun _ => rfl) (fun _ => rfl) rfl rfl rfl (fun _ => rfl) (fun _ => ?_)
        refine J_if_eq (tg := 62) hK qd0_124.2.2.2.2.2.2.2.2.2.2.2.1 rfl rfl (fun hc55 => ?_) (fun hc55 => ?_)
        · have hf := ip hc55 hf
          refine J_iconst (v := 0) hK qd0_124.2.2.2.2.2.2.2.2.2.2.2.2.2.2.1 rfl (by decide) ?_
          obtain rfl := Option.some.inj hf
          exact J_zret hK hR qd0_124.2.2.2.2.2.2.2.2.2.2.2.2.2.2.2.1 () rfl rfl (by decide) (by decide)
        · have hf := iq hc55 hf
          refine J_iconst (v := 1) hK qd0_124.2.2.2.2.2.2.2.2.2.2.2.2.1 rfl (by decide) ?_
          refine J_goto hK qd0_124.2.2.2.2.2.2.2.2.2.2.2.2.2.1 (n := 63) rfl ?_
          obtain rfl := Option.some.inj hf
          exact J_zret hK hR qd0_124.2.2.2.2.2.2.2.2.2.2.2.2.2.2.2.1 () rfl rfl (by decide) (by decide)
  · have hf := iq hc6 hf
    refine J_aload_n hK qd0_123.2.2.2.2.1 rfl 1 rfl rfl ?_
    refine J_get hK fo_RX3_41 qd0_123.2.2.2.2.2.1 rfl 1 0 rfl rfl rfl ?_
    refine J_bipush (v := 20) hK qd0_123.2.2.2.2.2.2.1 rfl (by decide) ?_
    refine J_icmp_ge (tg := 30) hK qd0_123.2.2.2.2.2.2.2.1 rfl rfl (fun hc15 => ?_) (fun hc15 => ?_)
    · have hf := ip hc15 hf
      refine J_iconst (v := 0) hK qd0_123.2.2.2.2.2.2.2.2.2.2.2.2.2.2.1 rfl (by decide) ?_
      obtain rfl := Option.some.inj hf
      exact J_zret hK hR qd0_123.2.2.2.2.2.2.2.2.2.2.2.2.2.2.2.1 () rfl rfl (by decide) (by decide)
    · have hf := iq hc15 hf
      refine J_aload_n hK qd0_123.2.2.2.2.2.2.2.2.1 rfl 0 rfl rfl ?_
      refine J_aload_n hK qd0_123.2.2.2.2.2.2.2.2.2.1 rfl 1 rfl rfl ?_
      obtain ⟨⟨v56, g57, g58, g59, g60, g61, g62, g63⟩, e64, hf⟩ := bs hf
      have hf := un8 hf
      refine J_callV (m := 2) (m' := 2) (ce' := 0) (sl' := 0) (gr := []) (gs' := fun _ => [gTp d h0 x0_bytes x0_size g57 g58 g59 g60, gLd d h1 g61 x1_goodsCount x1_workCount x1_years g62 x1_goods x1_works x1_change x1_coin x1_knownFree g63]) (st' := fun _ => [.int v56]) (st := []) hK qd0_123.2.2.2.2.2.2.2.2.2.2.1 cv_RX3_46 iv_yX3_readLine (As := [.ref (h1 0)]) (kX3_readLine _ d h0 h1 n x0_bytes x0_size x0_start x0_end x0_token x0_value x1_lineCount x1_goodsCount x1_workCount x1_years x1_lines x1_goods x1_works x1_change x1_coin x1_knownFree x1_isKnown e64) rfl rfl (Nat.le_of_ble_eq_true rfl) (by decide) 0 0 rfl rfl rfl [0, 1] [] rfl (by decide +kernel) rfl rfl [0, 1] (by decide +kernel) (fun _ => rfl) (fun _ => rfl) rfl rfl rfl (fun _ => rfl) (fun _ => ?_)
      refine J_if_eq (tg := 30) hK qd0_123.2.2.2.2.2.2.2.2.2.2.2.1 rfl rfl (fun hc23 => ?_) (fun hc23 => ?_)
      · have hf := ip hc23 hf
        refine J_iconst (v := 0) hK qd0_123.2.2.2.2.2.2.2.2.2.2.2.2.2.2.1 rfl (by decide) ?_
        obtain rfl := Option.some.inj hf
        exact J_zret hK hR qd0_123.2.2.2.2.2.2.2.2.2.2.2.2.2.2.2.1 () rfl rfl (by decide) (by decide)
      · have hf := iq hc23 hf
        refine J_iconst (v := 1) hK qd0_123.2.2.2.2.2.2.2.2.2.2.2.2.1 rfl (by decide) ?_
        refine J_goto hK qd0_123.2.2.2.2.2.2.2.2.2.2.2.2.2.1 (n := 31) rfl ?_
        obtain rfl := Option.some.inj hf
        exact J_zret hK hR qd0_123.2.2.2.2.2.2.2.2.2.2.2.2.2.2.2.1 () rfl rfl (by decide) (by decide)

def fX3_readInto_s11 (n : Nat) (x0_bytes : (Nat → Int32)) (x0_size : Int32) (x1_knownFree : (Nat → Int32)) (z7 : Int32) (z8 : Int32) (z9 : Int32) (z10 : Int32) (z11 : Int32) (z12 : Int32) (z13 : Int32) (z14 : Int32) (z15 : Int32) (z16 : (Nat → Int32)) (z17 : (Nat → Int32)) (z18 : (Nat → Int32)) (z19 : (Nat → Int32)) (z20 : (Nat → Int32)) (z21 : Int32) : Option ((Int32 × Int32 × Int32 × Int32 × Int32 × Int32 × Int32 × Int32 × Int32 × (Nat → Int32) × (Nat → Int32) × (Nat → Int32) × (Nat → Int32) × (Nat → Int32) × Int32) ⊕ (((Int32 × Int32 × Int32 × Int32 × Int32 × Int32 × Int32 × Int32 × (Nat → Int32) × (Nat → Int32) × (Nat → Int32) × (Nat → Int32) × (Nat → Int32) × Int32) ⊕ ((Int32 × Int32 × Int32 × Int32 × Int32 × Int32 × Int32 × Int32 × Int32 × (Nat → Int32) × (Nat → Int32) × (Nat → Int32) × (Nat → Int32) × (Nat → Int32) × Int32) ⊕ ((Int32 × Int32 × Int32 × Int32 × Int32 × Int32 × Int32 × Int32 × (Nat → Int32) × (Nat → Int32) × (Nat → Int32) × (Nat → Int32) × (Nat → Int32) × Int32) ⊕ (Int32 × Int32 × Int32 × Int32 × Int32 × Int32 × Int32 × Int32 × (Nat → Int32) × (Nat → Int32) × (Nat → Int32) × (Nat → Int32) × (Nat → Int32) × Int32)))))) :=
  if 250 < z7 then (some (.inr (.inr (.inr (.inr (z8, z9, z10, z11, z12, z13, z14, z15, z16, z17, z18, z19, z20, z21)))))) else ((fX3_readStatement n (x0_bytes, x0_size, z8, z9, z10, z11) (z12, z13, z14, z15, z16, z17, z18, z19, z20, x1_knownFree, z21)).bind (u6 fun v80 g81 g82 g83 g84 G85 => u10 (fun g86 g87 g88 g89 g90 g91 g92 g93 g94 g95 => if v80 = 0 then (some (.inr (.inl (g81, g82, g83, g84, g86, g87, g88, g89, g90, g91, g92, g93, g94, g95)))) else (if g83 = 0 then (some (.inr (.inr (.inl (z7, g81, g82, g83, g84, g86, g87, g88, g89, g90, g91, g92, g93, g94, g95))))) else (if g83 = 3 then ((fX3_next n (x0_bytes, x0_size, g81, g82, g83, g84)).bind (u4 fun g97 g98 g99 g100 => some (.inl ((z7 + 1), g97, g98, g99, g100, g86, g87, g88, g89, g90, g91, g92, g93, g94, g95)))) else (some (.inr (.inr (.inr (.inl (g81, g82, g83, g84, g86, g87, g88, g89, g90, g91, g92, g93, g94, g95))))))))) G85))
def fX3_readInto (n : Nat) (X0 : TpT) (X1 : LdT) : Option (Int32 × Int32 × Int32 × Int32 × Int32 × (Int32 × Int32 × Int32 × Int32 × (Nat → Int32) × (Nat → Int32) × (Nat → Int32) × (Nat → Int32) × (Nat → Int32) × Int32)) :=
  u6 (fun (x0_bytes : (Nat → Int32)) (x0_size : Int32) (x0_start : Int32) (x0_end : Int32) (x0_token : Int32) (x0_value : Int32) => u11 (fun (x1_lineCount : Int32) (x1_goodsCount : Int32) (x1_workCount : Int32) (x1_years : Int32) (x1_lines : (Nat → Int32)) (x1_goods : (Nat → Int32)) (x1_works : (Nat → Int32)) (x1_change : (Nat → Int32)) (x1_coin : (Nat → Int32)) (x1_knownFree : (Nat → Int32)) (x1_isKnown : Int32) => (fX3_next n (x0_bytes, x0_size, x0_start, 0, x0_token, x0_value)).bind (u4 fun g1 g2 g3 g4 => (lp (u15 (fX3_readInto_s11 n x0_bytes x0_size x1_knownFree)) n (1, g1, g2, g3, g4, x1_lineCount, x1_goodsCount, x1_workCount, x1_years, x1_lines, x1_goods, x1_works, x1_change, x1_coin, x1_isKnown)).bind (Sum.elim (u14 fun w23 w24 w25 w26 w27 w28 w29 w30 w31 w32 w33 w34 w35 w36 => some (((-20) - w23), w23, w24, w25, w26, (w27, w28, w29, w30, w31, w32, w33, w34, w35, w36))) (Sum.elim (u15 fun w37 w38 w39 w40 w41 w42 w43 w44 w45 w46 w47 w48 w49 w50 w51 => some (w37, w38, w39, w40, w41, (w42, w43, w44, w45, w46, w47, w48, w49, w50, w51))) (Sum.elim (u14 fun w52 w53 w54 w55 w56 w57 w58 w59 w60 w61 w62 w63 w64 w65 => some (((-20) - w52), w52, w53, w54, w55, (w56, w57, w58, w59, w60, w61, w62, w63, w64, w65))) (u14 fun w66 w67 w68 w69 w70 w71 w72 w73 w74 w75 w76 w77 w78 w79 => some (((-20) - w66), w66, w67, w68, w69, (w70, w71, w72, w73, w74, w75, w76, w77, w78, w79)))))))) X1) X0
set_option maxHeartbeats 4000000 in
set_option maxRecDepth 100000 in
theorem kX3_readInto (l : Launch) (d : DT) (h0 : Nat → Nat) (h1 : Nat → Nat) (n : Nat) (x0_bytes : (Nat → Int32)) (x0_size : Int32) (x0_start : Int32) (x0_end : Int32) (x0_token : Int32) (x0_value : Int32) (x1_lineCount : Int32) (x1_goodsCount : Int32) (x1_workCount : Int32) (x1_years : Int32) (x1_lines : (Nat → Int32)) (x1_goods : (Nat → Int32)) (x1_works : (Nat → Int32)) (x1_change : (Nat → Int32)) (x1_coin : (Nat → Int32)) (x1_knownFree : (Nat → Int32)) (x1_isKnown : Int32)  {out : Int32 × Int32 × Int32 × Int32 × Int32 × (Int32 × Int32 × Int32 × Int32 × (Nat → Int32) × (Nat → Int32) × (Nat → Int32) × (Nat → Int32) × (Nat → Int32) × Int32)} (hf : fX3_readInto n (x0_bytes, x0_size, x0_start, x0_end, x0_token, x0_value) (x1_lineCount, x1_goodsCount, x1_workCount, x1_years, x1_lines, x1_goods, x1_works, x1_change, x1_coin, x1_knownFree, x1_isKnown) = some out) : Ct l d yX3_readInto cX3_readInto 3 (some .int) { frames := 8, cells := 0, slots := 0, locals := 179 } [.ref (h0 0), .ref (h1 0)] [gTp d h0 x0_bytes x0_size x0_start x0_end x0_token x0_value, gLd d h1 x1_lineCount x1_goodsCount x1_workCount x1_years x1_lines x1_goods x1_works x1_change x1_coin x1_knownFree x1_isKnown] (fun _ : Unit => (some (.int out.1), [gTp d h0 x0_bytes x0_size (out.2.1) (out.2.2.1) (out.2.2.2.1) (out.2.2.2.2.1), gLd d h1 (out.2.2.2.2.2.1) (out.2.2.2.2.2.2.1) (out.2.2.2.2.2.2.2.1) (out.2.2.2.2.2.2.2.2.1) (out.2.2.2.2.2.2.2.2.2.1) (out.2.2.2.2.2.2.2.2.2.2.1) (out.2.2.2.2.2.2.2.2.2.2.2.1) (out.2.2.2.2.2.2.2.2.2.2.2.2.1) (out.2.2.2.2.2.2.2.2.2.2.2.2.2.1) x1_knownFree (out.2.2.2.2.2.2.2.2.2.2.2.2.2.2)])) := by
  refine Ct.of (by decide) (Nat.le_of_ble_eq_true rfl) ?_
  intro Φ hl hK hR
  subst hl
  have hK : Ok d Φ RX3 "readInto" cX3_readInto 3 (some .int) { frames := 8, cells := 0, slots := 0, locals := 179 } := hK
  unfold fX3_readInto at hf
  have hf := un6 hf
  have hf := un11 hf
  show J d Φ 3 [gTp d h0 x0_bytes x0_size x0_start x0_end x0_token x0_value, gLd d h1 x1_lineCount x1_goodsCount x1_workCount x1_years x1_lines x1_goods x1_works x1_change x1_coin x1_knownFree x1_isKnown] 0 0 0 [(0, .ref (h0 0)), (1, .ref (h1 0))] []
  refine J_aload_n hK qd0_120.1 rfl 0 rfl rfl ?_
  refine J_iconst (v := 0) hK qd0_120.2.1 rfl (by decide) ?_
  refine J_put (g' := gTp d h0 x0_bytes x0_size x0_start (0) x0_token x0_value) (gs' := [gTp d h0 x0_bytes x0_size x0_start (0) x0_token x0_value, gLd d h1 x1_lineCount x1_goodsCount x1_workCount x1_years x1_lines x1_goods x1_works x1_change x1_coin x1_knownFree x1_isKnown]) hK fp_RX3_19 qd0_120.2.2.1 rfl 0 0 rfl rfl rfl rfl (Nat.le_of_ble_eq_true rfl) rfl rfl ?_
  refine J_aload_n hK qd0_120.2.2.2.1 rfl 0 rfl rfl ?_
  obtain ⟨⟨g1, g2, g3, g4⟩, e5, hf⟩ := bs hf
  have hf := un4 hf
  refine J_callV (m := 2) (m' := 2) (ce' := 0) (sl' := 0) (gr := [gLd d h1 x1_lineCount x1_goodsCount x1_workCount x1_years x1_lines x1_goods x1_works x1_change x1_coin x1_knownFree x1_isKnown]) (gs' := fun _ => [gTp d h0 x0_bytes x0_size g1 g2 g3 g4, gLd d h1 x1_lineCount x1_goodsCount x1_workCount x1_years x1_lines x1_goods x1_works x1_change x1_coin x1_knownFree x1_isKnown]) (st' := fun _ => []) (st := []) hK qd0_120.2.2.2.2.1 cv_RX3_22 iv_yX3_next (As := []) (kX3_next _ d h0 n x0_bytes x0_size x0_start (0) x0_token x0_value e5) rfl rfl (Nat.le_of_ble_eq_true rfl) (by decide) 0 0 rfl rfl rfl [0] [1] rfl (by decide +kernel) rfl rfl [1, 0] (by decide +kernel) (fun _ => rfl) (fun _ => rfl) rfl rfl rfl (fun _ => rfl) (fun _ => ?_)
  refine J_iconst (v := 1) hK qd0_120.2.2.2.2.2.1 rfl (by decide) ?_
  refine J_istore_n (L' := [(2, .int (1)), (0, .ref (h0 0)), (1, .ref (h1 0))]) hK qd0_120.2.2.2.2.2.2.1 rfl rfl (by decide) rfl ?_
  obtain ⟨e22, hl6, hf⟩ := bs hf
  have hx6_26 : ∀ (w23 : Int32) (w24 : Int32) (w25 : Int32) (w26 : Int32) (w27 : Int32) (w28 : Int32) (w29 : Int32) (w30 : Int32) (w31 : (Nat → Int32)) (w32 : (Nat → Int32)) (w33 : (Nat → Int32)) (w34 : (Nat → Int32)) (w35 : (Nat → Int32)) (w36 : Int32), (.inl (w23, w24, w25, w26, w27, w28, w29, w30, w31, w32, w33, w34, w35, w36)) = e22 → J d Φ 3 [gTp d h0 x0_bytes x0_size w23 w24 w25 w26, gLd d h1 w27 w28 w29 w30 w31 w32 w33 w34 w35 x1_knownFree w36] 0 0 26 [(0, .ref (h0 0))] [] := by
    intro w23 w24 w25 w26 w27 w28 w29 w30 w31 w32 w33 w34 w35 w36 he
    rw [← he] at hf
    simp only [Sum.elim_inl, Sum.elim_inr] at hf
    have hf := un14 hf
    refine J_bipush (v := (-20)) hK qd0_120.2.2.2.2.2.2.2.2.2.2.2.2.2.2.1 rfl (by decide) ?_
    refine J_aload_n hK qd0_120.2.2.2.2.2.2.2.2.2.2.2.2.2.2.2.1 rfl 0 rfl rfl ?_
    refine J_get hK fo_RX3_29 qd0_121.1 rfl 0 0 rfl rfl rfl ?_
    refine J_isub hK qd0_121.2.1 rfl ?_
    obtain rfl := Option.some.inj hf
    exact J_iret hK hR qd0_121.2.2.1 () rfl (by decide) (by decide)
  have hx6_41 : ∀ (w37 : Int32) (w38 : Int32) (w39 : Int32) (w40 : Int32) (w41 : Int32) (w42 : Int32) (w43 : Int32) (w44 : Int32) (w45 : Int32) (w46 : (Nat → Int32)) (w47 : (Nat → Int32)) (w48 : (Nat → Int32)) (w49 : (Nat → Int32)) (w50 : (Nat → Int32)) (w51 : Int32), (.inr (.inl (w37, w38, w39, w40, w41, w42, w43, w44, w45, w46, w47, w48, w49, w50, w51))) = e22 → J d Φ 3 [gTp d h0 x0_bytes x0_size w38 w39 w40 w41, gLd d h1 w42 w43 w44 w45 w46 w47 w48 w49 w50 x1_knownFree w51] 0 0 41 [(2, .int w37)] [] := by
    intro w37 w38 w39 w40 w41 w42 w43 w44 w45 w46 w47 w48 w49 w50 w51 he
    rw [← he] at hf
    simp only [Sum.elim_inl, Sum.elim_inr] at hf
    have hf := un15 hf
    refine J_iload_n hK qd0_121.2.2.2.2.2.2.1 rfl 0 rfl rfl ?_
    obtain rfl := Option.some.inj hf
    exact J_iret hK hR qd0_121.2.2.2.2.2.2.2.1 () rfl (by decide) (by decide)
  have hx6_51 : ∀ (w52 : Int32) (w53 : Int32) (w54 : Int32) (w55 : Int32) (w56 : Int32) (w57 : Int32) (w58 : Int32) (w59 : Int32) (w60 : (Nat → Int32)) (w61 : (Nat → Int32)) (w62 : (Nat → Int32)) (w63 : (Nat → Int32)) (w64 : (Nat → Int32)) (w65 : Int32), (.inr (.inr (.inl (w52, w53, w54, w55, w56, w57, w58, w59, w60, w61, w62, w63, w64, w65)))) = e22 → J d Φ 3 [gTp d h0 x0_bytes x0_size w52 w53 w54 w55, gLd d h1 w56 w57 w58 w59 w60 w61 w62 w63 w64 x1_knownFree w65] 0 0 51 [(0, .ref (h0 0))] [] := by
    intro w52 w53 w54 w55 w56 w57 w58 w59 w60 w61 w62 w63 w64 w65 he
    rw [← he] at hf
    simp only [Sum.elim_inl, Sum.elim_inr] at hf
    have hf := un14 hf
    refine J_bipush (v := (-20)) hK qd0_121.2.2.2.2.2.2.2.2.2.2.2.2.1 rfl (by decide) ?_
    refine J_aload_n hK qd0_121.2.2.2.2.2.2.2.2.2.2.2.2.2.1 rfl 0 rfl rfl ?_
    refine J_get hK fo_RX3_29 qd0_121.2.2.2.2.2.2.2.2.2.2.2.2.2.2.1 rfl 0 0 rfl rfl rfl ?_
    refine J_isub hK qd0_121.2.2.2.2.2.2.2.2.2.2.2.2.2.2.2.1 rfl ?_
    obtain rfl := Option.some.inj hf
    exact J_iret hK hR qd0_122.1 () rfl (by decide) (by decide)
  have hx6_69 : ∀ (w66 : Int32) (w67 : Int32) (w68 : Int32) (w69 : Int32) (w70 : Int32) (w71 : Int32) (w72 : Int32) (w73 : Int32) (w74 : (Nat → Int32)) (w75 : (Nat → Int32)) (w76 : (Nat → Int32)) (w77 : (Nat → Int32)) (w78 : (Nat → Int32)) (w79 : Int32), (.inr (.inr (.inr (w66, w67, w68, w69, w70, w71, w72, w73, w74, w75, w76, w77, w78, w79)))) = e22 → J d Φ 3 [gTp d h0 x0_bytes x0_size w66 w67 w68 w69, gLd d h1 w70 w71 w72 w73 w74 w75 w76 w77 w78 x1_knownFree w79] 0 0 69 [(0, .ref (h0 0))] [] := by
    intro w66 w67 w68 w69 w70 w71 w72 w73 w74 w75 w76 w77 w78 w79 he
    rw [← he] at hf
    simp only [Sum.elim_inl, Sum.elim_inr] at hf
    have hf := un14 hf
    refine J_bipush (v := (-20)) hK qd0_122.2.2.2.2.2.1 rfl (by decide) ?_
    refine J_aload_n hK qd0_122.2.2.2.2.2.2.1 rfl 0 rfl rfl ?_
    refine J_get hK fo_RX3_29 qd0_122.2.2.2.2.2.2.2.1 rfl 0 0 rfl rfl rfl ?_
    refine J_isub hK qd0_122.2.2.2.2.2.2.2.2.1 rfl ?_
    obtain rfl := Option.some.inj hf
    exact J_iret hK hR qd0_122.2.2.2.2.2.2.2.2.2.1 () rfl (by decide) (by decide)
  have lo6 : ∀ (k : Nat) (z7 : Int32) (z8 : Int32) (z9 : Int32) (z10 : Int32) (z11 : Int32) (z12 : Int32) (z13 : Int32) (z14 : Int32) (z15 : Int32) (z16 : (Nat → Int32)) (z17 : (Nat → Int32)) (z18 : (Nat → Int32)) (z19 : (Nat → Int32)) (z20 : (Nat → Int32)) (z21 : Int32), lp (u15 (fX3_readInto_s11 n x0_bytes x0_size x1_knownFree)) k (z7, z8, z9, z10, z11, z12, z13, z14, z15, z16, z17, z18, z19, z20, z21) = some e22 → J d Φ 3 [gTp d h0 x0_bytes x0_size z8 z9 z10 z11, gLd d h1 z12 z13 z14 z15 z16 z17 z18 z19 z20 x1_knownFree z21] 0 0 11 [(0, .ref (h0 0)), (1, .ref (h1 0)), (2, .int z7)] [] := by
    intro k
    induction k with
    | zero => intro z7 z8 z9 z10 z11 z12 z13 z14 z15 z16 z17 z18 z19 z20 z21 h; cases h
    | succ k ih6 =>
      intro z7 z8 z9 z10 z11 z12 z13 z14 z15 z16 z17 z18 z19 z20 z21 h
      obtain ⟨k2, rr6, hk2, hs6, hr6⟩ := lp_ok h
      cases hk2
      have hs6 : fX3_readInto_s11 n x0_bytes x0_size x1_knownFree z7 z8 z9 z10 z11 z12 z13 z14 z15 z16 z17 z18 z19 z20 z21 = some rr6 := hs6
      unfold fX3_readInto_s11 at hs6
      refine J_iload_n hK qd0_120.2.2.2.2.2.2.2.1 rfl 2 rfl rfl ?_
      refine J_sipush (v := 250) hK qd0_120.2.2.2.2.2.2.2.2.1 rfl (by decide) ?_
      refine J_icmp_gt (tg := 69) hK qd0_120.2.2.2.2.2.2.2.2.2.1 rfl rfl (fun hc15 => ?_) (fun hc15 => ?_)
      · have hs6 := ip hc15 hs6
        exact J_loc [0] rfl (hx6_69 z8 z9 z10 z11 z12 z13 z14 z15 z16 z17 z18 z19 z20 z21 (lpx hs6 hr6))
      · have hs6 := iq hc15 hs6
        refine J_aload_n hK qd0_120.2.2.2.2.2.2.2.2.2.2.1 rfl 0 rfl rfl ?_
        refine J_aload_n hK qd0_120.2.2.2.2.2.2.2.2.2.2.2.1 rfl 1 rfl rfl ?_
        obtain ⟨⟨v80, g81, g82, g83, g84, ⟨g86, g87, g88, g89, g90, g91, g92, g93, g94, g95⟩⟩, e96, hs6⟩ := bs hs6
        have hs6 := un6 hs6
        have hs6 := un10 hs6
        refine J_callV (m := 2) (m' := 2) (ce' := 0) (sl' := 0) (gr := []) (gs' := fun _ => [gTp d h0 x0_bytes x0_size g81 g82 g83 g84, gLd d h1 g86 g87 g88 g89 g90 g91 g92 g93 g94 x1_knownFree g95]) (st' := fun _ => [.int v80]) (st := []) hK qd0_120.2.2.2.2.2.2.2.2.2.2.2.2.1 cv_RX3_25 iv_yX3_readStatement (As := [.ref (h1 0)]) (kX3_readStatement _ d h0 h1 n x0_bytes x0_size z8 z9 z10 z11 z12 z13 z14 z15 z16 z17 z18 z19 z20 x1_knownFree z21 e96) rfl rfl (Nat.le_of_ble_eq_true rfl) (by decide) 0 0 rfl rfl rfl [0, 1] [] rfl (by decide +kernel) rfl rfl [0, 1] (by decide +kernel) (fun _ => rfl) (fun _ => rfl) rfl rfl rfl (fun _ => rfl) (fun _ => ?_)
        refine J_if_ne (tg := 34) hK qd0_120.2.2.2.2.2.2.2.2.2.2.2.2.2.1 rfl rfl (fun hc23 => ?_) (fun hc23 => ?_)
        · have hs6 := iq hc23 hs6
          refine J_aload_n hK qd0_121.2.2.2.1 rfl 0 rfl rfl ?_
          refine J_get hK fo_RX3_32 qd0_121.2.2.2.2.1 rfl 0 0 rfl rfl rfl ?_
          refine J_if_ne (tg := 43) hK qd0_121.2.2.2.2.2.1 rfl rfl (fun hc38 => ?_) (fun hc38 => ?_)
          · have hs6 := iq hc38 hs6
            refine J_aload_n hK qd0_121.2.2.2.2.2.2.2.2.1 rfl 0 rfl rfl ?_
            refine J_get hK fo_RX3_32 qd0_121.2.2.2.2.2.2.2.2.2.1 rfl 0 0 rfl rfl rfl ?_
            refine J_iconst (v := 3) hK qd0_121.2.2.2.2.2.2.2.2.2.2.1 rfl (by decide) ?_
            refine J_icmp_eq (tg := 59) hK qd0_121.2.2.2.2.2.2.2.2.2.2.2.1 rfl rfl (fun hc48 => ?_) (fun hc48 => ?_)
            · have hs6 := ip hc48 hs6
              refine J_aload_n hK qd0_122.2.1 rfl 0 rfl rfl ?_
              obtain ⟨⟨g97, g98, g99, g100⟩, e101, hs6⟩ := bs hs6
              have hs6 := un4 hs6
              refine J_callV (m := 2) (m' := 2) (ce' := 0) (sl' := 0) (gr := [gLd d h1 g86 g87 g88 g89 g90 g91 g92 g93 g94 x1_knownFree g95]) (gs' := fun _ => [gTp d h0 x0_bytes x0_size g97 g98 g99 g100, gLd d h1 g86 g87 g88 g89 g90 g91 g92 g93 g94 x1_knownFree g95]) (st' := fun _ => []) (st := []) hK qd0_122.2.2.1 cv_RX3_22 iv_yX3_next (As := []) (kX3_next _ d h0 n x0_bytes x0_size g81 g82 g83 g84 e101) rfl rfl (Nat.le_of_ble_eq_true rfl) (by decide) 0 0 rfl rfl rfl [0] [1] rfl (by decide +kernel) rfl rfl [1, 0] (by decide +kernel) (fun _ => rfl) (fun _ => rfl) rfl rfl rfl (fun _ => rfl) (fun _ => ?_)
              refine J_iinc (L' := [(2, .int (z7 + 1)), (0, .ref (h0 0)), (1, .ref (h1 0))]) (v := (z7 + 1)) hK qd0_122.2.2.2.1 rfl 2 rfl rfl (by decide) rfl ?_
              refine J_goto hK qd0_122.2.2.2.2.1 (n := 11) rfl ?_
              exact J_loc [1, 2, 0] rfl (ih6 (z7 + 1) g97 g98 g99 g100 g86 g87 g88 g89 g90 g91 g92 g93 g94 g95 (lpc hs6 hr6))
            · have hs6 := iq hc48 hs6
              exact J_loc [0] rfl (hx6_51 g81 g82 g83 g84 g86 g87 g88 g89 g90 g91 g92 g93 g94 g95 (lpx hs6 hr6))
          · have hs6 := ip hc38 hs6
            exact J_loc [2] rfl (hx6_41 z7 g81 g82 g83 g84 g86 g87 g88 g89 g90 g91 g92 g93 g94 g95 (lpx hs6 hr6))
        · have hs6 := ip hc23 hs6
          exact J_loc [0] rfl (hx6_26 g81 g82 g83 g84 g86 g87 g88 g89 g90 g91 g92 g93 g94 g95 (lpx hs6 hr6))
  exact J_loc [1, 2, 0] rfl (lo6 n (1) g1 g2 g3 g4 x1_lineCount x1_goodsCount x1_workCount x1_years x1_lines x1_goods x1_works x1_change x1_coin x1_isKnown hl6)

def fX4_costBetween (n : Nat) (X0 : TrT) (X1 : WyT) (X2 : LdT) (p2 : Int32) (p3 : Int32) : Option (Int32 × ((Nat → Int32) × (Nat → Int32) × (Nat → Int32) × (Nat → Int32) × (Nat → Int32) × (Nat → Int32) × Int32 × Int32)) :=
  u4 (fun (x0_left : (Nat → Int32)) (x0_earned : (Nat → Int32)) (x0_turnCost : Int32) (x0_turnWayless : Int32) => u14 (fun (x1_edgeA : (Nat → Int32)) (x1_edgeB : (Nat → Int32)) (x1_edgeCost : (Nat → Int32)) (x1_edgeLine : (Nat → Int32)) (x1_change : (Nat → Int32)) (x1_away : (Nat → Int32)) (x1_steps : (Nat → Int32)) (x1_nodes : (Nat → Int32)) (x1_stepCount : Int32) (x1_open : (Nat → Int32)) (x1_openCount : Int32) (x1_seen : Int64) (x1_edgeCount : Int32) (x1_aim : Int32) => u11 (fun (x2_lineCount : Int32) (x2_goodsCount : Int32) (x2_workCount : Int32) (x2_years : Int32) (x2_lines : (Nat → Int32)) (x2_goods : (Nat → Int32)) (x2_works : (Nat → Int32)) (x2_change : (Nat → Int32)) (x2_coin : (Nat → Int32)) (x2_knownFree : (Nat → Int32)) (x2_isKnown : Int32) => (fX1_linesThere n (x2_lineCount, x2_goodsCount, x2_workCount, x2_years, x2_lines, x2_goods, x2_works, x2_change, x2_coin, x2_knownFree, x2_isKnown)).bind (fun v1 => (fX5_prepare n (x1_edgeA, x1_edgeB, x1_edgeCost, x1_edgeLine, x1_change, x1_away, x1_steps, x1_nodes, x1_stepCount, x1_open, x1_openCount, x1_seen, x1_edgeCount, x1_aim) (x2_lineCount, x2_goodsCount, x2_workCount, x2_years, x2_lines, x2_goods, x2_works, x2_change, x2_coin, x2_knownFree, x2_isKnown) v1).bind (fun G3 => u7 (fun g4 g5 g6 g7 g8 g9 g10 => (fX5_aimAt n (g4, g5, g6, g7, g8, x1_away, x1_steps, x1_nodes, x1_stepCount, x1_open, x1_openCount, x1_seen, g9, g10) p3).bind (u2 fun g12 g13 => (fX5_costFrom n (g4, g5, g6, g7, g8, g12, x1_steps, x1_nodes, x1_stepCount, x1_open, x1_openCount, x1_seen, g9, g13) p2).bind (fun v15 => some (v15, (g4, g5, g6, g7, g8, g12, g9, g13))))) G3))) X2) X1) X0
set_option maxHeartbeats 4000000 in
set_option maxRecDepth 100000 in
theorem kX4_costBetween (l : Launch) (d : DT) (h0 : Nat → Nat) (h1 : Nat → Nat) (h2 : Nat → Nat) (n : Nat) (x0_left : (Nat → Int32)) (x0_earned : (Nat → Int32)) (x0_turnCost : Int32) (x0_turnWayless : Int32) (x1_edgeA : (Nat → Int32)) (x1_edgeB : (Nat → Int32)) (x1_edgeCost : (Nat → Int32)) (x1_edgeLine : (Nat → Int32)) (x1_change : (Nat → Int32)) (x1_away : (Nat → Int32)) (x1_steps : (Nat → Int32)) (x1_nodes : (Nat → Int32)) (x1_stepCount : Int32) (x1_open : (Nat → Int32)) (x1_openCount : Int32) (x1_seen : Int64) (x1_edgeCount : Int32) (x1_aim : Int32) (x2_lineCount : Int32) (x2_goodsCount : Int32) (x2_workCount : Int32) (x2_years : Int32) (x2_lines : (Nat → Int32)) (x2_goods : (Nat → Int32)) (x2_works : (Nat → Int32)) (x2_change : (Nat → Int32)) (x2_coin : (Nat → Int32)) (x2_knownFree : (Nat → Int32)) (x2_isKnown : Int32) (p2 : Int32) (p3 : Int32)  {out : Int32 × ((Nat → Int32) × (Nat → Int32) × (Nat → Int32) × (Nat → Int32) × (Nat → Int32) × (Nat → Int32) × Int32 × Int32)} (hf : fX4_costBetween n (x0_left, x0_earned, x0_turnCost, x0_turnWayless) (x1_edgeA, x1_edgeB, x1_edgeCost, x1_edgeLine, x1_change, x1_away, x1_steps, x1_nodes, x1_stepCount, x1_open, x1_openCount, x1_seen, x1_edgeCount, x1_aim) (x2_lineCount, x2_goodsCount, x2_workCount, x2_years, x2_lines, x2_goods, x2_works, x2_change, x2_coin, x2_knownFree, x2_isKnown) p2 p3 = some out) : Ct l d yX4_costBetween cX4_costBetween 4 (some .int) { frames := 2, cells := 0, slots := 0, locals := 51 } [.ref (h0 0), .ref (h2 0), .int p2, .int p3] [gTr d h0 (h1 0) x0_left x0_earned x0_turnCost x0_turnWayless, gWy d h1 x1_edgeA x1_edgeB x1_edgeCost x1_edgeLine x1_change x1_away x1_steps x1_nodes x1_stepCount x1_open x1_openCount x1_seen x1_edgeCount x1_aim, gLd d h2 x2_lineCount x2_goodsCount x2_workCount x2_years x2_lines x2_goods x2_works x2_change x2_coin x2_knownFree x2_isKnown] (fun _ : Unit => (some (.int out.1), [gTr d h0 (h1 0) x0_left x0_earned x0_turnCost x0_turnWayless, gWy d h1 (out.2.1) (out.2.2.1) (out.2.2.2.1) (out.2.2.2.2.1) (out.2.2.2.2.2.1) (out.2.2.2.2.2.2.1) x1_steps x1_nodes x1_stepCount x1_open x1_openCount x1_seen (out.2.2.2.2.2.2.2.1) (out.2.2.2.2.2.2.2.2), gLd d h2 x2_lineCount x2_goodsCount x2_workCount x2_years x2_lines x2_goods x2_works x2_change x2_coin x2_knownFree x2_isKnown])) := by
  refine Ct.of (by decide) (Nat.le_of_ble_eq_true rfl) ?_
  intro Φ hl hK hR
  subst hl
  have hK : Ok d Φ RX4 "costBetween" cX4_costBetween 4 (some .int) { frames := 2, cells := 0, slots := 0, locals := 51 } := hK
  unfold fX4_costBetween at hf
  have hf := un4 hf
  have hf := un14 hf
  have hf := un11 hf
  show J d Φ 4 [gTr d h0 (h1 0) x0_left x0_earned x0_turnCost x0_turnWayless, gWy d h1 x1_edgeA x1_edgeB x1_edgeCost x1_edgeLine x1_change x1_away x1_steps x1_nodes x1_stepCount x1_open x1_openCount x1_seen x1_edgeCount x1_aim, gLd d h2 x2_lineCount x2_goodsCount x2_workCount x2_years x2_lines x2_goods x2_works x2_change x2_coin x2_knownFree x2_isKnown] 0 0 0 [(0, .ref (h0 0)), (1, .ref (h2 0)), (2, .int p2), (3, .int p3)] []
  refine J_aload_n hK qd1_13.1 rfl 0 rfl rfl ?_
  refine J_get hK fo_RX4_12 qd1_13.2.1 rfl 0 0 rfl rfl rfl ?_
  refine J_aload_n hK qd1_13.2.2.1 rfl 1 rfl rfl ?_
  refine J_aload_n hK qd1_13.2.2.2.1 rfl 1 rfl rfl ?_
  obtain ⟨v1, e2, hf⟩ := bs hf
  refine J_callV (m := 3) (m' := 3) (ce' := 0) (sl' := 0) (gr := [gTr d h0 (h1 0) x0_left x0_earned x0_turnCost x0_turnWayless, gWy d h1 x1_edgeA x1_edgeB x1_edgeCost x1_edgeLine x1_change x1_away x1_steps x1_nodes x1_stepCount x1_open x1_openCount x1_seen x1_edgeCount x1_aim]) (gs' := fun _ => [gTr d h0 (h1 0) x0_left x0_earned x0_turnCost x0_turnWayless, gWy d h1 x1_edgeA x1_edgeB x1_edgeCost x1_edgeLine x1_change x1_away x1_steps x1_nodes x1_stepCount x1_open x1_openCount x1_seen x1_edgeCount x1_aim, gLd d h2 x2_lineCount x2_goodsCount x2_workCount x2_years x2_lines x2_goods x2_works x2_change x2_coin x2_knownFree x2_isKnown]) (st' := fun _ => [.int v1, .ref (h2 0), .ref (h1 0)]) (st := [.ref (h2 0), .ref (h1 0)]) hK qd1_13.2.2.2.2.1 cv_RX4_25 iv_yX1_linesThere (As := []) (kX1_linesThere _ d h2 n x2_lineCount x2_goodsCount x2_workCount x2_years x2_lines x2_goods x2_works x2_change x2_coin x2_knownFree x2_isKnown e2) rfl rfl (Nat.le_of_ble_eq_true rfl) (by decide) 2 0 rfl rfl rfl [2] [0, 1] rfl (by decide +kernel) rfl rfl [0, 1, 2] (by decide +kernel) (fun _ => rfl) (fun _ => rfl) rfl rfl rfl (fun _ => rfl) (fun _ => ?_)
  obtain ⟨⟨g4, g5, g6, g7, g8, g9, g10⟩, e11, hf⟩ := bs hf
  have hf := un7 hf
  refine J_callV (m := 3) (m' := 3) (ce' := 0) (sl' := 0) (gr := [gTr d h0 (h1 0) x0_left x0_earned x0_turnCost x0_turnWayless]) (gs' := fun _ => [gTr d h0 (h1 0) x0_left x0_earned x0_turnCost x0_turnWayless, gWy d h1 g4 g5 g6 g7 g8 x1_away x1_steps x1_nodes x1_stepCount x1_open x1_openCount x1_seen g9 g10, gLd d h2 x2_lineCount x2_goodsCount x2_workCount x2_years x2_lines x2_goods x2_works x2_change x2_coin x2_knownFree x2_isKnown]) (st' := fun _ => []) (st := []) hK qd1_13.2.2.2.2.2.1 cv_RX4_31 iv_yX5_prepare (As := [.ref (h2 0), .int v1]) (kX5_prepare _ d h1 h2 n x1_edgeA x1_edgeB x1_edgeCost x1_edgeLine x1_change x1_away x1_steps x1_nodes x1_stepCount x1_open x1_openCount x1_seen x1_edgeCount x1_aim x2_lineCount x2_goodsCount x2_workCount x2_years x2_lines x2_goods x2_works x2_change x2_coin x2_knownFree x2_isKnown v1 e11) rfl rfl (Nat.le_of_ble_eq_true rfl) (by decide) 1 0 rfl rfl rfl [1, 2] [0] rfl (by decide +kernel) rfl rfl [0, 1, 2] (by decide +kernel) (fun _ => rfl) (fun _ => rfl) rfl rfl rfl (fun _ => rfl) (fun _ => ?_)
  refine J_aload_n hK qd1_13.2.2.2.2.2.2.1 rfl 0 rfl rfl ?_
  refine J_get hK fo_RX4_12 qd1_13.2.2.2.2.2.2.2.1 rfl 0 0 rfl rfl rfl ?_
  refine J_iload_n hK qd1_13.2.2.2.2.2.2.2.2.1 rfl 3 rfl rfl ?_
  obtain ⟨⟨g12, g13⟩, e14, hf⟩ := bs hf
  have hf := un2 hf
  refine J_callV (m := 3) (m' := 3) (ce' := 0) (sl' := 0) (gr := [gTr d h0 (h1 0) x0_left x0_earned x0_turnCost x0_turnWayless, gLd d h2 x2_lineCount x2_goodsCount x2_workCount x2_years x2_lines x2_goods x2_works x2_change x2_coin x2_knownFree x2_isKnown]) (gs' := fun _ => [gTr d h0 (h1 0) x0_left x0_earned x0_turnCost x0_turnWayless, gWy d h1 g4 g5 g6 g7 g8 g12 x1_steps x1_nodes x1_stepCount x1_open x1_openCount x1_seen g9 g13, gLd d h2 x2_lineCount x2_goodsCount x2_workCount x2_years x2_lines x2_goods x2_works x2_change x2_coin x2_knownFree x2_isKnown]) (st' := fun _ => []) (st := []) hK qd1_13.2.2.2.2.2.2.2.2.2.1 cv_RX4_35 iv_yX5_aimAt (As := [.int p3]) (kX5_aimAt _ d h1 n g4 g5 g6 g7 g8 x1_away x1_steps x1_nodes x1_stepCount x1_open x1_openCount x1_seen g9 g10 p3 e14) rfl rfl (Nat.le_of_ble_eq_true rfl) (by decide) 1 0 rfl rfl rfl [1] [0, 2] rfl (by decide +kernel) rfl rfl [0, 2, 1] (by decide +kernel) (fun _ => rfl) (fun _ => rfl) rfl rfl rfl (fun _ => rfl) (fun _ => ?_)
  refine J_aload_n hK qd1_13.2.2.2.2.2.2.2.2.2.2.1 rfl 0 rfl rfl ?_
  refine J_get hK fo_RX4_12 qd1_13.2.2.2.2.2.2.2.2.2.2.2.1 rfl 0 0 rfl rfl rfl ?_
  refine J_iload_n hK qd1_13.2.2.2.2.2.2.2.2.2.2.2.2.1 rfl 2 rfl rfl ?_
  obtain ⟨v15, e16, hf⟩ := bs hf
  refine J_callV (m := 3) (m' := 3) (ce' := 0) (sl' := 0) (gr := [gTr d h0 (h1 0) x0_left x0_earned x0_turnCost x0_turnWayless, gLd d h2 x2_lineCount x2_goodsCount x2_workCount x2_years x2_lines x2_goods x2_works x2_change x2_coin x2_knownFree x2_isKnown]) (gs' := fun _ => [gTr d h0 (h1 0) x0_left x0_earned x0_turnCost x0_turnWayless, gWy d h1 g4 g5 g6 g7 g8 g12 x1_steps x1_nodes x1_stepCount x1_open x1_openCount x1_seen g9 g13, gLd d h2 x2_lineCount x2_goodsCount x2_workCount x2_years x2_lines x2_goods x2_works x2_change x2_coin x2_knownFree x2_isKnown]) (st' := fun _ => [.int v15]) (st := []) hK qd1_13.2.2.2.2.2.2.2.2.2.2.2.2.2.1 cv_RX4_39 iv_yX5_costFrom (As := [.int p2]) (kX5_costFrom _ d h1 n g4 g5 g6 g7 g8 g12 x1_steps x1_nodes x1_stepCount x1_open x1_openCount x1_seen g9 g13 p2 e16) rfl rfl (Nat.le_of_ble_eq_true rfl) (by decide) 1 0 rfl rfl rfl [1] [0, 2] rfl (by decide +kernel) rfl rfl [0, 2, 1] (by decide +kernel) (fun _ => rfl) (fun _ => rfl) rfl rfl rfl (fun _ => rfl) (fun _ => ?_)
  obtain rfl := Option.some.inj hf
  exact J_iret hK hR qd1_13.2.2.2.2.2.2.2.2.2.2.2.2.2.2.1 () rfl (by decide) (by decide)

def fX4_linesBearing_s8 (p2 : Int32) (x0_left : (Nat → Int32)) (x1_lineCount : Int32) (z4 : Int32) (z5 : Int32) : Option ((Int32 × Int32) ⊕ (Int32)) :=
  if x1_lineCount ≤ z5 then (some (.inr z4)) else ((rd 20 x0_left z5).bind fun v8 => if p2 ≤ v8 then (some (.inl (z4, (z5 + 1)))) else ((some (z4 &&& (((1 : Int32) <<< (z5 &&& 31)) ^^^ (-1)))).bind fun t9 => some (.inl (t9, (z5 + 1)))))
def fX4_linesBearing (n : Nat) (X0 : TrT) (X1 : LdT) (p2 : Int32) : Option (Int32) :=
  u4 (fun (x0_left : (Nat → Int32)) (x0_earned : (Nat → Int32)) (x0_turnCost : Int32) (x0_turnWayless : Int32) => u11 (fun (x1_lineCount : Int32) (x1_goodsCount : Int32) (x1_workCount : Int32) (x1_years : Int32) (x1_lines : (Nat → Int32)) (x1_goods : (Nat → Int32)) (x1_works : (Nat → Int32)) (x1_change : (Nat → Int32)) (x1_coin : (Nat → Int32)) (x1_knownFree : (Nat → Int32)) (x1_isKnown : Int32) => (fX1_linesThere n (x1_lineCount, x1_goodsCount, x1_workCount, x1_years, x1_lines, x1_goods, x1_works, x1_change, x1_coin, x1_knownFree, x1_isKnown)).bind (fun v1 => (lp (u2 (fX4_linesBearing_s8 p2 x0_left x1_lineCount)) n (v1, 0)).bind (fun w7 => some w7))) X1) X0
set_option maxHeartbeats 4000000 in
set_option maxRecDepth 100000 in
theorem kX4_linesBearing (l : Launch) (d : DT) (h0 : Nat → Nat) (a0_ways : Nat) (h1 : Nat → Nat) (n : Nat) (x0_left : (Nat → Int32)) (x0_earned : (Nat → Int32)) (x0_turnCost : Int32) (x0_turnWayless : Int32) (x1_lineCount : Int32) (x1_goodsCount : Int32) (x1_workCount : Int32) (x1_years : Int32) (x1_lines : (Nat → Int32)) (x1_goods : (Nat → Int32)) (x1_works : (Nat → Int32)) (x1_change : (Nat → Int32)) (x1_coin : (Nat → Int32)) (x1_knownFree : (Nat → Int32)) (x1_isKnown : Int32) (p2 : Int32)  {out : Int32} (hf : fX4_linesBearing n (x0_left, x0_earned, x0_turnCost, x0_turnWayless) (x1_lineCount, x1_goodsCount, x1_workCount, x1_years, x1_lines, x1_goods, x1_works, x1_change, x1_coin, x1_knownFree, x1_isKnown) p2 = some out) : Ct l d yX4_linesBearing cX4_linesBearing 5 (some .int) { frames := 2, cells := 0, slots := 0, locals := 44 } [.ref (h0 0), .ref (h1 0), .int p2] [gTr d h0 a0_ways x0_left x0_earned x0_turnCost x0_turnWayless, gLd d h1 x1_lineCount x1_goodsCount x1_workCount x1_years x1_lines x1_goods x1_works x1_change x1_coin x1_knownFree x1_isKnown] (fun _ : Unit => (some (.int out), [gTr d h0 a0_ways x0_left x0_earned x0_turnCost x0_turnWayless, gLd d h1 x1_lineCount x1_goodsCount x1_workCount x1_years x1_lines x1_goods x1_works x1_change x1_coin x1_knownFree x1_isKnown])) := by
  refine Ct.of (by decide) (Nat.le_of_ble_eq_true rfl) ?_
  intro Φ hl hK hR
  subst hl
  have hK : Ok d Φ RX4 "linesBearing" cX4_linesBearing 5 (some .int) { frames := 2, cells := 0, slots := 0, locals := 44 } := hK
  unfold fX4_linesBearing at hf
  have hf := un4 hf
  have hf := un11 hf
  show J d Φ 5 [gTr d h0 a0_ways x0_left x0_earned x0_turnCost x0_turnWayless, gLd d h1 x1_lineCount x1_goodsCount x1_workCount x1_years x1_lines x1_goods x1_works x1_change x1_coin x1_knownFree x1_isKnown] 0 0 0 [(0, .ref (h0 0)), (1, .ref (h1 0)), (2, .int p2)] []
  refine J_aload_n hK qd1_24.1 rfl 1 rfl rfl ?_
  obtain ⟨v1, e2, hf⟩ := bs hf
  refine J_callV (m := 2) (m' := 2) (ce' := 0) (sl' := 0) (gr := [gTr d h0 a0_ways x0_left x0_earned x0_turnCost x0_turnWayless]) (gs' := fun _ => [gTr d h0 a0_ways x0_left x0_earned x0_turnCost x0_turnWayless, gLd d h1 x1_lineCount x1_goodsCount x1_workCount x1_years x1_lines x1_goods x1_works x1_change x1_coin x1_knownFree x1_isKnown]) (st' := fun _ => [.int v1]) (st := []) hK qd1_24.2.1 cv_RX4_25 iv_yX1_linesThere (As := []) (kX1_linesThere _ d h1 n x1_lineCount x1_goodsCount x1_workCount x1_years x1_lines x1_goods x1_works x1_change x1_coin x1_knownFree x1_isKnown e2) rfl rfl (Nat.le_of_ble_eq_true rfl) (by decide) 1 0 rfl rfl rfl [1] [0] rfl (by decide +kernel) rfl rfl [0, 1] (by decide +kernel) (fun _ => rfl) (fun _ => rfl) rfl rfl rfl (fun _ => rfl) (fun _ => ?_)
  refine J_istore_n (L' := [(3, .int v1), (0, .ref (h0 0)), (1, .ref (h1 0)), (2, .int p2)]) hK qd1_24.2.2.1 rfl rfl (by decide) rfl ?_
  refine J_iconst (v := 0) hK qd1_24.2.2.2.1 rfl (by decide) ?_
  refine J_istore (L' := [(4, .int (0)), (3, .int v1), (0, .ref (h0 0)), (1, .ref (h1 0)), (2, .int p2)]) hK qd1_24.2.2.2.2.1 rfl (by decide) rfl ?_
  obtain ⟨e6, hl3, hf⟩ := bs hf
  have hx3_43 : ∀ (w7 : Int32), w7 = e6 → J d Φ 5 [gTr d h0 a0_ways x0_left x0_earned x0_turnCost x0_turnWayless, gLd d h1 x1_lineCount x1_goodsCount x1_workCount x1_years x1_lines x1_goods x1_works x1_change x1_coin x1_knownFree x1_isKnown] 0 0 43 [(3, .int w7)] [] := by
    intro w7 he
    rw [← he] at hf
    refine J_iload_n hK qd1_25.2.2.2.2.2.2.2.2.2.1 rfl 0 rfl rfl ?_
    obtain rfl := Option.some.inj hf
    exact J_iret hK hR qd1_25.2.2.2.2.2.2.2.2.2.2.1 () rfl (by decide) (by decide)
  have lo3 : ∀ (k : Nat) (z4 : Int32) (z5 : Int32), lp (u2 (fX4_linesBearing_s8 p2 x0_left x1_lineCount)) k (z4, z5) = some e6 → J d Φ 5 [gTr d h0 a0_ways x0_left x0_earned x0_turnCost x0_turnWayless, gLd d h1 x1_lineCount x1_goodsCount x1_workCount x1_years x1_lines x1_goods x1_works x1_change x1_coin x1_knownFree x1_isKnown] 0 0 8 [(0, .ref (h0 0)), (1, .ref (h1 0)), (2, .int p2), (3, .int z4), (4, .int z5)] [] := by
    intro k
    induction k with
    | zero => intro z4 z5 h; cases h
    | succ k ih3 =>
      intro z4 z5 h
      obtain ⟨k2, rr3, hk2, hs3, hr3⟩ := lp_ok h
      cases hk2
      have hs3 : fX4_linesBearing_s8 p2 x0_left x1_lineCount z4 z5 = some rr3 := hs3
      unfold fX4_linesBearing_s8 at hs3
      refine J_iload hK qd1_24.2.2.2.2.2.1 rfl 4 rfl ?_
      refine J_aload_n hK qd1_24.2.2.2.2.2.2.1 rfl 1 rfl rfl ?_
      refine J_get hK fo_RX4_57 qd1_24.2.2.2.2.2.2.2.1 rfl 1 0 rfl rfl rfl ?_
      refine J_icmp_ge (tg := 43) hK qd1_24.2.2.2.2.2.2.2.2.1 rfl rfl (fun hc14 => ?_) (fun hc14 => ?_)
      · have hs3 := ip hc14 hs3
        exact J_loc [3] rfl (hx3_43 z4 (lpx hs3 hr3))
      · have hs3 := iq hc14 hs3
        refine J_aload_n hK qd1_24.2.2.2.2.2.2.2.2.2.1 rfl 0 rfl rfl ?_
        refine J_get hK fo_RX4_18 qd1_24.2.2.2.2.2.2.2.2.2.2.1 rfl 0 0 rfl rfl rfl ?_
        refine J_iload hK qd1_24.2.2.2.2.2.2.2.2.2.2.2.1 rfl 4 rfl ?_
        obtain ⟨v8, ev8, hs3⟩ := bs hs3
        refine J_iald hK qd1_24.2.2.2.2.2.2.2.2.2.2.2.2.1 rfl 0 1 rfl rfl ev8 ?_
        refine J_iload_n hK qd1_24.2.2.2.2.2.2.2.2.2.2.2.2.2.1 rfl 2 rfl rfl ?_
        refine J_icmp_ge (tg := 37) hK qd1_24.2.2.2.2.2.2.2.2.2.2.2.2.2.2.1 rfl rfl (fun hc25 => ?_) (fun hc25 => ?_)
        · have hs3 := ip hc25 hs3
          refine J_iinc (L' := [(4, .int (z5 + 1)), (0, .ref (h0 0)), (1, .ref (h1 0)), (2, .int p2), (3, .int z4)]) (v := (z5 + 1)) hK qd1_25.2.2.2.2.2.2.2.1 rfl 4 rfl rfl (by decide) rfl ?_
          refine J_goto hK qd1_25.2.2.2.2.2.2.2.2.1 (n := 8) rfl ?_
          exact J_loc [1, 2, 3, 4, 0] rfl (ih3 z4 (z5 + 1) (lpc hs3 hr3))
        · have hs3 := iq hc25 hs3
          refine J_iload_n hK qd1_24.2.2.2.2.2.2.2.2.2.2.2.2.2.2.2.1 rfl 3 rfl rfl ?_
          refine J_iconst (v := 1) hK qd1_25.1 rfl (by decide) ?_
          refine J_iload hK qd1_25.2.1 rfl 4 rfl ?_
          refine J_ishl hK qd1_25.2.2.1 rfl ?_
          refine J_iconst (v := (-1)) hK qd1_25.2.2.2.1 rfl (by decide) ?_
          refine J_ixor hK qd1_25.2.2.2.2.1 rfl ?_
          refine J_iand hK qd1_25.2.2.2.2.2.1 rfl ?_
          obtain ⟨t9, et9, hs3⟩ := bs hs3
          refine J_nmi et9 ?_
          refine J_istore_n (L' := [(3, .int t9), (0, .ref (h0 0)), (1, .ref (h1 0)), (2, .int p2), (4, .int z5)]) hK qd1_25.2.2.2.2.2.2.1 rfl rfl (by decide) rfl ?_
          refine J_iinc (L' := [(4, .int (z5 + 1)), (3, .int t9), (0, .ref (h0 0)), (1, .ref (h1 0)), (2, .int p2)]) (v := (z5 + 1)) hK qd1_25.2.2.2.2.2.2.2.1 rfl 4 rfl rfl (by decide) rfl ?_
          refine J_goto hK qd1_25.2.2.2.2.2.2.2.2.1 (n := 8) rfl ?_
          exact J_loc [2, 3, 4, 1, 0] rfl (ih3 t9 (z5 + 1) (lpc hs3 hr3))
  exact J_loc [2, 3, 4, 1, 0] rfl (lo3 n v1 (0) hl3)

def fX4_load_s2 (p1 : Int32) (x1_edgeA : (Nat → Int32)) (x1_edgeB : (Nat → Int32)) (x1_edgeCost : (Nat → Int32)) (x1_edgeLine : (Nat → Int32)) (x1_change : (Nat → Int32)) (x1_away : (Nat → Int32)) (x1_steps : (Nat → Int32)) (x1_nodes : (Nat → Int32)) (x1_stepCount : Int32) (x1_open : (Nat → Int32)) (x1_openCount : Int32) (x1_seen : Int64) (x1_edgeCount : Int32) (x1_aim : Int32) (z2 : Int32) (z3 : (Nat → Int32)) : Option ((Int32 × (Nat → Int32)) ⊕ ((Nat → Int32))) :=
  if x1_stepCount ≤ z2 then (some (.inr z3)) else ((fX5_lineOn (x1_edgeA, x1_edgeB, x1_edgeCost, x1_edgeLine, x1_change, x1_away, x1_steps, x1_nodes, x1_stepCount, x1_open, x1_openCount, x1_seen, x1_edgeCount, x1_aim) z2).bind (fun v6 => if v6 = (-1) then (some (.inl ((z2 + 1), z3))) else ((rd 20 z3 v6).bind fun v8 => (wr 20 z3 v6 (mmax (0) (v8 - p1))).bind fun f9 => some (.inl ((z2 + 1), f9)))))
def fX4_load (n : Nat) (X0 : TrT) (X1 : WyT) (p1 : Int32) : Option ((Nat → Int32)) :=
  u4 (fun (x0_left : (Nat → Int32)) (x0_earned : (Nat → Int32)) (x0_turnCost : Int32) (x0_turnWayless : Int32) => u14 (fun (x1_edgeA : (Nat → Int32)) (x1_edgeB : (Nat → Int32)) (x1_edgeCost : (Nat → Int32)) (x1_edgeLine : (Nat → Int32)) (x1_change : (Nat → Int32)) (x1_away : (Nat → Int32)) (x1_steps : (Nat → Int32)) (x1_nodes : (Nat → Int32)) (x1_stepCount : Int32) (x1_open : (Nat → Int32)) (x1_openCount : Int32) (x1_seen : Int64) (x1_edgeCount : Int32) (x1_aim : Int32) => (lp (u2 (fX4_load_s2 p1 x1_edgeA x1_edgeB x1_edgeCost x1_edgeLine x1_change x1_away x1_steps x1_nodes x1_stepCount x1_open x1_openCount x1_seen x1_edgeCount x1_aim)) n (1, x0_left)).bind (fun w5 => some w5)) X1) X0
set_option maxHeartbeats 4000000 in
set_option maxRecDepth 100000 in
theorem kX4_load (l : Launch) (d : DT) (h0 : Nat → Nat) (h1 : Nat → Nat) (n : Nat) (x0_left : (Nat → Int32)) (x0_earned : (Nat → Int32)) (x0_turnCost : Int32) (x0_turnWayless : Int32) (x1_edgeA : (Nat → Int32)) (x1_edgeB : (Nat → Int32)) (x1_edgeCost : (Nat → Int32)) (x1_edgeLine : (Nat → Int32)) (x1_change : (Nat → Int32)) (x1_away : (Nat → Int32)) (x1_steps : (Nat → Int32)) (x1_nodes : (Nat → Int32)) (x1_stepCount : Int32) (x1_open : (Nat → Int32)) (x1_openCount : Int32) (x1_seen : Int64) (x1_edgeCount : Int32) (x1_aim : Int32) (p1 : Int32)  {out : (Nat → Int32)} (hf : fX4_load n (x0_left, x0_earned, x0_turnCost, x0_turnWayless) (x1_edgeA, x1_edgeB, x1_edgeCost, x1_edgeLine, x1_change, x1_away, x1_steps, x1_nodes, x1_stepCount, x1_open, x1_openCount, x1_seen, x1_edgeCount, x1_aim) p1 = some out) : Ct l d yX4_load cX4_load 4 none { frames := 2, cells := 0, slots := 0, locals := 43 } [.ref (h0 0), .int p1] [gTr d h0 (h1 0) x0_left x0_earned x0_turnCost x0_turnWayless, gWy d h1 x1_edgeA x1_edgeB x1_edgeCost x1_edgeLine x1_change x1_away x1_steps x1_nodes x1_stepCount x1_open x1_openCount x1_seen x1_edgeCount x1_aim] (fun _ : Unit => (none, [gTr d h0 (h1 0) out x0_earned x0_turnCost x0_turnWayless, gWy d h1 x1_edgeA x1_edgeB x1_edgeCost x1_edgeLine x1_change x1_away x1_steps x1_nodes x1_stepCount x1_open x1_openCount x1_seen x1_edgeCount x1_aim])) := by
  refine Ct.of (by decide) (Nat.le_of_ble_eq_true rfl) ?_
  intro Φ hl hK hR
  subst hl
  have hK : Ok d Φ RX4 "load" cX4_load 4 none { frames := 2, cells := 0, slots := 0, locals := 43 } := hK
  unfold fX4_load at hf
  have hf := un4 hf
  have hf := un14 hf
  show J d Φ 4 [gTr d h0 (h1 0) x0_left x0_earned x0_turnCost x0_turnWayless, gWy d h1 x1_edgeA x1_edgeB x1_edgeCost x1_edgeLine x1_change x1_away x1_steps x1_nodes x1_stepCount x1_open x1_openCount x1_seen x1_edgeCount x1_aim] 0 0 0 [(0, .ref (h0 0)), (1, .int p1)] []
  refine J_iconst (v := 1) hK qd1_26.1 rfl (by decide) ?_
  refine J_istore_n (L' := [(2, .int (1)), (0, .ref (h0 0)), (1, .int p1)]) hK qd1_26.2.1 rfl rfl (by decide) rfl ?_
  obtain ⟨e4, hl1, hf⟩ := bs hf
  have hx1_51 : ∀ (w5 : (Nat → Int32)), w5 = e4 → J d Φ 4 [gTr d h0 (h1 0) w5 x0_earned x0_turnCost x0_turnWayless, gWy d h1 x1_edgeA x1_edgeB x1_edgeCost x1_edgeLine x1_change x1_away x1_steps x1_nodes x1_stepCount x1_open x1_openCount x1_seen x1_edgeCount x1_aim] 0 0 51 [] [] := by
    intro w5 he
    rw [← he] at hf
    obtain rfl := Option.some.inj hf
    exact J_vret hK hR qd1_27.2.2.2.2.2.2.2.2.2.2.2.2.2.1 () rfl (by decide) (by decide)
  have lo1 : ∀ (k : Nat) (z2 : Int32) (z3 : (Nat → Int32)), lp (u2 (fX4_load_s2 p1 x1_edgeA x1_edgeB x1_edgeCost x1_edgeLine x1_change x1_away x1_steps x1_nodes x1_stepCount x1_open x1_openCount x1_seen x1_edgeCount x1_aim)) k (z2, z3) = some e4 → J d Φ 4 [gTr d h0 (h1 0) z3 x0_earned x0_turnCost x0_turnWayless, gWy d h1 x1_edgeA x1_edgeB x1_edgeCost x1_edgeLine x1_change x1_away x1_steps x1_nodes x1_stepCount x1_open x1_openCount x1_seen x1_edgeCount x1_aim] 0 0 2 [(0, .ref (h0 0)), (1, .int p1), (2, .int z2)] [] := by
    intro k
    induction k with
    | zero => intro z2 z3 h; cases h
    | succ k ih1 =>
      intro z2 z3 h
      obtain ⟨k2, rr1, hk2, hs1, hr1⟩ := lp_ok h
      cases hk2
      have hs1 : fX4_load_s2 p1 x1_edgeA x1_edgeB x1_edgeCost x1_edgeLine x1_change x1_away x1_steps x1_nodes x1_stepCount x1_open x1_openCount x1_seen x1_edgeCount x1_aim z2 z3 = some rr1 := hs1
      unfold fX4_load_s2 at hs1
      refine J_iload_n hK qd1_26.2.2.1 rfl 2 rfl rfl ?_
      refine J_aload_n hK qd1_26.2.2.2.1 rfl 0 rfl rfl ?_
      refine J_get hK fo_RX4_12 qd1_26.2.2.2.2.1 rfl 0 0 rfl rfl rfl ?_
      refine J_get hK fo_RX4_74 qd1_26.2.2.2.2.2.1 rfl 1 0 rfl rfl rfl ?_
      refine J_icmp_ge (tg := 51) hK qd1_26.2.2.2.2.2.2.1 rfl rfl (fun hc10 => ?_) (fun hc10 => ?_)
      · have hs1 := ip hc10 hs1
        exact J_loc [] rfl (hx1_51 z3 (lpx hs1 hr1))
      · have hs1 := iq hc10 hs1
        refine J_aload_n hK qd1_26.2.2.2.2.2.2.2.1 rfl 0 rfl rfl ?_
        refine J_get hK fo_RX4_12 qd1_26.2.2.2.2.2.2.2.2.1 rfl 0 0 rfl rfl rfl ?_
        refine J_iload_n hK qd1_26.2.2.2.2.2.2.2.2.2.1 rfl 2 rfl rfl ?_
        obtain ⟨v6, e7, hs1⟩ := bs hs1
        refine J_callV (m := 2) (m' := 2) (ce' := 0) (sl' := 0) (gr := [gTr d h0 (h1 0) z3 x0_earned x0_turnCost x0_turnWayless]) (gs' := fun _ => [gTr d h0 (h1 0) z3 x0_earned x0_turnCost x0_turnWayless, gWy d h1 x1_edgeA x1_edgeB x1_edgeCost x1_edgeLine x1_change x1_away x1_steps x1_nodes x1_stepCount x1_open x1_openCount x1_seen x1_edgeCount x1_aim]) (st' := fun _ => [.int v6]) (st := []) hK qd1_26.2.2.2.2.2.2.2.2.2.2.1 cv_RX4_77 iv_yX5_lineOn (As := [.int z2]) (kX5_lineOn _ d h1 x1_edgeA x1_edgeB x1_edgeCost x1_edgeLine x1_change x1_away x1_steps x1_nodes x1_stepCount x1_open x1_openCount x1_seen x1_edgeCount x1_aim z2 e7) rfl rfl (Nat.le_of_ble_eq_true rfl) (by decide) 1 0 rfl rfl rfl [1] [0] rfl (by decide +kernel) rfl rfl [0, 1] (by decide +kernel) (fun _ => rfl) (fun _ => rfl) rfl rfl rfl (fun _ => rfl) (fun _ => ?_)
        refine J_istore_n (L' := [(3, .int v6), (0, .ref (h0 0)), (1, .int p1), (2, .int z2)]) hK qd1_26.2.2.2.2.2.2.2.2.2.2.2.1 rfl rfl (by decide) rfl ?_
        refine J_iload_n hK qd1_26.2.2.2.2.2.2.2.2.2.2.2.2.1 rfl 0 rfl rfl ?_
        refine J_iconst (v := (-1)) hK qd1_26.2.2.2.2.2.2.2.2.2.2.2.2.2.1 rfl (by decide) ?_
        refine J_icmp_eq (tg := 45) hK qd1_26.2.2.2.2.2.2.2.2.2.2.2.2.2.2.1 rfl rfl (fun hc24 => ?_) (fun hc24 => ?_)
        · have hs1 := ip hc24 hs1
          refine J_iinc (L' := [(2, .int (z2 + 1)), (3, .int v6), (0, .ref (h0 0)), (1, .int p1)]) (v := (z2 + 1)) hK qd1_27.2.2.2.2.2.2.2.2.2.2.2.1 rfl 3 rfl rfl (by decide) rfl ?_
          refine J_goto hK qd1_27.2.2.2.2.2.2.2.2.2.2.2.2.1 (n := 2) rfl ?_
          exact J_loc [2, 3, 0] rfl (ih1 (z2 + 1) z3 (lpc hs1 hr1))
        · have hs1 := iq hc24 hs1
          refine J_aload_n hK qd1_26.2.2.2.2.2.2.2.2.2.2.2.2.2.2.2.1 rfl 1 rfl rfl ?_
          refine J_get hK fo_RX4_18 qd1_27.1 rfl 0 0 rfl rfl rfl ?_
          refine J_iload_n hK qd1_27.2.1 rfl 0 rfl rfl ?_
          refine J_iconst (v := 0) hK qd1_27.2.2.1 rfl (by decide) ?_
          refine J_aload_n hK qd1_27.2.2.2.1 rfl 1 rfl rfl ?_
          refine J_get hK fo_RX4_18 qd1_27.2.2.2.2.1 rfl 0 0 rfl rfl rfl ?_
          refine J_iload_n hK qd1_27.2.2.2.2.2.1 rfl 0 rfl rfl ?_
          obtain ⟨v8, ev8, hs1⟩ := bs hs1
          refine J_iald hK qd1_27.2.2.2.2.2.2.1 rfl 0 1 rfl rfl ev8 ?_
          refine J_iload_n hK qd1_27.2.2.2.2.2.2.2.1 rfl 2 rfl rfl ?_
          refine J_isub hK qd1_27.2.2.2.2.2.2.2.2.1 rfl ?_
          refine J_max hK qd1_27.2.2.2.2.2.2.2.2.2.1 rfl mm_RX4_80 (by decide) (Nat.le_of_ble_eq_true rfl) (by decide) (by decide) ?_
          obtain ⟨f9, ef9, hs1⟩ := bs hs1
          refine J_iast (g' := gTr d h0 (h1 0) f9 x0_earned x0_turnCost x0_turnWayless) (gs' := [gTr d h0 (h1 0) f9 x0_earned x0_turnCost x0_turnWayless, gWy d h1 x1_edgeA x1_edgeB x1_edgeCost x1_edgeLine x1_change x1_away x1_steps x1_nodes x1_stepCount x1_open x1_openCount x1_seen x1_edgeCount x1_aim]) hK qd1_27.2.2.2.2.2.2.2.2.2.2.1 rfl 0 1 rfl rfl ef9 rfl rfl ?_
          refine J_iinc (L' := [(2, .int (z2 + 1)), (3, .int v6), (0, .ref (h0 0)), (1, .int p1)]) (v := (z2 + 1)) hK qd1_27.2.2.2.2.2.2.2.2.2.2.2.1 rfl 3 rfl rfl (by decide) rfl ?_
          refine J_goto hK qd1_27.2.2.2.2.2.2.2.2.2.2.2.2.1 (n := 2) rfl ?_
          exact J_loc [2, 3, 0] rfl (ih1 (z2 + 1) f9 (lpc hs1 hr1))
  exact J_loc [1, 2, 0] rfl (lo1 n (1) x0_left hl1)

def fX4_sendInTurn_s40 (n : Nat) (x0_earned : (Nat → Int32)) (x2_lineCount : Int32) (x2_goodsCount : Int32) (x2_workCount : Int32) (x2_years : Int32) (x2_lines : (Nat → Int32)) (x2_goods : (Nat → Int32)) (x2_works : (Nat → Int32)) (x2_change : (Nat → Int32)) (x2_coin : (Nat → Int32)) (x2_knownFree : (Nat → Int32)) (x2_isKnown : Int32) (z7 : Int32) (z8 : (Nat → Int32)) (z9 : Int32) (z10 : Int32) (z11 : (Nat → Int32)) (z12 : (Nat → Int32)) (z13 : (Nat → Int32)) (z14 : (Nat → Int32)) (z15 : (Nat → Int32)) (z16 : (Nat → Int32)) (z17 : (Nat → Int32)) (z18 : (Nat → Int32)) (z19 : Int32) (z20 : (Nat → Int32)) (z21 : Int32) (z22 : Int64) (z23 : Int32) (z24 : Int32) : Option ((Int32 × (Nat → Int32) × Int32 × Int32 × (Nat → Int32) × (Nat → Int32) × (Nat → Int32) × (Nat → Int32) × (Nat → Int32) × (Nat → Int32) × (Nat → Int32) × (Nat → Int32) × Int32 × (Nat → Int32) × Int32 × Int64 × Int32 × Int32) ⊕ ((Nat → Int32) × Int32 × Int32 × (Nat → Int32) × (Nat → Int32) × (Nat → Int32) × (Nat → Int32) × (Nat → Int32) × (Nat → Int32) × (Nat → Int32) × (Nat → Int32) × Int32 × (Nat → Int32) × Int32 × Int64 × Int32 × Int32)) :=
  if x2_goodsCount ≤ z7 then (some (.inr (z8, z9, z10, z11, z12, z13, z14, z15, z16, z17, z18, z19, z20, z21, z22, z23, z24))) else ((fX1_ofGoods (x2_lineCount, x2_goodsCount, x2_workCount, x2_years, x2_lines, x2_goods, x2_works, x2_change, x2_coin, x2_knownFree, x2_isKnown) z7 (2)).bind (fun v43 => (fX1_ofGoods (x2_lineCount, x2_goodsCount, x2_workCount, x2_years, x2_lines, x2_goods, x2_works, x2_change, x2_coin, x2_knownFree, x2_isKnown) z7 (0)).bind (fun v45 => (fX1_ofGoods (x2_lineCount, x2_goodsCount, x2_workCount, x2_years, x2_lines, x2_goods, x2_works, x2_change, x2_coin, x2_knownFree, x2_isKnown) z7 (1)).bind (fun v47 => (fX4_linesBearing n (z8, x0_earned, z9, z10) (x2_lineCount, x2_goodsCount, x2_workCount, x2_years, x2_lines, x2_goods, x2_works, x2_change, x2_coin, x2_knownFree, x2_isKnown) v43).bind (fun v49 => (fX5_prepare n (z11, z12, z13, z14, z15, z16, z17, z18, z19, z20, z21, z22, z23, z24) (x2_lineCount, x2_goodsCount, x2_workCount, x2_years, x2_lines, x2_goods, x2_works, x2_change, x2_coin, x2_knownFree, x2_isKnown) v49).bind (fun G51 => u7 (fun g52 g53 g54 g55 g56 g57 g58 => (fX5_trace n (g52, g53, g54, g55, g56, z16, z17, z18, z19, z20, z21, z22, g57, g58) v45 v47).bind (u2 fun v60 G61 => u8 (fun g62 g63 g64 g65 g66 g67 g68 g69 => if v60 = 0 then (some (.inl ((z7 + 1), z8, (z9 + (v43 * 999)), (z10 + v43), g52, g53, g54, g55, g56, g62, g63, g64, g65, g66, g67, g68, g57, g69))) else ((fX5_costFrom n (g52, g53, g54, g55, g56, g62, g63, g64, g65, g66, g67, g68, g57, g69) v45).bind (fun v71 => (fX4_load n (z8, x0_earned, (z9 + (v43 * v71)), z10) (g52, g53, g54, g55, g56, g62, g63, g64, g65, g66, g67, g68, g57, g69) v43).bind (fun g73 => some (.inl ((z7 + 1), g73, (z9 + (v43 * v71)), z10, g52, g53, g54, g55, g56, g62, g63, g64, g65, g66, g67, g68, g57, g69)))))) G61)) G51))))))
def fX4_sendInTurn_s12 (x2_lineCount : Int32) (x2_goodsCount : Int32) (x2_workCount : Int32) (x2_years : Int32) (x2_lines : (Nat → Int32)) (x2_goods : (Nat → Int32)) (x2_works : (Nat → Int32)) (x2_change : (Nat → Int32)) (x2_coin : (Nat → Int32)) (x2_knownFree : (Nat → Int32)) (x2_isKnown : Int32) (z2 : Int32) (z3 : (Nat → Int32)) : Option ((Int32 × (Nat → Int32)) ⊕ ((Nat → Int32))) :=
  if x2_lineCount ≤ z2 then (some (.inr z3)) else ((fX1_ofLine (x2_lineCount, x2_goodsCount, x2_workCount, x2_years, x2_lines, x2_goods, x2_works, x2_change, x2_coin, x2_knownFree, x2_isKnown) z2 (4)).bind (fun v75 => (wr 20 z3 z2 v75).bind fun f77 => some (.inl ((z2 + 1), f77))))
def fX4_sendInTurn (n : Nat) (X0 : TrT) (X1 : WyT) (X2 : LdT) : Option ((Nat → Int32) × Int32 × Int32 × ((Nat → Int32) × (Nat → Int32) × (Nat → Int32) × (Nat → Int32) × (Nat → Int32) × (Nat → Int32) × (Nat → Int32) × (Nat → Int32) × Int32 × (Nat → Int32) × Int32 × Int64 × Int32 × Int32)) :=
  u4 (fun (x0_left : (Nat → Int32)) (x0_earned : (Nat → Int32)) (x0_turnCost : Int32) (x0_turnWayless : Int32) => u14 (fun (x1_edgeA : (Nat → Int32)) (x1_edgeB : (Nat → Int32)) (x1_edgeCost : (Nat → Int32)) (x1_edgeLine : (Nat → Int32)) (x1_change : (Nat → Int32)) (x1_away : (Nat → Int32)) (x1_steps : (Nat → Int32)) (x1_nodes : (Nat → Int32)) (x1_stepCount : Int32) (x1_open : (Nat → Int32)) (x1_openCount : Int32) (x1_seen : Int64) (x1_edgeCount : Int32) (x1_aim : Int32) => u11 (fun (x2_lineCount : Int32) (x2_goodsCount : Int32) (x2_workCount : Int32) (x2_years : Int32) (x2_lines : (Nat → Int32)) (x2_goods : (Nat → Int32)) (x2_works : (Nat → Int32)) (x2_change : (Nat → Int32)) (x2_coin : (Nat → Int32)) (x2_knownFree : (Nat → Int32)) (x2_isKnown : Int32) => (lp (u2 (fX4_sendInTurn_s12 x2_lineCount x2_goodsCount x2_workCount x2_years x2_lines x2_goods x2_works x2_change x2_coin x2_knownFree x2_isKnown)) n (0, x0_left)).bind (fun w5 => (lp (u18 (fX4_sendInTurn_s40 n x0_earned x2_lineCount x2_goodsCount x2_workCount x2_years x2_lines x2_goods x2_works x2_change x2_coin x2_knownFree x2_isKnown)) n (0, w5, 0, 0, x1_edgeA, x1_edgeB, x1_edgeCost, x1_edgeLine, x1_change, x1_away, x1_steps, x1_nodes, x1_stepCount, x1_open, x1_openCount, x1_seen, x1_edgeCount, x1_aim)).bind (u17 fun w26 w27 w28 w29 w30 w31 w32 w33 w34 w35 w36 w37 w38 w39 w40 w41 w42 => some (w26, w27, w28, (w29, w30, w31, w32, w33, w34, w35, w36, w37, w38, w39, w40, w41, w42))))) X2) X1) X0
set_option maxHeartbeats 4000000 in
set_option maxRecDepth 100000 in
theorem kX4_sendInTurn (l : Launch) (d : DT) (h0 : Nat → Nat) (h1 : Nat → Nat) (h2 : Nat → Nat) (n : Nat) (x0_left : (Nat → Int32)) (x0_earned : (Nat → Int32)) (x0_turnCost : Int32) (x0_turnWayless : Int32) (x1_edgeA : (Nat → Int32)) (x1_edgeB : (Nat → Int32)) (x1_edgeCost : (Nat → Int32)) (x1_edgeLine : (Nat → Int32)) (x1_change : (Nat → Int32)) (x1_away : (Nat → Int32)) (x1_steps : (Nat → Int32)) (x1_nodes : (Nat → Int32)) (x1_stepCount : Int32) (x1_open : (Nat → Int32)) (x1_openCount : Int32) (x1_seen : Int64) (x1_edgeCount : Int32) (x1_aim : Int32) (x2_lineCount : Int32) (x2_goodsCount : Int32) (x2_workCount : Int32) (x2_years : Int32) (x2_lines : (Nat → Int32)) (x2_goods : (Nat → Int32)) (x2_works : (Nat → Int32)) (x2_change : (Nat → Int32)) (x2_coin : (Nat → Int32)) (x2_knownFree : (Nat → Int32)) (x2_isKnown : Int32)  {out : (Nat → Int32) × Int32 × Int32 × ((Nat → Int32) × (Nat → Int32) × (Nat → Int32) × (Nat → Int32) × (Nat → Int32) × (Nat → Int32) × (Nat → Int32) × (Nat → Int32) × Int32 × (Nat → Int32) × Int32 × Int64 × Int32 × Int32)} (hf : fX4_sendInTurn n (x0_left, x0_earned, x0_turnCost, x0_turnWayless) (x1_edgeA, x1_edgeB, x1_edgeCost, x1_edgeLine, x1_change, x1_away, x1_steps, x1_nodes, x1_stepCount, x1_open, x1_openCount, x1_seen, x1_edgeCount, x1_aim) (x2_lineCount, x2_goodsCount, x2_workCount, x2_years, x2_lines, x2_goods, x2_works, x2_change, x2_coin, x2_knownFree, x2_isKnown) = some out) : Ct l d yX4_sendInTurn cX4_sendInTurn 6 none { frames := 5, cells := 0, slots := 0, locals := 131 } [.ref (h0 0), .ref (h2 0)] [gTr d h0 (h1 0) x0_left x0_earned x0_turnCost x0_turnWayless, gWy d h1 x1_edgeA x1_edgeB x1_edgeCost x1_edgeLine x1_change x1_away x1_steps x1_nodes x1_stepCount x1_open x1_openCount x1_seen x1_edgeCount x1_aim, gLd d h2 x2_lineCount x2_goodsCount x2_workCount x2_years x2_lines x2_goods x2_works x2_change x2_coin x2_knownFree x2_isKnown] (fun _ : Unit => (none, [gTr d h0 (h1 0) (out.1) x0_earned (out.2.1) (out.2.2.1), gWy d h1 (out.2.2.2.1) (out.2.2.2.2.1) (out.2.2.2.2.2.1) (out.2.2.2.2.2.2.1) (out.2.2.2.2.2.2.2.1) (out.2.2.2.2.2.2.2.2.1) (out.2.2.2.2.2.2.2.2.2.1) (out.2.2.2.2.2.2.2.2.2.2.1) (out.2.2.2.2.2.2.2.2.2.2.2.1) (out.2.2.2.2.2.2.2.2.2.2.2.2.1) (out.2.2.2.2.2.2.2.2.2.2.2.2.2.1) (out.2.2.2.2.2.2.2.2.2.2.2.2.2.2.1) (out.2.2.2.2.2.2.2.2.2.2.2.2.2.2.2.1) (out.2.2.2.2.2.2.2.2.2.2.2.2.2.2.2.2), gLd d h2 x2_lineCount x2_goodsCount x2_workCount x2_years x2_lines x2_goods x2_works x2_change x2_coin x2_knownFree x2_isKnown])) := by
  refine Ct.of (by decide) (Nat.le_of_ble_eq_true rfl) ?_
  intro Φ hl hK hR
  subst hl
  have hK : Ok d Φ RX4 "sendInTurn" cX4_sendInTurn 6 none { frames := 5, cells := 0, slots := 0, locals := 131 } := hK
  unfold fX4_sendInTurn at hf
  have hf := un4 hf
  have hf := un14 hf
  have hf := un11 hf
  show J d Φ 6 [gTr d h0 (h1 0) x0_left x0_earned x0_turnCost x0_turnWayless, gWy d h1 x1_edgeA x1_edgeB x1_edgeCost x1_edgeLine x1_change x1_away x1_steps x1_nodes x1_stepCount x1_open x1_openCount x1_seen x1_edgeCount x1_aim, gLd d h2 x2_lineCount x2_goodsCount x2_workCount x2_years x2_lines x2_goods x2_works x2_change x2_coin x2_knownFree x2_isKnown] 0 0 0 [(0, .ref (h0 0)), (1, .ref (h2 0))] []
  refine J_aload_n hK qd1_18.1 rfl 0 rfl rfl ?_
  refine J_iconst (v := 0) hK qd1_18.2.1 rfl (by decide) ?_
  refine J_put (g' := gTr d h0 (h1 0) x0_left x0_earned (0) x0_turnWayless) (gs' := [gTr d h0 (h1 0) x0_left x0_earned (0) x0_turnWayless, gWy d h1 x1_edgeA x1_edgeB x1_edgeCost x1_edgeLine x1_change x1_away x1_steps x1_nodes x1_stepCount x1_open x1_openCount x1_seen x1_edgeCount x1_aim, gLd d h2 x2_lineCount x2_goodsCount x2_workCount x2_years x2_lines x2_goods x2_works x2_change x2_coin x2_knownFree x2_isKnown]) hK fp_RX4_51 qd1_18.2.2.1 rfl 0 0 rfl rfl rfl rfl (Nat.le_of_ble_eq_true rfl) rfl rfl ?_
  refine J_aload_n hK qd1_18.2.2.2.1 rfl 0 rfl rfl ?_
  refine J_iconst (v := 0) hK qd1_18.2.2.2.2.1 rfl (by decide) ?_
  refine J_put (g' := gTr d h0 (h1 0) x0_left x0_earned (0) (0)) (gs' := [gTr d h0 (h1 0) x0_left x0_earned (0) (0), gWy d h1 x1_edgeA x1_edgeB x1_edgeCost x1_edgeLine x1_change x1_away x1_steps x1_nodes x1_stepCount x1_open x1_openCount x1_seen x1_edgeCount x1_aim, gLd d h2 x2_lineCount x2_goodsCount x2_workCount x2_years x2_lines x2_goods x2_works x2_change x2_coin x2_knownFree x2_isKnown]) hK fp_RX4_54 qd1_18.2.2.2.2.2.1 rfl 0 0 rfl rfl rfl rfl (Nat.le_of_ble_eq_true rfl) rfl rfl ?_
  refine J_iconst (v := 0) hK qd1_18.2.2.2.2.2.2.1 rfl (by decide) ?_
  refine J_istore_n (L' := [(2, .int (0)), (0, .ref (h0 0)), (1, .ref (h2 0))]) hK qd1_18.2.2.2.2.2.2.2.1 rfl rfl (by decide) rfl ?_
  obtain ⟨e4, hl1, hf⟩ := bs hf
  have hx1_38 : ∀ (w5 : (Nat → Int32)), w5 = e4 → J d Φ 6 [gTr d h0 (h1 0) w5 x0_earned (0) (0), gWy d h1 x1_edgeA x1_edgeB x1_edgeCost x1_edgeLine x1_change x1_away x1_steps x1_nodes x1_stepCount x1_open x1_openCount x1_seen x1_edgeCount x1_aim, gLd d h2 x2_lineCount x2_goodsCount x2_workCount x2_years x2_lines x2_goods x2_works x2_change x2_coin x2_knownFree x2_isKnown] 0 0 38 [(0, .ref (h0 0)), (1, .ref (h2 0))] [] := by
    intro w5 he
    rw [← he] at hf
    refine J_iconst (v := 0) hK qd1_19.2.2.2.2.2.2.1 rfl (by decide) ?_
    refine J_istore_n (L' := [(2, .int (0)), (0, .ref (h0 0)), (1, .ref (h2 0))]) hK qd1_19.2.2.2.2.2.2.2.1 rfl rfl (by decide) rfl ?_
    obtain ⟨e25, hl6, hf⟩ := bs hf
    have hx6_157 : ∀ (w26 : (Nat → Int32)) (w27 : Int32) (w28 : Int32) (w29 : (Nat → Int32)) (w30 : (Nat → Int32)) (w31 : (Nat → Int32)) (w32 : (Nat → Int32)) (w33 : (Nat → Int32)) (w34 : (Nat → Int32)) (w35 : (Nat → Int32)) (w36 : (Nat → Int32)) (w37 : Int32) (w38 : (Nat → Int32)) (w39 : Int32) (w40 : Int64) (w41 : Int32) (w42 : Int32), (w26, w27, w28, w29, w30, w31, w32, w33, w34, w35, w36, w37, w38, w39, w40, w41, w42) = e25 → J d Φ 6 [gTr d h0 (h1 0) w26 x0_earned w27 w28, gWy d h1 w29 w30 w31 w32 w33 w34 w35 w36 w37 w38 w39 w40 w41 w42, gLd d h2 x2_lineCount x2_goodsCount x2_workCount x2_years x2_lines x2_goods x2_works x2_change x2_coin x2_knownFree x2_isKnown] 0 0 157 [] [] := by
      intro w26 w27 w28 w29 w30 w31 w32 w33 w34 w35 w36 w37 w38 w39 w40 w41 w42 he
      rw [← he] at hf
      have hf := un17 hf
      obtain rfl := Option.some.inj hf
      exact J_vret hK hR qd1_23.2.2.2.2.2.2.2.2.1 () rfl (by decide) (by decide)
    have lo6 : ∀ (k : Nat) (z7 : Int32) (z8 : (Nat → Int32)) (z9 : Int32) (z10 : Int32) (z11 : (Nat → Int32)) (z12 : (Nat → Int32)) (z13 : (Nat → Int32)) (z14 : (Nat → Int32)) (z15 : (Nat → Int32)) (z16 : (Nat → Int32)) (z17 : (Nat → Int32)) (z18 : (Nat → Int32)) (z19 : Int32) (z20 : (Nat → Int32)) (z21 : Int32) (z22 : Int64) (z23 : Int32) (z24 : Int32), lp (u18 (fX4_sendInTurn_s40 n x0_earned x2_lineCount x2_goodsCount x2_workCount x2_years x2_lines x2_goods x2_works x2_change x2_coin x2_knownFree x2_isKnown)) k (z7, z8, z9, z10, z11, z12, z13, z14, z15, z16, z17, z18, z19, z20, z21, z22, z23, z24) = some e25 → J d Φ 6 [gTr d h0 (h1 0) z8 x0_earned z9 z10, gWy d h1 z11 z12 z13 z14 z15 z16 z17 z18 z19 z20 z21 z22 z23 z24, gLd d h2 x2_lineCount x2_goodsCount x2_workCount x2_years x2_lines x2_goods x2_works x2_change x2_coin x2_knownFree x2_isKnown] 0 0 40 [(0, .ref (h0 0)), (1, .ref (h2 0)), (2, .int z7)] [] := by
      intro k
      induction k with
      | zero => intro z7 z8 z9 z10 z11 z12 z13 z14 z15 z16 z17 z18 z19 z20 z21 z22 z23 z24 h; cases h
      | succ k ih6 =>
        intro z7 z8 z9 z10 z11 z12 z13 z14 z15 z16 z17 z18 z19 z20 z21 z22 z23 z24 h
        obtain ⟨k2, rr6, hk2, hs6, hr6⟩ := lp_ok h
        cases hk2
        have hs6 : fX4_sendInTurn_s40 n x0_earned x2_lineCount x2_goodsCount x2_workCount x2_years x2_lines x2_goods x2_works x2_change x2_coin x2_knownFree x2_isKnown z7 z8 z9 z10 z11 z12 z13 z14 z15 z16 z17 z18 z19 z20 z21 z22 z23 z24 = some rr6 := hs6
        unfold fX4_sendInTurn_s40 at hs6
        refine J_iload_n hK qd1_19.2.2.2.2.2.2.2.2.1 rfl 2 rfl rfl ?_
        refine J_aload_n hK qd1_19.2.2.2.2.2.2.2.2.2.1 rfl 1 rfl rfl ?_
        refine J_get hK fo_RX4_43 qd1_19.2.2.2.2.2.2.2.2.2.2.1 rfl 2 0 rfl rfl rfl ?_
        refine J_icmp_ge (tg := 157) hK qd1_19.2.2.2.2.2.2.2.2.2.2.2.1 rfl rfl (fun hc45 => ?_) (fun hc45 => ?_)
        · have hs6 := ip hc45 hs6
          exact J_loc [] rfl (hx6_157 z8 z9 z10 z11 z12 z13 z14 z15 z16 z17 z18 z19 z20 z21 z22 z23 z24 (lpx hs6 hr6))
        · have hs6 := iq hc45 hs6
          refine J_aload_n hK qd1_19.2.2.2.2.2.2.2.2.2.2.2.2.1 rfl 1 rfl rfl ?_
          refine J_iload_n hK qd1_19.2.2.2.2.2.2.2.2.2.2.2.2.2.1 rfl 2 rfl rfl ?_
          refine J_iconst (v := 2) hK qd1_19.2.2.2.2.2.2.2.2.2.2.2.2.2.2.1 rfl (by decide) ?_
          obtain ⟨v43, e44, hs6⟩ := bs hs6
          refine J_callV (m := 3) (m' := 3) (ce' := 0) (sl' := 0) (gr := [gTr d h0 (h1 0) z8 x0_earned z9 z10, gWy d h1 z11 z12 z13 z14 z15 z16 z17 z18 z19 z20 z21 z22 z23 z24]) (gs' := fun _ => [gTr d h0 (h1 0) z8 x0_earned z9 z10, gWy d h1 z11 z12 z13 z14 z15 z16 z17 z18 z19 z20 z21 z22 z23 z24, gLd d h2 x2_lineCount x2_goodsCount x2_workCount x2_years x2_lines x2_goods x2_works x2_change x2_coin x2_knownFree x2_isKnown]) (st' := fun _ => [.int v43]) (st := []) hK qd1_19.2.2.2.2.2.2.2.2.2.2.2.2.2.2.2.1 cv_RX4_47 iv_yX1_ofGoods (As := [.int z7, .int (2)]) (kX1_ofGoods _ d h2 x2_lineCount x2_goodsCount x2_workCount x2_years x2_lines x2_goods x2_works x2_change x2_coin x2_knownFree x2_isKnown z7 (2) e44) rfl rfl (Nat.le_of_ble_eq_true rfl) (by decide) 2 0 rfl rfl rfl [2] [0, 1] rfl (by decide +kernel) rfl rfl [0, 1, 2] (by decide +kernel) (fun _ => rfl) (fun _ => rfl) rfl rfl rfl (fun _ => rfl) (fun _ => ?_)
          refine J_istore_n (L' := [(3, .int v43), (0, .ref (h0 0)), (1, .ref (h2 0)), (2, .int z7)]) hK qd1_20.1 rfl rfl (by decide) rfl ?_
          refine J_aload_n hK qd1_20.2.1 rfl 2 rfl rfl ?_
          refine J_iload_n hK qd1_20.2.2.1 rfl 3 rfl rfl ?_
          refine J_iconst (v := 0) hK qd1_20.2.2.2.1 rfl (by decide) ?_
          obtain ⟨v45, e46, hs6⟩ := bs hs6
          refine J_callV (m := 3) (m' := 3) (ce' := 0) (sl' := 0) (gr := [gTr d h0 (h1 0) z8 x0_earned z9 z10, gWy d h1 z11 z12 z13 z14 z15 z16 z17 z18 z19 z20 z21 z22 z23 z24]) (gs' := fun _ => [gTr d h0 (h1 0) z8 x0_earned z9 z10, gWy d h1 z11 z12 z13 z14 z15 z16 z17 z18 z19 z20 z21 z22 z23 z24, gLd d h2 x2_lineCount x2_goodsCount x2_workCount x2_years x2_lines x2_goods x2_works x2_change x2_coin x2_knownFree x2_isKnown]) (st' := fun _ => [.int v45]) (st := []) hK qd1_20.2.2.2.2.1 cv_RX4_47 iv_yX1_ofGoods (As := [.int z7, .int (0)]) (kX1_ofGoods _ d h2 x2_lineCount x2_goodsCount x2_workCount x2_years x2_lines x2_goods x2_works x2_change x2_coin x2_knownFree x2_isKnown z7 (0) e46) rfl rfl (Nat.le_of_ble_eq_true rfl) (by decide) 2 0 rfl rfl rfl [2] [0, 1] rfl (by decide +kernel) rfl rfl [0, 1, 2] (by decide +kernel) (fun _ => rfl) (fun _ => rfl) rfl rfl rfl (fun _ => rfl) (fun _ => ?_)
          refine J_istore (L' := [(4, .int v45), (3, .int v43), (0, .ref (h0 0)), (1, .ref (h2 0)), (2, .int z7)]) hK qd1_20.2.2.2.2.2.1 rfl (by decide) rfl ?_
          refine J_aload_n hK qd1_20.2.2.2.2.2.2.1 rfl 3 rfl rfl ?_
          refine J_iload_n hK qd1_20.2.2.2.2.2.2.2.1 rfl 4 rfl rfl ?_
          refine J_iconst (v := 1) hK qd1_20.2.2.2.2.2.2.2.2.1 rfl (by decide) ?_
          obtain ⟨v47, e48, hs6⟩ := bs hs6
          refine J_callV (m := 3) (m' := 3) (ce' := 0) (sl' := 0) (gr := [gTr d h0 (h1 0) z8 x0_earned z9 z10, gWy d h1 z11 z12 z13 z14 z15 z16 z17 z18 z19 z20 z21 z22 z23 z24]) (gs' := fun _ => [gTr d h0 (h1 0) z8 x0_earned z9 z10, gWy d h1 z11 z12 z13 z14 z15 z16 z17 z18 z19 z20 z21 z22 z23 z24, gLd d h2 x2_lineCount x2_goodsCount x2_workCount x2_years x2_lines x2_goods x2_works x2_change x2_coin x2_knownFree x2_isKnown]) (st' := fun _ => [.int v47]) (st := []) hK qd1_20.2.2.2.2.2.2.2.2.2.1 cv_RX4_47 iv_yX1_ofGoods (As := [.int z7, .int (1)]) (kX1_ofGoods _ d h2 x2_lineCount x2_goodsCount x2_workCount x2_years x2_lines x2_goods x2_works x2_change x2_coin x2_knownFree x2_isKnown z7 (1) e48) rfl rfl (Nat.le_of_ble_eq_true rfl) (by decide) 2 0 rfl rfl rfl [2] [0, 1] rfl (by decide +kernel) rfl rfl [0, 1, 2] (by decide +kernel) (fun _ => rfl) (fun _ => rfl) rfl rfl rfl (fun _ => rfl) (fun _ => ?_)
          refine J_istore (L' := [(5, .int v47), (4, .int v45), (3, .int v43), (0, .ref (h0 0)), (1, .ref (h2 0)), (2, .int z7)]) hK qd1_20.2.2.2.2.2.2.2.2.2.2.1 rfl (by decide) rfl ?_
          refine J_aload_n hK qd1_20.2.2.2.2.2.2.2.2.2.2.2.1 rfl 3 rfl rfl ?_
          refine J_get hK fo_RX4_12 qd1_20.2.2.2.2.2.2.2.2.2.2.2.2.1 rfl 0 0 rfl rfl rfl ?_
          refine J_aload_n hK qd1_20.2.2.2.2.2.2.2.2.2.2.2.2.2.1 rfl 4 rfl rfl ?_
          refine J_aload_n hK qd1_20.2.2.2.2.2.2.2.2.2.2.2.2.2.2.1 rfl 3 rfl rfl ?_
          refine J_aload_n hK qd1_20.2.2.2.2.2.2.2.2.2.2.2.2.2.2.2.1 rfl 4 rfl rfl ?_
          refine J_iload_n hK qd1_21.1 rfl 2 rfl rfl ?_
          obtain ⟨v49, e50, hs6⟩ := bs hs6
          refine J_callV (m := 3) (m' := 3) (ce' := 0) (sl' := 0) (gr := [gWy d h1 z11 z12 z13 z14 z15 z16 z17 z18 z19 z20 z21 z22 z23 z24]) (gs' := fun _ => [gTr d h0 (h1 0) z8 x0_earned z9 z10, gWy d h1 z11 z12 z13 z14 z15 z16 z17 z18 z19 z20 z21 z22 z23 z24, gLd d h2 x2_lineCount x2_goodsCount x2_workCount x2_years x2_lines x2_goods x2_works x2_change x2_coin x2_knownFree x2_isKnown]) (st' := fun _ => [.int v49, .ref (h2 0), .ref (h1 0)]) (st := [.ref (h2 0), .ref (h1 0)]) hK qd1_21.2.1 cv_RX4_63 iv_yX4_linesBearing (As := [.ref (h2 0), .int v43]) (kX4_linesBearing _ d h0 (h1 0) h2 n z8 x0_earned z9 z10 x2_lineCount x2_goodsCount x2_workCount x2_years x2_lines x2_goods x2_works x2_change x2_coin x2_knownFree x2_isKnown v43 e50) rfl rfl (Nat.le_of_ble_eq_true rfl) (by decide) 0 0 rfl rfl rfl [0, 2] [1] rfl (by decide +kernel) rfl rfl [1, 0, 2] (by decide +kernel) (fun _ => rfl) (fun _ => rfl) rfl rfl rfl (fun _ => rfl) (fun _ => ?_)
          obtain ⟨⟨g52, g53, g54, g55, g56, g57, g58⟩, e59, hs6⟩ := bs hs6
          have hs6 := un7 hs6
          refine J_callV (m := 3) (m' := 3) (ce' := 0) (sl' := 0) (gr := [gTr d h0 (h1 0) z8 x0_earned z9 z10]) (gs' := fun _ => [gTr d h0 (h1 0) z8 x0_earned z9 z10, gWy d h1 g52 g53 g54 g55 g56 z16 z17 z18 z19 z20 z21 z22 g57 g58, gLd d h2 x2_lineCount x2_goodsCount x2_workCount x2_years x2_lines x2_goods x2_works x2_change x2_coin x2_knownFree x2_isKnown]) (st' := fun _ => []) (st := []) hK qd1_21.2.2.1 cv_RX4_31 iv_yX5_prepare (As := [.ref (h2 0), .int v49]) (kX5_prepare _ d h1 h2 n z11 z12 z13 z14 z15 z16 z17 z18 z19 z20 z21 z22 z23 z24 x2_lineCount x2_goodsCount x2_workCount x2_years x2_lines x2_goods x2_works x2_change x2_coin x2_knownFree x2_isKnown v49 e59) rfl rfl (Nat.le_of_ble_eq_true rfl) (by decide) 1 0 rfl rfl rfl [1, 2] [0] rfl (by decide +kernel) rfl rfl [0, 1, 2] (by decide +kernel) (fun _ => rfl) (fun _ => rfl) rfl rfl rfl (fun _ => rfl) (fun _ => ?_)
          refine J_aload_n hK qd1_21.2.2.2.1 rfl 3 rfl rfl ?_
          refine J_get hK fo_RX4_12 qd1_21.2.2.2.2.1 rfl 0 0 rfl rfl rfl ?_
          refine J_iload hK qd1_21.2.2.2.2.2.1 rfl 1 rfl ?_
          refine J_iload hK qd1_21.2.2.2.2.2.2.1 rfl 0 rfl ?_
          obtain ⟨⟨v60, ⟨g62, g63, g64, g65, g66, g67, g68, g69⟩⟩, e70, hs6⟩ := bs hs6
          have hs6 := un2 hs6
          have hs6 := un8 hs6
          refine J_callV (m := 3) (m' := 3) (ce' := 0) (sl' := 0) (gr := [gTr d h0 (h1 0) z8 x0_earned z9 z10, gLd d h2 x2_lineCount x2_goodsCount x2_workCount x2_years x2_lines x2_goods x2_works x2_change x2_coin x2_knownFree x2_isKnown]) (gs' := fun _ => [gTr d h0 (h1 0) z8 x0_earned z9 z10, gWy d h1 g52 g53 g54 g55 g56 g62 g63 g64 g65 g66 g67 g68 g57 g69, gLd d h2 x2_lineCount x2_goodsCount x2_workCount x2_years x2_lines x2_goods x2_works x2_change x2_coin x2_knownFree x2_isKnown]) (st' := fun _ => [.int v60]) (st := []) hK qd1_21.2.2.2.2.2.2.2.1 cv_RX4_67 iv_yX5_trace (As := [.int v45, .int v47]) (kX5_trace _ d h1 n g52 g53 g54 g55 g56 z16 z17 z18 z19 z20 z21 z22 g57 g58 v45 v47 e70) rfl rfl (Nat.le_of_ble_eq_true rfl) (by decide) 1 0 rfl rfl rfl [1] [0, 2] rfl (by decide +kernel) rfl rfl [0, 2, 1] (by decide +kernel) (fun _ => rfl) (fun _ => rfl) rfl rfl rfl (fun _ => rfl) (fun _ => ?_)
          refine J_if_eq (tg := 127) hK qd1_21.2.2.2.2.2.2.2.2.1 rfl rfl (fun hc96 => ?_) (fun hc96 => ?_)
          · have hs6 := ip hc96 hs6
            refine J_aload_n hK qd1_22.2.2.2.2.2.2.2.2.1 rfl 3 rfl rfl ?_
            refine J_dup hK qd1_22.2.2.2.2.2.2.2.2.2.1 rfl rfl ?_
            refine J_get hK fo_RX4_51 qd1_22.2.2.2.2.2.2.2.2.2.2.1 rfl 0 0 rfl rfl rfl ?_
            refine J_iload_n hK qd1_22.2.2.2.2.2.2.2.2.2.2.2.1 rfl 2 rfl rfl ?_
            refine J_sipush (v := 999) hK qd1_22.2.2.2.2.2.2.2.2.2.2.2.2.1 rfl (by decide) ?_
            refine J_imul hK qd1_22.2.2.2.2.2.2.2.2.2.2.2.2.2.1 rfl ?_
            refine J_iadd hK qd1_22.2.2.2.2.2.2.2.2.2.2.2.2.2.2.1 rfl ?_
            refine J_put (g' := gTr d h0 (h1 0) z8 x0_earned (z9 + (v43 * 999)) z10) (gs' := [gTr d h0 (h1 0) z8 x0_earned (z9 + (v43 * 999)) z10, gWy d h1 g52 g53 g54 g55 g56 g62 g63 g64 g65 g66 g67 g68 g57 g69, gLd d h2 x2_lineCount x2_goodsCount x2_workCount x2_years x2_lines x2_goods x2_works x2_change x2_coin x2_knownFree x2_isKnown]) hK fp_RX4_51 qd1_22.2.2.2.2.2.2.2.2.2.2.2.2.2.2.2.1 rfl 0 0 rfl rfl rfl rfl (Nat.le_of_ble_eq_true rfl) rfl rfl ?_
            refine J_aload_n hK qd1_23.1 rfl 3 rfl rfl ?_
            refine J_dup hK qd1_23.2.1 rfl rfl ?_
            refine J_get hK fo_RX4_54 qd1_23.2.2.1 rfl 0 0 rfl rfl rfl ?_
            refine J_iload_n hK qd1_23.2.2.2.1 rfl 2 rfl rfl ?_
            refine J_iadd hK qd1_23.2.2.2.2.1 rfl ?_
            refine J_put (g' := gTr d h0 (h1 0) z8 x0_earned (z9 + (v43 * 999)) (z10 + v43)) (gs' := [gTr d h0 (h1 0) z8 x0_earned (z9 + (v43 * 999)) (z10 + v43), gWy d h1 g52 g53 g54 g55 g56 g62 g63 g64 g65 g66 g67 g68 g57 g69, gLd d h2 x2_lineCount x2_goodsCount x2_workCount x2_years x2_lines x2_goods x2_works x2_change x2_coin x2_knownFree x2_isKnown]) hK fp_RX4_54 qd1_23.2.2.2.2.2.1 rfl 0 0 rfl rfl rfl rfl (Nat.le_of_ble_eq_true rfl) rfl rfl ?_
            refine J_iinc (L' := [(2, .int (z7 + 1)), (5, .int v47), (4, .int v45), (3, .int v43), (0, .ref (h0 0)), (1, .ref (h2 0))]) (v := (z7 + 1)) hK qd1_23.2.2.2.2.2.2.1 rfl 5 rfl rfl (by decide) rfl ?_
            refine J_goto hK qd1_23.2.2.2.2.2.2.2.1 (n := 40) rfl ?_
            exact J_loc [4, 5, 0] rfl (ih6 (z7 + 1) z8 (z9 + (v43 * 999)) (z10 + v43) g52 g53 g54 g55 g56 g62 g63 g64 g65 g66 g67 g68 g57 g69 (lpc hs6 hr6))
          · have hs6 := iq hc96 hs6
            refine J_aload_n hK qd1_21.2.2.2.2.2.2.2.2.2.1 rfl 3 rfl rfl ?_
            refine J_dup hK qd1_21.2.2.2.2.2.2.2.2.2.2.1 rfl rfl ?_
            refine J_get hK fo_RX4_51 qd1_21.2.2.2.2.2.2.2.2.2.2.2.1 rfl 0 0 rfl rfl rfl ?_
            refine J_iload_n hK qd1_21.2.2.2.2.2.2.2.2.2.2.2.2.1 rfl 2 rfl rfl ?_
            refine J_aload_n hK qd1_21.2.2.2.2.2.2.2.2.2.2.2.2.2.1 rfl 3 rfl rfl ?_
            refine J_get hK fo_RX4_12 qd1_21.2.2.2.2.2.2.2.2.2.2.2.2.2.2.1 rfl 0 0 rfl rfl rfl ?_
            refine J_iload hK qd1_21.2.2.2.2.2.2.2.2.2.2.2.2.2.2.2.1 rfl 1 rfl ?_
            obtain ⟨v71, e72, hs6⟩ := bs hs6
            refine J_callV (m := 3) (m' := 3) (ce' := 0) (sl' := 0) (gr := [gTr d h0 (h1 0) z8 x0_earned z9 z10, gLd d h2 x2_lineCount x2_goodsCount x2_workCount x2_years x2_lines x2_goods x2_works x2_change x2_coin x2_knownFree x2_isKnown]) (gs' := fun _ => [gTr d h0 (h1 0) z8 x0_earned z9 z10, gWy d h1 g52 g53 g54 g55 g56 g62 g63 g64 g65 g66 g67 g68 g57 g69, gLd d h2 x2_lineCount x2_goodsCount x2_workCount x2_years x2_lines x2_goods x2_works x2_change x2_coin x2_knownFree x2_isKnown]) (st' := fun _ => [.int v71, .int v43, .int z9, .ref (h0 0)]) (st := [.int v43, .int z9, .ref (h0 0)]) hK qd1_22.1 cv_RX4_39 iv_yX5_costFrom (As := [.int v45]) (kX5_costFrom _ d h1 n g52 g53 g54 g55 g56 g62 g63 g64 g65 g66 g67 g68 g57 g69 v45 e72) rfl rfl (Nat.le_of_ble_eq_true rfl) (by decide) 1 0 rfl rfl rfl [1] [0, 2] rfl (by decide +kernel) rfl rfl [0, 2, 1] (by decide +kernel) (fun _ => rfl) (fun _ => rfl) rfl rfl rfl (fun _ => rfl) (fun _ => ?_)
            refine J_imul hK qd1_22.2.1 rfl ?_
            refine J_iadd hK qd1_22.2.2.1 rfl ?_
            refine J_put (g' := gTr d h0 (h1 0) z8 x0_earned (z9 + (v43 * v71)) z10) (gs' := [gTr d h0 (h1 0) z8 x0_earned (z9 + (v43 * v71)) z10, gWy d h1 g52 g53 g54 g55 g56 g62 g63 g64 g65 g66 g67 g68 g57 g69, gLd d h2 x2_lineCount x2_goodsCount x2_workCount x2_years x2_lines x2_goods x2_works x2_change x2_coin x2_knownFree x2_isKnown]) hK fp_RX4_51 qd1_22.2.2.2.1 rfl 0 0 rfl rfl rfl rfl (Nat.le_of_ble_eq_true rfl) rfl rfl ?_
            refine J_aload_n hK qd1_22.2.2.2.2.1 rfl 3 rfl rfl ?_
            refine J_iload_n hK qd1_22.2.2.2.2.2.1 rfl 2 rfl rfl ?_
            obtain ⟨g73, e74, hs6⟩ := bs hs6
            refine J_callV (m := 3) (m' := 3) (ce' := 0) (sl' := 0) (gr := [gLd d h2 x2_lineCount x2_goodsCount x2_workCount x2_years x2_lines x2_goods x2_works x2_change x2_coin x2_knownFree x2_isKnown]) (gs' := fun _ => [gTr d h0 (h1 0) g73 x0_earned (z9 + (v43 * v71)) z10, gWy d h1 g52 g53 g54 g55 g56 g62 g63 g64 g65 g66 g67 g68 g57 g69, gLd d h2 x2_lineCount x2_goodsCount x2_workCount x2_years x2_lines x2_goods x2_works x2_change x2_coin x2_knownFree x2_isKnown]) (st' := fun _ => []) (st := []) hK qd1_22.2.2.2.2.2.2.1 cv_RX4_71 iv_yX4_load (As := [.int v43]) (kX4_load _ d h0 h1 n z8 x0_earned (z9 + (v43 * v71)) z10 g52 g53 g54 g55 g56 g62 g63 g64 g65 g66 g67 g68 g57 g69 v43 e74) rfl rfl (Nat.le_of_ble_eq_true rfl) (by decide) 0 0 rfl rfl rfl [0, 1] [2] rfl (by decide +kernel) rfl rfl [1, 2, 0] (by decide +kernel) (fun _ => rfl) (fun _ => rfl) rfl rfl rfl (fun _ => rfl) (fun _ => ?_)
            refine J_goto hK qd1_22.2.2.2.2.2.2.2.1 (n := 151) rfl ?_
            refine J_iinc (L' := [(2, .int (z7 + 1)), (5, .int v47), (4, .int v45), (3, .int v43), (0, .ref (h0 0)), (1, .ref (h2 0))]) (v := (z7 + 1)) hK qd1_23.2.2.2.2.2.2.1 rfl 5 rfl rfl (by decide) rfl ?_
            refine J_goto hK qd1_23.2.2.2.2.2.2.2.1 (n := 40) rfl ?_
            exact J_loc [4, 5, 0] rfl (ih6 (z7 + 1) g73 (z9 + (v43 * v71)) z10 g52 g53 g54 g55 g56 g62 g63 g64 g65 g66 g67 g68 g57 g69 (lpc hs6 hr6))
    exact J_loc [1, 2, 0] rfl (lo6 n (0) w5 (0) (0) x1_edgeA x1_edgeB x1_edgeCost x1_edgeLine x1_change x1_away x1_steps x1_nodes x1_stepCount x1_open x1_openCount x1_seen x1_edgeCount x1_aim hl6)
  have lo1 : ∀ (k : Nat) (z2 : Int32) (z3 : (Nat → Int32)), lp (u2 (fX4_sendInTurn_s12 x2_lineCount x2_goodsCount x2_workCount x2_years x2_lines x2_goods x2_works x2_change x2_coin x2_knownFree x2_isKnown)) k (z2, z3) = some e4 → J d Φ 6 [gTr d h0 (h1 0) z3 x0_earned (0) (0), gWy d h1 x1_edgeA x1_edgeB x1_edgeCost x1_edgeLine x1_change x1_away x1_steps x1_nodes x1_stepCount x1_open x1_openCount x1_seen x1_edgeCount x1_aim, gLd d h2 x2_lineCount x2_goodsCount x2_workCount x2_years x2_lines x2_goods x2_works x2_change x2_coin x2_knownFree x2_isKnown] 0 0 12 [(0, .ref (h0 0)), (1, .ref (h2 0)), (2, .int z2)] [] := by
    intro k
    induction k with
    | zero => intro z2 z3 h; cases h
    | succ k ih1 =>
      intro z2 z3 h
      obtain ⟨k2, rr1, hk2, hs1, hr1⟩ := lp_ok h
      cases hk2
      have hs1 : fX4_sendInTurn_s12 x2_lineCount x2_goodsCount x2_workCount x2_years x2_lines x2_goods x2_works x2_change x2_coin x2_knownFree x2_isKnown z2 z3 = some rr1 := hs1
      unfold fX4_sendInTurn_s12 at hs1
      refine J_iload_n hK qd1_18.2.2.2.2.2.2.2.2.1 rfl 2 rfl rfl ?_
      refine J_aload_n hK qd1_18.2.2.2.2.2.2.2.2.2.1 rfl 1 rfl rfl ?_
      refine J_get hK fo_RX4_57 qd1_18.2.2.2.2.2.2.2.2.2.2.1 rfl 2 0 rfl rfl rfl ?_
      refine J_icmp_ge (tg := 38) hK qd1_18.2.2.2.2.2.2.2.2.2.2.2.1 rfl rfl (fun hc17 => ?_) (fun hc17 => ?_)
      · have hs1 := ip hc17 hs1
        exact J_loc [0, 1] rfl (hx1_38 z3 (lpx hs1 hr1))
      · have hs1 := iq hc17 hs1
        refine J_aload_n hK qd1_18.2.2.2.2.2.2.2.2.2.2.2.2.1 rfl 0 rfl rfl ?_
        refine J_get hK fo_RX4_18 qd1_18.2.2.2.2.2.2.2.2.2.2.2.2.2.1 rfl 0 0 rfl rfl rfl ?_
        refine J_iload_n hK qd1_18.2.2.2.2.2.2.2.2.2.2.2.2.2.2.1 rfl 2 rfl rfl ?_
        refine J_aload_n hK qd1_18.2.2.2.2.2.2.2.2.2.2.2.2.2.2.2.1 rfl 1 rfl rfl ?_
        refine J_iload_n hK qd1_19.1 rfl 2 rfl rfl ?_
        refine J_iconst (v := 4) hK qd1_19.2.1 rfl (by decide) ?_
        obtain ⟨v75, e76, hs1⟩ := bs hs1
        refine J_callV (m := 3) (m' := 3) (ce' := 0) (sl' := 0) (gr := [gTr d h0 (h1 0) z3 x0_earned (0) (0), gWy d h1 x1_edgeA x1_edgeB x1_edgeCost x1_edgeLine x1_change x1_away x1_steps x1_nodes x1_stepCount x1_open x1_openCount x1_seen x1_edgeCount x1_aim]) (gs' := fun _ => [gTr d h0 (h1 0) z3 x0_earned (0) (0), gWy d h1 x1_edgeA x1_edgeB x1_edgeCost x1_edgeLine x1_change x1_away x1_steps x1_nodes x1_stepCount x1_open x1_openCount x1_seen x1_edgeCount x1_aim, gLd d h2 x2_lineCount x2_goodsCount x2_workCount x2_years x2_lines x2_goods x2_works x2_change x2_coin x2_knownFree x2_isKnown]) (st' := fun _ => [.int v75, .int z2, .ref (h0 1)]) (st := [.int z2, .ref (h0 1)]) hK qd1_19.2.2.1 cv_RX4_60 iv_yX1_ofLine (As := [.int z2, .int (4)]) (kX1_ofLine _ d h2 x2_lineCount x2_goodsCount x2_workCount x2_years x2_lines x2_goods x2_works x2_change x2_coin x2_knownFree x2_isKnown z2 (4) e76) rfl rfl (Nat.le_of_ble_eq_true rfl) (by decide) 2 0 rfl rfl rfl [2] [0, 1] rfl (by decide +kernel) rfl rfl [0, 1, 2] (by decide +kernel) (fun _ => rfl) (fun _ => rfl) rfl rfl rfl (fun _ => rfl) (fun _ => ?_)
        obtain ⟨f77, ef77, hs1⟩ := bs hs1
        refine J_iast (g' := gTr d h0 (h1 0) f77 x0_earned (0) (0)) (gs' := [gTr d h0 (h1 0) f77 x0_earned (0) (0), gWy d h1 x1_edgeA x1_edgeB x1_edgeCost x1_edgeLine x1_change x1_away x1_steps x1_nodes x1_stepCount x1_open x1_openCount x1_seen x1_edgeCount x1_aim, gLd d h2 x2_lineCount x2_goodsCount x2_workCount x2_years x2_lines x2_goods x2_works x2_change x2_coin x2_knownFree x2_isKnown]) hK qd1_19.2.2.2.1 rfl 0 1 rfl rfl ef77 rfl rfl ?_
        refine J_iinc (L' := [(2, .int (z2 + 1)), (0, .ref (h0 0)), (1, .ref (h2 0))]) (v := (z2 + 1)) hK qd1_19.2.2.2.2.1 rfl 2 rfl rfl (by decide) rfl ?_
        refine J_goto hK qd1_19.2.2.2.2.2.1 (n := 12) rfl ?_
        exact J_loc [1, 2, 0] rfl (ih1 (z2 + 1) f77 (lpc hs1 hr1))
  exact J_loc [1, 2, 0] rfl (lo1 n (0) x0_left hl1)
end
section
def fX5_isChange (X0 : WyT) (p1 : Int32) : Option (Int32) :=
  u14 (fun (x0_edgeA : (Nat → Int32)) (x0_edgeB : (Nat → Int32)) (x0_edgeCost : (Nat → Int32)) (x0_edgeLine : (Nat → Int32)) (x0_change : (Nat → Int32)) (x0_away : (Nat → Int32)) (x0_steps : (Nat → Int32)) (x0_nodes : (Nat → Int32)) (x0_stepCount : Int32) (x0_open : (Nat → Int32)) (x0_openCount : Int32) (x0_seen : Int64) (x0_edgeCount : Int32) (x0_aim : Int32) => (fX6_within p1 (1) (x0_stepCount - 1)).bind (fun v1 => if v1 = 0 then (some (0)) else ((rd 36 x0_steps p1).bind fun v3 => if 3 ≤ v3 then (some (0)) else (some (1))))) X0
set_option maxHeartbeats 4000000 in
set_option maxRecDepth 100000 in
theorem kX5_isChange (l : Launch) (d : DT) (h0 : Nat → Nat) (x0_edgeA : (Nat → Int32)) (x0_edgeB : (Nat → Int32)) (x0_edgeCost : (Nat → Int32)) (x0_edgeLine : (Nat → Int32)) (x0_change : (Nat → Int32)) (x0_away : (Nat → Int32)) (x0_steps : (Nat → Int32)) (x0_nodes : (Nat → Int32)) (x0_stepCount : Int32) (x0_open : (Nat → Int32)) (x0_openCount : Int32) (x0_seen : Int64) (x0_edgeCount : Int32) (x0_aim : Int32) (p1 : Int32)  {out : Int32} (hf : fX5_isChange (x0_edgeA, x0_edgeB, x0_edgeCost, x0_edgeLine, x0_change, x0_away, x0_steps, x0_nodes, x0_stepCount, x0_open, x0_openCount, x0_seen, x0_edgeCount, x0_aim) p1 = some out) : Ct l d yX5_isChange cX5_isChange 2 (some .boolean) { frames := 1, cells := 0, slots := 0, locals := 22 } [.ref (h0 0), .int p1] [gWy d h0 x0_edgeA x0_edgeB x0_edgeCost x0_edgeLine x0_change x0_away x0_steps x0_nodes x0_stepCount x0_open x0_openCount x0_seen x0_edgeCount x0_aim] (fun _ : Unit => (some (.int out), [gWy d h0 x0_edgeA x0_edgeB x0_edgeCost x0_edgeLine x0_change x0_away x0_steps x0_nodes x0_stepCount x0_open x0_openCount x0_seen x0_edgeCount x0_aim])) := by
  refine Ct.of (by decide) (Nat.le_of_ble_eq_true rfl) ?_
  intro Φ hl hK hR
  subst hl
  have hK : Ok d Φ RX5 "isChange" cX5_isChange 2 (some .boolean) { frames := 1, cells := 0, slots := 0, locals := 22 } := hK
  unfold fX5_isChange at hf
  have hf := un14 hf
  show J d Φ 2 [gWy d h0 x0_edgeA x0_edgeB x0_edgeCost x0_edgeLine x0_change x0_away x0_steps x0_nodes x0_stepCount x0_open x0_openCount x0_seen x0_edgeCount x0_aim] 0 0 0 [(0, .ref (h0 0)), (1, .int p1)] []
  refine J_iload_n hK qd1_105.1 rfl 1 rfl rfl ?_
  refine J_iconst (v := 1) hK qd1_105.2.1 rfl (by decide) ?_
  refine J_aload_n hK qd1_105.2.2.1 rfl 0 rfl rfl ?_
  refine J_get hK fo_RX5_79 qd1_105.2.2.2.1 rfl 0 0 rfl rfl rfl ?_
  refine J_iconst (v := 1) hK qd1_105.2.2.2.2.1 rfl (by decide) ?_
  refine J_isub hK qd1_105.2.2.2.2.2.1 rfl ?_
  obtain ⟨v1, e2, hf⟩ := bs hf
  refine J_callN (m := 1) (m' := 1) (ce' := 0) (sl' := 0) (gr := [gWy d h0 x0_edgeA x0_edgeB x0_edgeCost x0_edgeLine x0_change x0_away x0_steps x0_nodes x0_stepCount x0_open x0_openCount x0_seen x0_edgeCount x0_aim]) (gs' := fun _ => [gWy d h0 x0_edgeA x0_edgeB x0_edgeCost x0_edgeLine x0_change x0_away x0_steps x0_nodes x0_stepCount x0_open x0_openCount x0_seen x0_edgeCount x0_aim]) (st' := fun _ => [.int v1]) (st := []) hK qd1_105.2.2.2.2.2.2.1 cn_RX5_120 (As := [.int p1, .int (1), .int (x0_stepCount - 1)]) (kX6_within _ d p1 (1) (x0_stepCount - 1) e2) rfl rfl (Nat.le_of_ble_eq_true rfl) (by decide) [] [0] rfl (by decide +kernel) rfl rfl [0] (by decide +kernel) (fun _ => rfl) (fun _ => rfl) rfl rfl rfl (fun _ => rfl) (fun _ => ?_)
  refine J_if_eq (tg := 28) hK qd1_105.2.2.2.2.2.2.2.1 rfl rfl (fun hc11 => ?_) (fun hc11 => ?_)
  · have hf := ip hc11 hf
    refine J_iconst (v := 0) hK qd1_106.1 rfl (by decide) ?_
    obtain rfl := Option.some.inj hf
    exact J_zret hK hR qd1_106.2.1 () rfl rfl (by decide) (by decide)
  · have hf := iq hc11 hf
    refine J_aload_n hK qd1_105.2.2.2.2.2.2.2.2.1 rfl 0 rfl rfl ?_
    refine J_get hK fo_RX5_30 qd1_105.2.2.2.2.2.2.2.2.2.1 rfl 0 0 rfl rfl rfl ?_
    refine J_iload_n hK qd1_105.2.2.2.2.2.2.2.2.2.2.1 rfl 1 rfl rfl ?_
    obtain ⟨v3, ev3, hf⟩ := bs hf
    refine J_iald hK qd1_105.2.2.2.2.2.2.2.2.2.2.2.1 rfl 0 7 rfl rfl ev3 ?_
    refine J_iconst (v := 3) hK qd1_105.2.2.2.2.2.2.2.2.2.2.2.2.1 rfl (by decide) ?_
    refine J_icmp_ge (tg := 28) hK qd1_105.2.2.2.2.2.2.2.2.2.2.2.2.2.1 rfl rfl (fun hc21 => ?_) (fun hc21 => ?_)
    · have hf := ip hc21 hf
      refine J_iconst (v := 0) hK qd1_106.1 rfl (by decide) ?_
      obtain rfl := Option.some.inj hf
      exact J_zret hK hR qd1_106.2.1 () rfl rfl (by decide) (by decide)
    · have hf := iq hc21 hf
      refine J_iconst (v := 1) hK qd1_105.2.2.2.2.2.2.2.2.2.2.2.2.2.2.1 rfl (by decide) ?_
      refine J_goto hK qd1_105.2.2.2.2.2.2.2.2.2.2.2.2.2.2.2.1 (n := 29) rfl ?_
      obtain rfl := Option.some.inj hf
      exact J_zret hK hR qd1_106.2.1 () rfl rfl (by decide) (by decide)

def fX5_placeAfter (X0 : WyT) (p1 : Int32) : Option (Int32) :=
  u14 (fun (x0_edgeA : (Nat → Int32)) (x0_edgeB : (Nat → Int32)) (x0_edgeCost : (Nat → Int32)) (x0_edgeLine : (Nat → Int32)) (x0_change : (Nat → Int32)) (x0_away : (Nat → Int32)) (x0_steps : (Nat → Int32)) (x0_nodes : (Nat → Int32)) (x0_stepCount : Int32) (x0_open : (Nat → Int32)) (x0_openCount : Int32) (x0_seen : Int64) (x0_edgeCount : Int32) (x0_aim : Int32) => (fX6_within p1 (0) (x0_stepCount - 1)).bind (fun v1 => if v1 = 0 then (some (-1)) else ((rd 36 x0_nodes p1).bind fun v3 => some (v3 / 3)))) X0
set_option maxHeartbeats 4000000 in
set_option maxRecDepth 100000 in
theorem kX5_placeAfter (l : Launch) (d : DT) (h0 : Nat → Nat) (x0_edgeA : (Nat → Int32)) (x0_edgeB : (Nat → Int32)) (x0_edgeCost : (Nat → Int32)) (x0_edgeLine : (Nat → Int32)) (x0_change : (Nat → Int32)) (x0_away : (Nat → Int32)) (x0_steps : (Nat → Int32)) (x0_nodes : (Nat → Int32)) (x0_stepCount : Int32) (x0_open : (Nat → Int32)) (x0_openCount : Int32) (x0_seen : Int64) (x0_edgeCount : Int32) (x0_aim : Int32) (p1 : Int32)  {out : Int32} (hf : fX5_placeAfter (x0_edgeA, x0_edgeB, x0_edgeCost, x0_edgeLine, x0_change, x0_away, x0_steps, x0_nodes, x0_stepCount, x0_open, x0_openCount, x0_seen, x0_edgeCount, x0_aim) p1 = some out) : Ct l d yX5_placeAfter cX5_placeAfter 2 (some .int) { frames := 1, cells := 0, slots := 0, locals := 22 } [.ref (h0 0), .int p1] [gWy d h0 x0_edgeA x0_edgeB x0_edgeCost x0_edgeLine x0_change x0_away x0_steps x0_nodes x0_stepCount x0_open x0_openCount x0_seen x0_edgeCount x0_aim] (fun _ : Unit => (some (.int out), [gWy d h0 x0_edgeA x0_edgeB x0_edgeCost x0_edgeLine x0_change x0_away x0_steps x0_nodes x0_stepCount x0_open x0_openCount x0_seen x0_edgeCount x0_aim])) := by
  refine Ct.of (by decide) (Nat.le_of_ble_eq_true rfl) ?_
  intro Φ hl hK hR
  subst hl
  have hK : Ok d Φ RX5 "placeAfter" cX5_placeAfter 2 (some .int) { frames := 1, cells := 0, slots := 0, locals := 22 } := hK
  unfold fX5_placeAfter at hf
  have hf := un14 hf
  show J d Φ 2 [gWy d h0 x0_edgeA x0_edgeB x0_edgeCost x0_edgeLine x0_change x0_away x0_steps x0_nodes x0_stepCount x0_open x0_openCount x0_seen x0_edgeCount x0_aim] 0 0 0 [(0, .ref (h0 0)), (1, .int p1)] []
  refine J_iload_n hK qd1_109.1 rfl 1 rfl rfl ?_
  refine J_iconst (v := 0) hK qd1_109.2.1 rfl (by decide) ?_
  refine J_aload_n hK qd1_109.2.2.1 rfl 0 rfl rfl ?_
  refine J_get hK fo_RX5_79 qd1_109.2.2.2.1 rfl 0 0 rfl rfl rfl ?_
  refine J_iconst (v := 1) hK qd1_109.2.2.2.2.1 rfl (by decide) ?_
  refine J_isub hK qd1_109.2.2.2.2.2.1 rfl ?_
  obtain ⟨v1, e2, hf⟩ := bs hf
  refine J_callN (m := 1) (m' := 1) (ce' := 0) (sl' := 0) (gr := [gWy d h0 x0_edgeA x0_edgeB x0_edgeCost x0_edgeLine x0_change x0_away x0_steps x0_nodes x0_stepCount x0_open x0_openCount x0_seen x0_edgeCount x0_aim]) (gs' := fun _ => [gWy d h0 x0_edgeA x0_edgeB x0_edgeCost x0_edgeLine x0_change x0_away x0_steps x0_nodes x0_stepCount x0_open x0_openCount x0_seen x0_edgeCount x0_aim]) (st' := fun _ => [.int v1]) (st := []) hK qd1_109.2.2.2.2.2.2.1 cn_RX5_120 (As := [.int p1, .int (0), .int (x0_stepCount - 1)]) (kX6_within _ d p1 (0) (x0_stepCount - 1) e2) rfl rfl (Nat.le_of_ble_eq_true rfl) (by decide) [] [0] rfl (by decide +kernel) rfl rfl [0] (by decide +kernel) (fun _ => rfl) (fun _ => rfl) rfl rfl rfl (fun _ => rfl) (fun _ => ?_)
  refine J_if_eq (tg := 25) hK qd1_109.2.2.2.2.2.2.2.1 rfl rfl (fun hc11 => ?_) (fun hc11 => ?_)
  · have hf := ip hc11 hf
    refine J_iconst (v := (-1)) hK qd1_109.2.2.2.2.2.2.2.2.2.2.2.2.2.2.2.1 rfl (by decide) ?_
    obtain rfl := Option.some.inj hf
    exact J_iret hK hR qd1_110.1 () rfl (by decide) (by decide)
  · have hf := iq hc11 hf
    refine J_aload_n hK qd1_109.2.2.2.2.2.2.2.2.1 rfl 0 rfl rfl ?_
    refine J_get hK fo_RX5_33 qd1_109.2.2.2.2.2.2.2.2.2.1 rfl 0 0 rfl rfl rfl ?_
    refine J_iload_n hK qd1_109.2.2.2.2.2.2.2.2.2.2.1 rfl 1 rfl rfl ?_
    obtain ⟨v3, ev3, hf⟩ := bs hf
    refine J_iald hK qd1_109.2.2.2.2.2.2.2.2.2.2.2.1 rfl 0 8 rfl rfl ev3 ?_
    refine J_iconst (v := 3) hK qd1_109.2.2.2.2.2.2.2.2.2.2.2.2.1 rfl (by decide) ?_
    refine J_idiv hK qd1_109.2.2.2.2.2.2.2.2.2.2.2.2.2.1 rfl (by decide) ?_
    refine J_goto hK qd1_109.2.2.2.2.2.2.2.2.2.2.2.2.2.2.1 (n := 26) rfl ?_
    obtain rfl := Option.some.inj hf
    exact J_iret hK hR qd1_110.1 () rfl (by decide) (by decide)

def fX4_changesAt_s4 (p1 : Int32) (x1_edgeA : (Nat → Int32)) (x1_edgeB : (Nat → Int32)) (x1_edgeCost : (Nat → Int32)) (x1_edgeLine : (Nat → Int32)) (x1_change : (Nat → Int32)) (x1_away : (Nat → Int32)) (x1_steps : (Nat → Int32)) (x1_nodes : (Nat → Int32)) (x1_stepCount : Int32) (x1_open : (Nat → Int32)) (x1_openCount : Int32) (x1_seen : Int64) (x1_edgeCount : Int32) (x1_aim : Int32) (z2 : Int32) (z3 : Int32) : Option ((Int32 × Int32) ⊕ (Int32)) :=
  if x1_stepCount ≤ z3 then (some (.inr z2)) else ((fX5_isChange (x1_edgeA, x1_edgeB, x1_edgeCost, x1_edgeLine, x1_change, x1_away, x1_steps, x1_nodes, x1_stepCount, x1_open, x1_openCount, x1_seen, x1_edgeCount, x1_aim) z3).bind (fun v6 => if v6 = 0 then (some (.inl (z2, (z3 + 1)))) else ((fX5_placeAfter (x1_edgeA, x1_edgeB, x1_edgeCost, x1_edgeLine, x1_change, x1_away, x1_steps, x1_nodes, x1_stepCount, x1_open, x1_openCount, x1_seen, x1_edgeCount, x1_aim) z3).bind (fun v8 => if v8 = p1 then (some (.inl ((z2 + 1), (z3 + 1)))) else (some (.inl (z2, (z3 + 1))))))))
def fX4_changesAt (n : Nat) (X0 : TrT) (X1 : WyT) (p1 : Int32) : Option (Int32) :=
  u4 (fun (x0_left : (Nat → Int32)) (x0_earned : (Nat → Int32)) (x0_turnCost : Int32) (x0_turnWayless : Int32) => u14 (fun (x1_edgeA : (Nat → Int32)) (x1_edgeB : (Nat → Int32)) (x1_edgeCost : (Nat → Int32)) (x1_edgeLine : (Nat → Int32)) (x1_change : (Nat → Int32)) (x1_away : (Nat → Int32)) (x1_steps : (Nat → Int32)) (x1_nodes : (Nat → Int32)) (x1_stepCount : Int32) (x1_open : (Nat → Int32)) (x1_openCount : Int32) (x1_seen : Int64) (x1_edgeCount : Int32) (x1_aim : Int32) => (lp (u2 (fX4_changesAt_s4 p1 x1_edgeA x1_edgeB x1_edgeCost x1_edgeLine x1_change x1_away x1_steps x1_nodes x1_stepCount x1_open x1_openCount x1_seen x1_edgeCount x1_aim)) n (0, 1)).bind (fun w5 => some w5)) X1) X0
set_option maxHeartbeats 4000000 in
set_option maxRecDepth 100000 in
theorem kX4_changesAt (l : Launch) (d : DT) (h0 : Nat → Nat) (h1 : Nat → Nat) (n : Nat) (x0_left : (Nat → Int32)) (x0_earned : (Nat → Int32)) (x0_turnCost : Int32) (x0_turnWayless : Int32) (x1_edgeA : (Nat → Int32)) (x1_edgeB : (Nat → Int32)) (x1_edgeCost : (Nat → Int32)) (x1_edgeLine : (Nat → Int32)) (x1_change : (Nat → Int32)) (x1_away : (Nat → Int32)) (x1_steps : (Nat → Int32)) (x1_nodes : (Nat → Int32)) (x1_stepCount : Int32) (x1_open : (Nat → Int32)) (x1_openCount : Int32) (x1_seen : Int64) (x1_edgeCount : Int32) (x1_aim : Int32) (p1 : Int32)  {out : Int32} (hf : fX4_changesAt n (x0_left, x0_earned, x0_turnCost, x0_turnWayless) (x1_edgeA, x1_edgeB, x1_edgeCost, x1_edgeLine, x1_change, x1_away, x1_steps, x1_nodes, x1_stepCount, x1_open, x1_openCount, x1_seen, x1_edgeCount, x1_aim) p1 = some out) : Ct l d yX4_changesAt cX4_changesAt 4 (some .int) { frames := 2, cells := 0, slots := 0, locals := 43 } [.ref (h0 0), .int p1] [gTr d h0 (h1 0) x0_left x0_earned x0_turnCost x0_turnWayless, gWy d h1 x1_edgeA x1_edgeB x1_edgeCost x1_edgeLine x1_change x1_away x1_steps x1_nodes x1_stepCount x1_open x1_openCount x1_seen x1_edgeCount x1_aim] (fun _ : Unit => (some (.int out), [gTr d h0 (h1 0) x0_left x0_earned x0_turnCost x0_turnWayless, gWy d h1 x1_edgeA x1_edgeB x1_edgeCost x1_edgeLine x1_change x1_away x1_steps x1_nodes x1_stepCount x1_open x1_openCount x1_seen x1_edgeCount x1_aim])) := by
  refine Ct.of (by decide) (Nat.le_of_ble_eq_true rfl) ?_
  intro Φ hl hK hR
  subst hl
  have hK : Ok d Φ RX4 "changesAt" cX4_changesAt 4 (some .int) { frames := 2, cells := 0, slots := 0, locals := 43 } := hK
  unfold fX4_changesAt at hf
  have hf := un4 hf
  have hf := un14 hf
  show J d Φ 4 [gTr d h0 (h1 0) x0_left x0_earned x0_turnCost x0_turnWayless, gWy d h1 x1_edgeA x1_edgeB x1_edgeCost x1_edgeLine x1_change x1_away x1_steps x1_nodes x1_stepCount x1_open x1_openCount x1_seen x1_edgeCount x1_aim] 0 0 0 [(0, .ref (h0 0)), (1, .int p1)] []
  refine J_iconst (v := 0) hK qd1_38.1 rfl (by decide) ?_
  refine J_istore_n (L' := [(2, .int (0)), (0, .ref (h0 0)), (1, .int p1)]) hK qd1_38.2.1 rfl rfl (by decide) rfl ?_
  refine J_iconst (v := 1) hK qd1_38.2.2.1 rfl (by decide) ?_
  refine J_istore_n (L' := [(3, .int (1)), (2, .int (0)), (0, .ref (h0 0)), (1, .int p1)]) hK qd1_38.2.2.2.1 rfl rfl (by decide) rfl ?_
  obtain ⟨e4, hl1, hf⟩ := bs hf
  have hx1_47 : ∀ (w5 : Int32), w5 = e4 → J d Φ 4 [gTr d h0 (h1 0) x0_left x0_earned x0_turnCost x0_turnWayless, gWy d h1 x1_edgeA x1_edgeB x1_edgeCost x1_edgeLine x1_change x1_away x1_steps x1_nodes x1_stepCount x1_open x1_openCount x1_seen x1_edgeCount x1_aim] 0 0 47 [(2, .int w5)] [] := by
    intro w5 he
    rw [← he] at hf
    refine J_iload_n hK qd1_39.2.2.2.2.2.2.2.1 rfl 0 rfl rfl ?_
    obtain rfl := Option.some.inj hf
    exact J_iret hK hR qd1_39.2.2.2.2.2.2.2.2.1 () rfl (by decide) (by decide)
  have lo1 : ∀ (k : Nat) (z2 : Int32) (z3 : Int32), lp (u2 (fX4_changesAt_s4 p1 x1_edgeA x1_edgeB x1_edgeCost x1_edgeLine x1_change x1_away x1_steps x1_nodes x1_stepCount x1_open x1_openCount x1_seen x1_edgeCount x1_aim)) k (z2, z3) = some e4 → J d Φ 4 [gTr d h0 (h1 0) x0_left x0_earned x0_turnCost x0_turnWayless, gWy d h1 x1_edgeA x1_edgeB x1_edgeCost x1_edgeLine x1_change x1_away x1_steps x1_nodes x1_stepCount x1_open x1_openCount x1_seen x1_edgeCount x1_aim] 0 0 4 [(0, .ref (h0 0)), (1, .int p1), (2, .int z2), (3, .int z3)] [] := by
    intro k
    induction k with
    | zero => intro z2 z3 h; cases h
    | succ k ih1 =>
      intro z2 z3 h
      obtain ⟨k2, rr1, hk2, hs1, hr1⟩ := lp_ok h
      cases hk2
      have hs1 : fX4_changesAt_s4 p1 x1_edgeA x1_edgeB x1_edgeCost x1_edgeLine x1_change x1_away x1_steps x1_nodes x1_stepCount x1_open x1_openCount x1_seen x1_edgeCount x1_aim z2 z3 = some rr1 := hs1
      unfold fX4_changesAt_s4 at hs1
      refine J_iload_n hK qd1_38.2.2.2.2.1 rfl 3 rfl rfl ?_
      refine J_aload_n hK qd1_38.2.2.2.2.2.1 rfl 0 rfl rfl ?_
      refine J_get hK fo_RX4_12 qd1_38.2.2.2.2.2.2.1 rfl 0 0 rfl rfl rfl ?_
      refine J_get hK fo_RX4_74 qd1_38.2.2.2.2.2.2.2.1 rfl 1 0 rfl rfl rfl ?_
      refine J_icmp_ge (tg := 47) hK qd1_38.2.2.2.2.2.2.2.2.1 rfl rfl (fun hc12 => ?_) (fun hc12 => ?_)
      · have hs1 := ip hc12 hs1
        exact J_loc [2] rfl (hx1_47 z2 (lpx hs1 hr1))
      · have hs1 := iq hc12 hs1
        refine J_aload_n hK qd1_38.2.2.2.2.2.2.2.2.2.1 rfl 0 rfl rfl ?_
        refine J_get hK fo_RX4_12 qd1_38.2.2.2.2.2.2.2.2.2.2.1 rfl 0 0 rfl rfl rfl ?_
        refine J_iload_n hK qd1_38.2.2.2.2.2.2.2.2.2.2.2.1 rfl 3 rfl rfl ?_
        obtain ⟨v6, e7, hs1⟩ := bs hs1
        refine J_callV (m := 2) (m' := 2) (ce' := 0) (sl' := 0) (gr := [gTr d h0 (h1 0) x0_left x0_earned x0_turnCost x0_turnWayless]) (gs' := fun _ => [gTr d h0 (h1 0) x0_left x0_earned x0_turnCost x0_turnWayless, gWy d h1 x1_edgeA x1_edgeB x1_edgeCost x1_edgeLine x1_change x1_away x1_steps x1_nodes x1_stepCount x1_open x1_openCount x1_seen x1_edgeCount x1_aim]) (st' := fun _ => [.int v6]) (st := []) hK qd1_38.2.2.2.2.2.2.2.2.2.2.2.2.1 cv_RX4_108 iv_yX5_isChange (As := [.int z3]) (kX5_isChange _ d h1 x1_edgeA x1_edgeB x1_edgeCost x1_edgeLine x1_change x1_away x1_steps x1_nodes x1_stepCount x1_open x1_openCount x1_seen x1_edgeCount x1_aim z3 e7) rfl rfl (Nat.le_of_ble_eq_true rfl) (by decide) 1 0 rfl rfl rfl [1] [0] rfl (by decide +kernel) rfl rfl [0, 1] (by decide +kernel) (fun _ => rfl) (fun _ => rfl) rfl rfl rfl (fun _ => rfl) (fun _ => ?_)
        refine J_if_eq (tg := 41) hK qd1_38.2.2.2.2.2.2.2.2.2.2.2.2.2.1 rfl rfl (fun hc23 => ?_) (fun hc23 => ?_)
        · have hs1 := ip hc23 hs1
          refine J_iinc (L' := [(3, .int (z3 + 1)), (0, .ref (h0 0)), (1, .int p1), (2, .int z2)]) (v := (z3 + 1)) hK qd1_39.2.2.2.2.2.1 rfl 3 rfl rfl (by decide) rfl ?_
          refine J_goto hK qd1_39.2.2.2.2.2.2.1 (n := 4) rfl ?_
          exact J_loc [1, 2, 3, 0] rfl (ih1 z2 (z3 + 1) (lpc hs1 hr1))
        · have hs1 := iq hc23 hs1
          refine J_aload_n hK qd1_38.2.2.2.2.2.2.2.2.2.2.2.2.2.2.1 rfl 0 rfl rfl ?_
          refine J_get hK fo_RX4_12 qd1_38.2.2.2.2.2.2.2.2.2.2.2.2.2.2.2.1 rfl 0 0 rfl rfl rfl ?_
          refine J_iload_n hK qd1_39.1 rfl 3 rfl rfl ?_
          obtain ⟨v8, e9, hs1⟩ := bs hs1
          refine J_callV (m := 2) (m' := 2) (ce' := 0) (sl' := 0) (gr := [gTr d h0 (h1 0) x0_left x0_earned x0_turnCost x0_turnWayless]) (gs' := fun _ => [gTr d h0 (h1 0) x0_left x0_earned x0_turnCost x0_turnWayless, gWy d h1 x1_edgeA x1_edgeB x1_edgeCost x1_edgeLine x1_change x1_away x1_steps x1_nodes x1_stepCount x1_open x1_openCount x1_seen x1_edgeCount x1_aim]) (st' := fun _ => [.int v8]) (st := []) hK qd1_39.2.1 cv_RX4_111 iv_yX5_placeAfter (As := [.int z3]) (kX5_placeAfter _ d h1 x1_edgeA x1_edgeB x1_edgeCost x1_edgeLine x1_change x1_away x1_steps x1_nodes x1_stepCount x1_open x1_openCount x1_seen x1_edgeCount x1_aim z3 e9) rfl rfl (Nat.le_of_ble_eq_true rfl) (by decide) 1 0 rfl rfl rfl [1] [0] rfl (by decide +kernel) rfl rfl [0, 1] (by decide +kernel) (fun _ => rfl) (fun _ => rfl) rfl rfl rfl (fun _ => rfl) (fun _ => ?_)
          refine J_iload_n hK qd1_39.2.2.1 rfl 1 rfl rfl ?_
          refine J_icmp_ne (tg := 41) hK qd1_39.2.2.2.1 rfl rfl (fun hc35 => ?_) (fun hc35 => ?_)
          · have hs1 := iq hc35 hs1
            refine J_iinc (L' := [(3, .int (z3 + 1)), (0, .ref (h0 0)), (1, .int p1), (2, .int z2)]) (v := (z3 + 1)) hK qd1_39.2.2.2.2.2.1 rfl 3 rfl rfl (by decide) rfl ?_
            refine J_goto hK qd1_39.2.2.2.2.2.2.1 (n := 4) rfl ?_
            exact J_loc [1, 2, 3, 0] rfl (ih1 z2 (z3 + 1) (lpc hs1 hr1))
          · have hs1 := ip hc35 hs1
            refine J_iinc (L' := [(2, .int (z2 + 1)), (0, .ref (h0 0)), (1, .int p1), (3, .int z3)]) (v := (z2 + 1)) hK qd1_39.2.2.2.2.1 rfl 2 rfl rfl (by decide) rfl ?_
            refine J_iinc (L' := [(3, .int (z3 + 1)), (2, .int (z2 + 1)), (0, .ref (h0 0)), (1, .int p1)]) (v := (z3 + 1)) hK qd1_39.2.2.2.2.2.1 rfl 3 rfl rfl (by decide) rfl ?_
            refine J_goto hK qd1_39.2.2.2.2.2.2.1 (n := 4) rfl ?_
            exact J_loc [2, 3, 1, 0] rfl (ih1 (z2 + 1) (z3 + 1) (lpc hs1 hr1))
  exact J_loc [2, 3, 1, 0] rfl (lo1 n (0) (1) hl1)

def fX4_stepsTo_s4 (p1 : Int32) (x1_edgeA : (Nat → Int32)) (x1_edgeB : (Nat → Int32)) (x1_edgeCost : (Nat → Int32)) (x1_edgeLine : (Nat → Int32)) (x1_change : (Nat → Int32)) (x1_away : (Nat → Int32)) (x1_steps : (Nat → Int32)) (x1_nodes : (Nat → Int32)) (x1_stepCount : Int32) (x1_open : (Nat → Int32)) (x1_openCount : Int32) (x1_seen : Int64) (x1_edgeCount : Int32) (x1_aim : Int32) (z2 : Int32) (z3 : Int32) : Option ((Int32 × Int32) ⊕ (Int32)) :=
  if x1_stepCount ≤ z3 then (some (.inr z2)) else ((fX5_placeAfter (x1_edgeA, x1_edgeB, x1_edgeCost, x1_edgeLine, x1_change, x1_away, x1_steps, x1_nodes, x1_stepCount, x1_open, x1_openCount, x1_seen, x1_edgeCount, x1_aim) z3).bind (fun v6 => if v6 = p1 then (some (.inl ((z2 + 1), (z3 + 1)))) else (some (.inl (z2, (z3 + 1))))))
def fX4_stepsTo (n : Nat) (X0 : TrT) (X1 : WyT) (p1 : Int32) : Option (Int32) :=
  u4 (fun (x0_left : (Nat → Int32)) (x0_earned : (Nat → Int32)) (x0_turnCost : Int32) (x0_turnWayless : Int32) => u14 (fun (x1_edgeA : (Nat → Int32)) (x1_edgeB : (Nat → Int32)) (x1_edgeCost : (Nat → Int32)) (x1_edgeLine : (Nat → Int32)) (x1_change : (Nat → Int32)) (x1_away : (Nat → Int32)) (x1_steps : (Nat → Int32)) (x1_nodes : (Nat → Int32)) (x1_stepCount : Int32) (x1_open : (Nat → Int32)) (x1_openCount : Int32) (x1_seen : Int64) (x1_edgeCount : Int32) (x1_aim : Int32) => (lp (u2 (fX4_stepsTo_s4 p1 x1_edgeA x1_edgeB x1_edgeCost x1_edgeLine x1_change x1_away x1_steps x1_nodes x1_stepCount x1_open x1_openCount x1_seen x1_edgeCount x1_aim)) n (0, 0)).bind (fun w5 => some w5)) X1) X0
set_option maxHeartbeats 4000000 in
set_option maxRecDepth 100000 in
theorem kX4_stepsTo (l : Launch) (d : DT) (h0 : Nat → Nat) (h1 : Nat → Nat) (n : Nat) (x0_left : (Nat → Int32)) (x0_earned : (Nat → Int32)) (x0_turnCost : Int32) (x0_turnWayless : Int32) (x1_edgeA : (Nat → Int32)) (x1_edgeB : (Nat → Int32)) (x1_edgeCost : (Nat → Int32)) (x1_edgeLine : (Nat → Int32)) (x1_change : (Nat → Int32)) (x1_away : (Nat → Int32)) (x1_steps : (Nat → Int32)) (x1_nodes : (Nat → Int32)) (x1_stepCount : Int32) (x1_open : (Nat → Int32)) (x1_openCount : Int32) (x1_seen : Int64) (x1_edgeCount : Int32) (x1_aim : Int32) (p1 : Int32)  {out : Int32} (hf : fX4_stepsTo n (x0_left, x0_earned, x0_turnCost, x0_turnWayless) (x1_edgeA, x1_edgeB, x1_edgeCost, x1_edgeLine, x1_change, x1_away, x1_steps, x1_nodes, x1_stepCount, x1_open, x1_openCount, x1_seen, x1_edgeCount, x1_aim) p1 = some out) : Ct l d yX4_stepsTo cX4_stepsTo 4 (some .int) { frames := 2, cells := 0, slots := 0, locals := 43 } [.ref (h0 0), .int p1] [gTr d h0 (h1 0) x0_left x0_earned x0_turnCost x0_turnWayless, gWy d h1 x1_edgeA x1_edgeB x1_edgeCost x1_edgeLine x1_change x1_away x1_steps x1_nodes x1_stepCount x1_open x1_openCount x1_seen x1_edgeCount x1_aim] (fun _ : Unit => (some (.int out), [gTr d h0 (h1 0) x0_left x0_earned x0_turnCost x0_turnWayless, gWy d h1 x1_edgeA x1_edgeB x1_edgeCost x1_edgeLine x1_change x1_away x1_steps x1_nodes x1_stepCount x1_open x1_openCount x1_seen x1_edgeCount x1_aim])) := by
  refine Ct.of (by decide) (Nat.le_of_ble_eq_true rfl) ?_
  intro Φ hl hK hR
  subst hl
  have hK : Ok d Φ RX4 "stepsTo" cX4_stepsTo 4 (some .int) { frames := 2, cells := 0, slots := 0, locals := 43 } := hK
  unfold fX4_stepsTo at hf
  have hf := un4 hf
  have hf := un14 hf
  show J d Φ 4 [gTr d h0 (h1 0) x0_left x0_earned x0_turnCost x0_turnWayless, gWy d h1 x1_edgeA x1_edgeB x1_edgeCost x1_edgeLine x1_change x1_away x1_steps x1_nodes x1_stepCount x1_open x1_openCount x1_seen x1_edgeCount x1_aim] 0 0 0 [(0, .ref (h0 0)), (1, .int p1)] []
  refine J_iconst (v := 0) hK qd1_40.1 rfl (by decide) ?_
  refine J_istore_n (L' := [(2, .int (0)), (0, .ref (h0 0)), (1, .int p1)]) hK qd1_40.2.1 rfl rfl (by decide) rfl ?_
  refine J_iconst (v := 0) hK qd1_40.2.2.1 rfl (by decide) ?_
  refine J_istore_n (L' := [(3, .int (0)), (2, .int (0)), (0, .ref (h0 0)), (1, .int p1)]) hK qd1_40.2.2.2.1 rfl rfl (by decide) rfl ?_
  obtain ⟨e4, hl1, hf⟩ := bs hf
  have hx1_36 : ∀ (w5 : Int32), w5 = e4 → J d Φ 4 [gTr d h0 (h1 0) x0_left x0_earned x0_turnCost x0_turnWayless, gWy d h1 x1_edgeA x1_edgeB x1_edgeCost x1_edgeLine x1_change x1_away x1_steps x1_nodes x1_stepCount x1_open x1_openCount x1_seen x1_edgeCount x1_aim] 0 0 36 [(2, .int w5)] [] := by
    intro w5 he
    rw [← he] at hf
    refine J_iload_n hK qd1_41.2.2.1 rfl 0 rfl rfl ?_
    obtain rfl := Option.some.inj hf
    exact J_iret hK hR qd1_41.2.2.2.1 () rfl (by decide) (by decide)
  have lo1 : ∀ (k : Nat) (z2 : Int32) (z3 : Int32), lp (u2 (fX4_stepsTo_s4 p1 x1_edgeA x1_edgeB x1_edgeCost x1_edgeLine x1_change x1_away x1_steps x1_nodes x1_stepCount x1_open x1_openCount x1_seen x1_edgeCount x1_aim)) k (z2, z3) = some e4 → J d Φ 4 [gTr d h0 (h1 0) x0_left x0_earned x0_turnCost x0_turnWayless, gWy d h1 x1_edgeA x1_edgeB x1_edgeCost x1_edgeLine x1_change x1_away x1_steps x1_nodes x1_stepCount x1_open x1_openCount x1_seen x1_edgeCount x1_aim] 0 0 4 [(0, .ref (h0 0)), (1, .int p1), (2, .int z2), (3, .int z3)] [] := by
    intro k
    induction k with
    | zero => intro z2 z3 h; cases h
    | succ k ih1 =>
      intro z2 z3 h
      obtain ⟨k2, rr1, hk2, hs1, hr1⟩ := lp_ok h
      cases hk2
      have hs1 : fX4_stepsTo_s4 p1 x1_edgeA x1_edgeB x1_edgeCost x1_edgeLine x1_change x1_away x1_steps x1_nodes x1_stepCount x1_open x1_openCount x1_seen x1_edgeCount x1_aim z2 z3 = some rr1 := hs1
      unfold fX4_stepsTo_s4 at hs1
      refine J_iload_n hK qd1_40.2.2.2.2.1 rfl 3 rfl rfl ?_
      refine J_aload_n hK qd1_40.2.2.2.2.2.1 rfl 0 rfl rfl ?_
      refine J_get hK fo_RX4_12 qd1_40.2.2.2.2.2.2.1 rfl 0 0 rfl rfl rfl ?_
      refine J_get hK fo_RX4_74 qd1_40.2.2.2.2.2.2.2.1 rfl 1 0 rfl rfl rfl ?_
      refine J_icmp_ge (tg := 36) hK qd1_40.2.2.2.2.2.2.2.2.1 rfl rfl (fun hc12 => ?_) (fun hc12 => ?_)
      · have hs1 := ip hc12 hs1
        exact J_loc [2] rfl (hx1_36 z2 (lpx hs1 hr1))
      · have hs1 := iq hc12 hs1
        refine J_aload_n hK qd1_40.2.2.2.2.2.2.2.2.2.1 rfl 0 rfl rfl ?_
        refine J_get hK fo_RX4_12 qd1_40.2.2.2.2.2.2.2.2.2.2.1 rfl 0 0 rfl rfl rfl ?_
        refine J_iload_n hK qd1_40.2.2.2.2.2.2.2.2.2.2.2.1 rfl 3 rfl rfl ?_
        obtain ⟨v6, e7, hs1⟩ := bs hs1
        refine J_callV (m := 2) (m' := 2) (ce' := 0) (sl' := 0) (gr := [gTr d h0 (h1 0) x0_left x0_earned x0_turnCost x0_turnWayless]) (gs' := fun _ => [gTr d h0 (h1 0) x0_left x0_earned x0_turnCost x0_turnWayless, gWy d h1 x1_edgeA x1_edgeB x1_edgeCost x1_edgeLine x1_change x1_away x1_steps x1_nodes x1_stepCount x1_open x1_openCount x1_seen x1_edgeCount x1_aim]) (st' := fun _ => [.int v6]) (st := []) hK qd1_40.2.2.2.2.2.2.2.2.2.2.2.2.1 cv_RX4_111 iv_yX5_placeAfter (As := [.int z3]) (kX5_placeAfter _ d h1 x1_edgeA x1_edgeB x1_edgeCost x1_edgeLine x1_change x1_away x1_steps x1_nodes x1_stepCount x1_open x1_openCount x1_seen x1_edgeCount x1_aim z3 e7) rfl rfl (Nat.le_of_ble_eq_true rfl) (by decide) 1 0 rfl rfl rfl [1] [0] rfl (by decide +kernel) rfl rfl [0, 1] (by decide +kernel) (fun _ => rfl) (fun _ => rfl) rfl rfl rfl (fun _ => rfl) (fun _ => ?_)
        refine J_iload_n hK qd1_40.2.2.2.2.2.2.2.2.2.2.2.2.2.1 rfl 1 rfl rfl ?_
        refine J_icmp_ne (tg := 30) hK qd1_40.2.2.2.2.2.2.2.2.2.2.2.2.2.2.1 rfl rfl (fun hc24 => ?_) (fun hc24 => ?_)
        · have hs1 := iq hc24 hs1
          refine J_iinc (L' := [(3, .int (z3 + 1)), (0, .ref (h0 0)), (1, .int p1), (2, .int z2)]) (v := (z3 + 1)) hK qd1_41.1 rfl 3 rfl rfl (by decide) rfl ?_
          refine J_goto hK qd1_41.2.1 (n := 4) rfl ?_
          exact J_loc [1, 2, 3, 0] rfl (ih1 z2 (z3 + 1) (lpc hs1 hr1))
        · have hs1 := ip hc24 hs1
          refine J_iinc (L' := [(2, .int (z2 + 1)), (0, .ref (h0 0)), (1, .int p1), (3, .int z3)]) (v := (z2 + 1)) hK qd1_40.2.2.2.2.2.2.2.2.2.2.2.2.2.2.2.1 rfl 2 rfl rfl (by decide) rfl ?_
          refine J_iinc (L' := [(3, .int (z3 + 1)), (2, .int (z2 + 1)), (0, .ref (h0 0)), (1, .int p1)]) (v := (z3 + 1)) hK qd1_41.1 rfl 3 rfl rfl (by decide) rfl ?_
          refine J_goto hK qd1_41.2.1 (n := 4) rfl ?_
          exact J_loc [2, 3, 1, 0] rfl (ih1 (z2 + 1) (z3 + 1) (lpc hs1 hr1))
  exact J_loc [2, 3, 1, 0] rfl (lo1 n (0) (0) hl1)

def fX4_tonsAt_j72 (x2_lineCount : Int32) (x2_goodsCount : Int32) (x2_workCount : Int32) (x2_years : Int32) (x2_lines : (Nat → Int32)) (x2_goods : (Nat → Int32)) (x2_works : (Nat → Int32)) (x2_change : (Nat → Int32)) (x2_coin : (Nat → Int32)) (x2_knownFree : (Nat → Int32)) (x2_isKnown : Int32) (z13 : Int32) (z14 : Int32) (g39 : (Nat → Int32)) (g40 : (Nat → Int32)) (g41 : (Nat → Int32)) (g42 : Int32) (g43 : (Nat → Int32)) (g44 : Int32) (g45 : Int64) (g46 : Int32) (y48 : Int32) : Option ((Int32 × Int32 × (Nat → Int32) × (Nat → Int32) × (Nat → Int32) × Int32 × (Nat → Int32) × Int32 × Int64 × Int32) ⊕ (Int32 × (Nat → Int32) × (Nat → Int32) × (Nat → Int32) × Int32 × (Nat → Int32) × Int32 × Int64 × Int32)) :=
  (fX1_ofGoods (x2_lineCount, x2_goodsCount, x2_workCount, x2_years, x2_lines, x2_goods, x2_works, x2_change, x2_coin, x2_knownFree, x2_isKnown) z14 (2)).bind (fun v49 => some (.inl ((z13 + (v49 * y48)), (z14 + 1), g39, g40, g41, g42, g43, g44, g45, g46)))
def fX4_tonsAt_s18 (n : Nat) (p2 : Int32) (p3 : Int32) (x0_left : (Nat → Int32)) (x0_earned : (Nat → Int32)) (x0_turnCost : Int32) (x0_turnWayless : Int32) (x2_lineCount : Int32) (x2_goodsCount : Int32) (x2_workCount : Int32) (x2_years : Int32) (x2_lines : (Nat → Int32)) (x2_goods : (Nat → Int32)) (x2_works : (Nat → Int32)) (x2_change : (Nat → Int32)) (x2_coin : (Nat → Int32)) (x2_knownFree : (Nat → Int32)) (x2_isKnown : Int32) (g4 : (Nat → Int32)) (g5 : (Nat → Int32)) (g6 : (Nat → Int32)) (g7 : (Nat → Int32)) (g8 : (Nat → Int32)) (g9 : Int32) (z13 : Int32) (z14 : Int32) (z15 : (Nat → Int32)) (z16 : (Nat → Int32)) (z17 : (Nat → Int32)) (z18 : Int32) (z19 : (Nat → Int32)) (z20 : Int32) (z21 : Int64) (z22 : Int32) : Option ((Int32 × Int32 × (Nat → Int32) × (Nat → Int32) × (Nat → Int32) × Int32 × (Nat → Int32) × Int32 × Int64 × Int32) ⊕ (Int32 × (Nat → Int32) × (Nat → Int32) × (Nat → Int32) × Int32 × (Nat → Int32) × Int32 × Int64 × Int32)) :=
  if x2_goodsCount ≤ z14 then (some (.inr (z13, z15, z16, z17, z18, z19, z20, z21, z22))) else ((fX1_ofGoods (x2_lineCount, x2_goodsCount, x2_workCount, x2_years, x2_lines, x2_goods, x2_works, x2_change, x2_coin, x2_knownFree, x2_isKnown) z14 (0)).bind (fun v33 => (fX1_ofGoods (x2_lineCount, x2_goodsCount, x2_workCount, x2_years, x2_lines, x2_goods, x2_works, x2_change, x2_coin, x2_knownFree, x2_isKnown) z14 (1)).bind (fun v35 => (fX5_trace n (g4, g5, g6, g7, g8, z15, z16, z17, z18, z19, z20, z21, g9, z22) v33 v35).bind (u2 fun v37 G38 => u8 (fun g39 g40 g41 g42 g43 g44 g45 g46 => if v37 = 0 then (some (.inl (z13, (z14 + 1), g39, g40, g41, g42, g43, g44, g45, g46))) else (if p3 = 0 then ((fX4_stepsTo n (x0_left, x0_earned, x0_turnCost, x0_turnWayless) (g4, g5, g6, g7, g8, g39, g40, g41, g42, g43, g44, g45, g9, g46) p2).bind (fun v51 => fX4_tonsAt_j72 x2_lineCount x2_goodsCount x2_workCount x2_years x2_lines x2_goods x2_works x2_change x2_coin x2_knownFree x2_isKnown z13 z14 g39 g40 g41 g42 g43 g44 g45 g46 (mmin (1) v51))) else ((fX4_changesAt n (x0_left, x0_earned, x0_turnCost, x0_turnWayless) (g4, g5, g6, g7, g8, g39, g40, g41, g42, g43, g44, g45, g9, g46) p2).bind (fun v53 => fX4_tonsAt_j72 x2_lineCount x2_goodsCount x2_workCount x2_years x2_lines x2_goods x2_works x2_change x2_coin x2_knownFree x2_isKnown z13 z14 g39 g40 g41 g42 g43 g44 g45 g46 v53)))) G38))))
def fX4_tonsAt (n : Nat) (X0 : TrT) (X1 : WyT) (X2 : LdT) (p2 : Int32) (p3 : Int32) : Option (Int32 × ((Nat → Int32) × (Nat → Int32) × (Nat → Int32) × (Nat → Int32) × (Nat → Int32) × (Nat → Int32) × (Nat → Int32) × (Nat → Int32) × Int32 × (Nat → Int32) × Int32 × Int64 × Int32 × Int32)) :=
  u4 (fun (x0_left : (Nat → Int32)) (x0_earned : (Nat → Int32)) (x0_turnCost : Int32) (x0_turnWayless : Int32) => u14 (fun (x1_edgeA : (Nat → Int32)) (x1_edgeB : (Nat → Int32)) (x1_edgeCost : (Nat → Int32)) (x1_edgeLine : (Nat → Int32)) (x1_change : (Nat → Int32)) (x1_away : (Nat → Int32)) (x1_steps : (Nat → Int32)) (x1_nodes : (Nat → Int32)) (x1_stepCount : Int32) (x1_open : (Nat → Int32)) (x1_openCount : Int32) (x1_seen : Int64) (x1_edgeCount : Int32) (x1_aim : Int32) => u11 (fun (x2_lineCount : Int32) (x2_goodsCount : Int32) (x2_workCount : Int32) (x2_years : Int32) (x2_lines : (Nat → Int32)) (x2_goods : (Nat → Int32)) (x2_works : (Nat → Int32)) (x2_change : (Nat → Int32)) (x2_coin : (Nat → Int32)) (x2_knownFree : (Nat → Int32)) (x2_isKnown : Int32) => (fX1_linesThere n (x2_lineCount, x2_goodsCount, x2_workCount, x2_years, x2_lines, x2_goods, x2_works, x2_change, x2_coin, x2_knownFree, x2_isKnown)).bind (fun v1 => (fX5_prepare n (x1_edgeA, x1_edgeB, x1_edgeCost, x1_edgeLine, x1_change, x1_away, x1_steps, x1_nodes, x1_stepCount, x1_open, x1_openCount, x1_seen, x1_edgeCount, x1_aim) (x2_lineCount, x2_goodsCount, x2_workCount, x2_years, x2_lines, x2_goods, x2_works, x2_change, x2_coin, x2_knownFree, x2_isKnown) v1).bind (fun G3 => u7 (fun g4 g5 g6 g7 g8 g9 g10 => (lp (u10 (fX4_tonsAt_s18 n p2 p3 x0_left x0_earned x0_turnCost x0_turnWayless x2_lineCount x2_goodsCount x2_workCount x2_years x2_lines x2_goods x2_works x2_change x2_coin x2_knownFree x2_isKnown g4 g5 g6 g7 g8 g9)) n (0, 0, x1_away, x1_steps, x1_nodes, x1_stepCount, x1_open, x1_openCount, x1_seen, g10)).bind (u9 fun w24 w25 w26 w27 w28 w29 w30 w31 w32 => some (w24, (g4, g5, g6, g7, g8, w25, w26, w27, w28, w29, w30, w31, g9, w32)))) G3))) X2) X1) X0
set_option maxHeartbeats 4000000 in
set_option maxRecDepth 100000 in
theorem kX4_tonsAt (l : Launch) (d : DT) (h0 : Nat → Nat) (h1 : Nat → Nat) (h2 : Nat → Nat) (n : Nat) (x0_left : (Nat → Int32)) (x0_earned : (Nat → Int32)) (x0_turnCost : Int32) (x0_turnWayless : Int32) (x1_edgeA : (Nat → Int32)) (x1_edgeB : (Nat → Int32)) (x1_edgeCost : (Nat → Int32)) (x1_edgeLine : (Nat → Int32)) (x1_change : (Nat → Int32)) (x1_away : (Nat → Int32)) (x1_steps : (Nat → Int32)) (x1_nodes : (Nat → Int32)) (x1_stepCount : Int32) (x1_open : (Nat → Int32)) (x1_openCount : Int32) (x1_seen : Int64) (x1_edgeCount : Int32) (x1_aim : Int32) (x2_lineCount : Int32) (x2_goodsCount : Int32) (x2_workCount : Int32) (x2_years : Int32) (x2_lines : (Nat → Int32)) (x2_goods : (Nat → Int32)) (x2_works : (Nat → Int32)) (x2_change : (Nat → Int32)) (x2_coin : (Nat → Int32)) (x2_knownFree : (Nat → Int32)) (x2_isKnown : Int32) (p2 : Int32) (p3 : Int32)  {out : Int32 × ((Nat → Int32) × (Nat → Int32) × (Nat → Int32) × (Nat → Int32) × (Nat → Int32) × (Nat → Int32) × (Nat → Int32) × (Nat → Int32) × Int32 × (Nat → Int32) × Int32 × Int64 × Int32 × Int32)} (hf : fX4_tonsAt n (x0_left, x0_earned, x0_turnCost, x0_turnWayless) (x1_edgeA, x1_edgeB, x1_edgeCost, x1_edgeLine, x1_change, x1_away, x1_steps, x1_nodes, x1_stepCount, x1_open, x1_openCount, x1_seen, x1_edgeCount, x1_aim) (x2_lineCount, x2_goodsCount, x2_workCount, x2_years, x2_lines, x2_goods, x2_works, x2_change, x2_coin, x2_knownFree, x2_isKnown) p2 p3 = some out) : Ct l d yX4_tonsAt cX4_tonsAt 7 (some .int) { frames := 5, cells := 0, slots := 0, locals := 131 } [.ref (h0 0), .ref (h2 0), .int p2, .int p3] [gTr d h0 (h1 0) x0_left x0_earned x0_turnCost x0_turnWayless, gWy d h1 x1_edgeA x1_edgeB x1_edgeCost x1_edgeLine x1_change x1_away x1_steps x1_nodes x1_stepCount x1_open x1_openCount x1_seen x1_edgeCount x1_aim, gLd d h2 x2_lineCount x2_goodsCount x2_workCount x2_years x2_lines x2_goods x2_works x2_change x2_coin x2_knownFree x2_isKnown] (fun _ : Unit => (some (.int out.1), [gTr d h0 (h1 0) x0_left x0_earned x0_turnCost x0_turnWayless, gWy d h1 (out.2.1) (out.2.2.1) (out.2.2.2.1) (out.2.2.2.2.1) (out.2.2.2.2.2.1) (out.2.2.2.2.2.2.1) (out.2.2.2.2.2.2.2.1) (out.2.2.2.2.2.2.2.2.1) (out.2.2.2.2.2.2.2.2.2.1) (out.2.2.2.2.2.2.2.2.2.2.1) (out.2.2.2.2.2.2.2.2.2.2.2.1) (out.2.2.2.2.2.2.2.2.2.2.2.2.1) (out.2.2.2.2.2.2.2.2.2.2.2.2.2.1) (out.2.2.2.2.2.2.2.2.2.2.2.2.2.2), gLd d h2 x2_lineCount x2_goodsCount x2_workCount x2_years x2_lines x2_goods x2_works x2_change x2_coin x2_knownFree x2_isKnown])) := by
  refine Ct.of (by decide) (Nat.le_of_ble_eq_true rfl) ?_
  intro Φ hl hK hR
  subst hl
  have hK : Ok d Φ RX4 "tonsAt" cX4_tonsAt 7 (some .int) { frames := 5, cells := 0, slots := 0, locals := 131 } := hK
  unfold fX4_tonsAt at hf
  have hf := un4 hf
  have hf := un14 hf
  have hf := un11 hf
  show J d Φ 7 [gTr d h0 (h1 0) x0_left x0_earned x0_turnCost x0_turnWayless, gWy d h1 x1_edgeA x1_edgeB x1_edgeCost x1_edgeLine x1_change x1_away x1_steps x1_nodes x1_stepCount x1_open x1_openCount x1_seen x1_edgeCount x1_aim, gLd d h2 x2_lineCount x2_goodsCount x2_workCount x2_years x2_lines x2_goods x2_works x2_change x2_coin x2_knownFree x2_isKnown] 0 0 0 [(0, .ref (h0 0)), (1, .ref (h2 0)), (2, .int p2), (3, .int p3)] []
  refine J_aload_n hK qd1_34.1 rfl 0 rfl rfl ?_
  refine J_get hK fo_RX4_12 qd1_34.2.1 rfl 0 0 rfl rfl rfl ?_
  refine J_aload_n hK qd1_34.2.2.1 rfl 1 rfl rfl ?_
  refine J_aload_n hK qd1_34.2.2.2.1 rfl 1 rfl rfl ?_
  obtain ⟨v1, e2, hf⟩ := bs hf
  refine J_callV (m := 3) (m' := 3) (ce' := 0) (sl' := 0) (gr := [gTr d h0 (h1 0) x0_left x0_earned x0_turnCost x0_turnWayless, gWy d h1 x1_edgeA x1_edgeB x1_edgeCost x1_edgeLine x1_change x1_away x1_steps x1_nodes x1_stepCount x1_open x1_openCount x1_seen x1_edgeCount x1_aim]) (gs' := fun _ => [gTr d h0 (h1 0) x0_left x0_earned x0_turnCost x0_turnWayless, gWy d h1 x1_edgeA x1_edgeB x1_edgeCost x1_edgeLine x1_change x1_away x1_steps x1_nodes x1_stepCount x1_open x1_openCount x1_seen x1_edgeCount x1_aim, gLd d h2 x2_lineCount x2_goodsCount x2_workCount x2_years x2_lines x2_goods x2_works x2_change x2_coin x2_knownFree x2_isKnown]) (st' := fun _ => [.int v1, .ref (h2 0), .ref (h1 0)]) (st := [.ref (h2 0), .ref (h1 0)]) hK qd1_34.2.2.2.2.1 cv_RX4_25 iv_yX1_linesThere (As := []) (kX1_linesThere _ d h2 n x2_lineCount x2_goodsCount x2_workCount x2_years x2_lines x2_goods x2_works x2_change x2_coin x2_knownFree x2_isKnown e2) rfl rfl (Nat.le_of_ble_eq_true rfl) (by decide) 2 0 rfl rfl rfl [2] [0, 1] rfl (by decide +kernel) rfl rfl [0, 1, 2] (by decide +kernel) (fun _ => rfl) (fun _ => rfl) rfl rfl rfl (fun _ => rfl) (fun _ => ?_)
  obtain ⟨⟨g4, g5, g6, g7, g8, g9, g10⟩, e11, hf⟩ := bs hf
  have hf := un7 hf
  refine J_callV (m := 3) (m' := 3) (ce' := 0) (sl' := 0) (gr := [gTr d h0 (h1 0) x0_left x0_earned x0_turnCost x0_turnWayless]) (gs' := fun _ => [gTr d h0 (h1 0) x0_left x0_earned x0_turnCost x0_turnWayless, gWy d h1 g4 g5 g6 g7 g8 x1_away x1_steps x1_nodes x1_stepCount x1_open x1_openCount x1_seen g9 g10, gLd d h2 x2_lineCount x2_goodsCount x2_workCount x2_years x2_lines x2_goods x2_works x2_change x2_coin x2_knownFree x2_isKnown]) (st' := fun _ => []) (st := []) hK qd1_34.2.2.2.2.2.1 cv_RX4_31 iv_yX5_prepare (As := [.ref (h2 0), .int v1]) (kX5_prepare _ d h1 h2 n x1_edgeA x1_edgeB x1_edgeCost x1_edgeLine x1_change x1_away x1_steps x1_nodes x1_stepCount x1_open x1_openCount x1_seen x1_edgeCount x1_aim x2_lineCount x2_goodsCount x2_workCount x2_years x2_lines x2_goods x2_works x2_change x2_coin x2_knownFree x2_isKnown v1 e11) rfl rfl (Nat.le_of_ble_eq_true rfl) (by decide) 1 0 rfl rfl rfl [1, 2] [0] rfl (by decide +kernel) rfl rfl [0, 1, 2] (by decide +kernel) (fun _ => rfl) (fun _ => rfl) rfl rfl rfl (fun _ => rfl) (fun _ => ?_)
  refine J_iconst (v := 0) hK qd1_34.2.2.2.2.2.2.1 rfl (by decide) ?_
  refine J_istore (L' := [(4, .int (0)), (0, .ref (h0 0)), (1, .ref (h2 0)), (2, .int p2), (3, .int p3)]) hK qd1_34.2.2.2.2.2.2.2.1 rfl (by decide) rfl ?_
  refine J_iconst (v := 0) hK qd1_34.2.2.2.2.2.2.2.2.1 rfl (by decide) ?_
  refine J_istore (L' := [(5, .int (0)), (4, .int (0)), (0, .ref (h0 0)), (1, .ref (h2 0)), (2, .int p2), (3, .int p3)]) hK qd1_34.2.2.2.2.2.2.2.2.2.1 rfl (by decide) rfl ?_
  obtain ⟨e23, hl12, hf⟩ := bs hf
  have hx12_95 : ∀ (w24 : Int32) (w25 : (Nat → Int32)) (w26 : (Nat → Int32)) (w27 : (Nat → Int32)) (w28 : Int32) (w29 : (Nat → Int32)) (w30 : Int32) (w31 : Int64) (w32 : Int32), (w24, w25, w26, w27, w28, w29, w30, w31, w32) = e23 → J d Φ 7 [gTr d h0 (h1 0) x0_left x0_earned x0_turnCost x0_turnWayless, gWy d h1 g4 g5 g6 g7 g8 w25 w26 w27 w28 w29 w30 w31 g9 w32, gLd d h2 x2_lineCount x2_goodsCount x2_workCount x2_years x2_lines x2_goods x2_works x2_change x2_coin x2_knownFree x2_isKnown] 0 0 95 [(4, .int w24)] [] := by
    intro w24 w25 w26 w27 w28 w29 w30 w31 w32 he
    rw [← he] at hf
    have hf := un9 hf
    refine J_iload hK qd1_37.2.1 rfl 0 rfl ?_
    obtain rfl := Option.some.inj hf
    exact J_iret hK hR qd1_37.2.2.1 () rfl (by decide) (by decide)
  have lo12 : ∀ (k : Nat) (z13 : Int32) (z14 : Int32) (z15 : (Nat → Int32)) (z16 : (Nat → Int32)) (z17 : (Nat → Int32)) (z18 : Int32) (z19 : (Nat → Int32)) (z20 : Int32) (z21 : Int64) (z22 : Int32), lp (u10 (fX4_tonsAt_s18 n p2 p3 x0_left x0_earned x0_turnCost x0_turnWayless x2_lineCount x2_goodsCount x2_workCount x2_years x2_lines x2_goods x2_works x2_change x2_coin x2_knownFree x2_isKnown g4 g5 g6 g7 g8 g9)) k (z13, z14, z15, z16, z17, z18, z19, z20, z21, z22) = some e23 → J d Φ 7 [gTr d h0 (h1 0) x0_left x0_earned x0_turnCost x0_turnWayless, gWy d h1 g4 g5 g6 g7 g8 z15 z16 z17 z18 z19 z20 z21 g9 z22, gLd d h2 x2_lineCount x2_goodsCount x2_workCount x2_years x2_lines x2_goods x2_works x2_change x2_coin x2_knownFree x2_isKnown] 0 0 18 [(0, .ref (h0 0)), (1, .ref (h2 0)), (2, .int p2), (3, .int p3), (4, .int z13), (5, .int z14)] [] := by
    intro k
    induction k with
    | zero => intro z13 z14 z15 z16 z17 z18 z19 z20 z21 z22 h; cases h
    | succ k ih12 =>
      intro z13 z14 z15 z16 z17 z18 z19 z20 z21 z22 h
      obtain ⟨k2, rr12, hk2, hs12, hr12⟩ := lp_ok h
      cases hk2
      have hs12 : fX4_tonsAt_s18 n p2 p3 x0_left x0_earned x0_turnCost x0_turnWayless x2_lineCount x2_goodsCount x2_workCount x2_years x2_lines x2_goods x2_works x2_change x2_coin x2_knownFree x2_isKnown g4 g5 g6 g7 g8 g9 z13 z14 z15 z16 z17 z18 z19 z20 z21 z22 = some rr12 := hs12
      unfold fX4_tonsAt_s18 at hs12
      refine J_iload hK qd1_34.2.2.2.2.2.2.2.2.2.2.1 rfl 5 rfl ?_
      refine J_aload_n hK qd1_34.2.2.2.2.2.2.2.2.2.2.2.1 rfl 1 rfl rfl ?_
      refine J_get hK fo_RX4_43 qd1_34.2.2.2.2.2.2.2.2.2.2.2.2.1 rfl 2 0 rfl rfl rfl ?_
      refine J_icmp_ge (tg := 95) hK qd1_34.2.2.2.2.2.2.2.2.2.2.2.2.2.1 rfl rfl (fun hc24 => ?_) (fun hc24 => ?_)
      · have hs12 := ip hc24 hs12
        exact J_loc [4] rfl (hx12_95 z13 z15 z16 z17 z18 z19 z20 z21 z22 (lpx hs12 hr12))
      · have hs12 := iq hc24 hs12
        refine J_aload_n hK qd1_34.2.2.2.2.2.2.2.2.2.2.2.2.2.2.1 rfl 0 rfl rfl ?_
        refine J_get hK fo_RX4_12 qd1_34.2.2.2.2.2.2.2.2.2.2.2.2.2.2.2.1 rfl 0 0 rfl rfl rfl ?_
        refine J_aload_n hK qd1_35.1 rfl 1 rfl rfl ?_
        refine J_iload hK qd1_35.2.1 rfl 5 rfl ?_
        refine J_iconst (v := 0) hK qd1_35.2.2.1 rfl (by decide) ?_
        obtain ⟨v33, e34, hs12⟩ := bs hs12
        refine J_callV (m := 3) (m' := 3) (ce' := 0) (sl' := 0) (gr := [gTr d h0 (h1 0) x0_left x0_earned x0_turnCost x0_turnWayless, gWy d h1 g4 g5 g6 g7 g8 z15 z16 z17 z18 z19 z20 z21 g9 z22]) (gs' := fun _ => [gTr d h0 (h1 0) x0_left x0_earned x0_turnCost x0_turnWayless, gWy d h1 g4 g5 g6 g7 g8 z15 z16 z17 z18 z19 z20 z21 g9 z22, gLd d h2 x2_lineCount x2_goodsCount x2_workCount x2_years x2_lines x2_goods x2_works x2_change x2_coin x2_knownFree x2_isKnown]) (st' := fun _ => [.int v33, .ref (h1 0)]) (st := [.ref (h1 0)]) hK qd1_35.2.2.2.1 cv_RX4_47 iv_yX1_ofGoods (As := [.int z14, .int (0)]) (kX1_ofGoods _ d h2 x2_lineCount x2_goodsCount x2_workCount x2_years x2_lines x2_goods x2_works x2_change x2_coin x2_knownFree x2_isKnown z14 (0) e34) rfl rfl (Nat.le_of_ble_eq_true rfl) (by decide) 2 0 rfl rfl rfl [2] [0, 1] rfl (by decide +kernel) rfl rfl [0, 1, 2] (by decide +kernel) (fun _ => rfl) (fun _ => rfl) rfl rfl rfl (fun _ => rfl) (fun _ => ?_)
        refine J_aload_n hK qd1_35.2.2.2.2.1 rfl 1 rfl rfl ?_
        refine J_iload hK qd1_35.2.2.2.2.2.1 rfl 5 rfl ?_
        refine J_iconst (v := 1) hK qd1_35.2.2.2.2.2.2.1 rfl (by decide) ?_
        obtain ⟨v35, e36, hs12⟩ := bs hs12
        refine J_callV (m := 3) (m' := 3) (ce' := 0) (sl' := 0) (gr := [gTr d h0 (h1 0) x0_left x0_earned x0_turnCost x0_turnWayless, gWy d h1 g4 g5 g6 g7 g8 z15 z16 z17 z18 z19 z20 z21 g9 z22]) (gs' := fun _ => [gTr d h0 (h1 0) x0_left x0_earned x0_turnCost x0_turnWayless, gWy d h1 g4 g5 g6 g7 g8 z15 z16 z17 z18 z19 z20 z21 g9 z22, gLd d h2 x2_lineCount x2_goodsCount x2_workCount x2_years x2_lines x2_goods x2_works x2_change x2_coin x2_knownFree x2_isKnown]) (st' := fun _ => [.int v35, .int v33, .ref (h1 0)]) (st := [.int v33, .ref (h1 0)]) hK qd1_35.2.2.2.2.2.2.2.1 cv_RX4_47 iv_yX1_ofGoods (As := [.int z14, .int (1)]) (kX1_ofGoods _ d h2 x2_lineCount x2_goodsCount x2_workCount x2_years x2_lines x2_goods x2_works x2_change x2_coin x2_knownFree x2_isKnown z14 (1) e36) rfl rfl (Nat.le_of_ble_eq_true rfl) (by decide) 2 0 rfl rfl rfl [2] [0, 1] rfl (by decide +kernel) rfl rfl [0, 1, 2] (by decide +kernel) (fun _ => rfl) (fun _ => rfl) rfl rfl rfl (fun _ => rfl) (fun _ => ?_)
        obtain ⟨⟨v37, ⟨g39, g40, g41, g42, g43, g44, g45, g46⟩⟩, e47, hs12⟩ := bs hs12
        have hs12 := un2 hs12
        have hs12 := un8 hs12
        refine J_callV (m := 3) (m' := 3) (ce' := 0) (sl' := 0) (gr := [gTr d h0 (h1 0) x0_left x0_earned x0_turnCost x0_turnWayless, gLd d h2 x2_lineCount x2_goodsCount x2_workCount x2_years x2_lines x2_goods x2_works x2_change x2_coin x2_knownFree x2_isKnown]) (gs' := fun _ => [gTr d h0 (h1 0) x0_left x0_earned x0_turnCost x0_turnWayless, gWy d h1 g4 g5 g6 g7 g8 g39 g40 g41 g42 g43 g44 g45 g9 g46, gLd d h2 x2_lineCount x2_goodsCount x2_workCount x2_years x2_lines x2_goods x2_works x2_change x2_coin x2_knownFree x2_isKnown]) (st' := fun _ => [.int v37]) (st := []) hK qd1_35.2.2.2.2.2.2.2.2.1 cv_RX4_67 iv_yX5_trace (As := [.int v33, .int v35]) (kX5_trace _ d h1 n g4 g5 g6 g7 g8 z15 z16 z17 z18 z19 z20 z21 g9 z22 v33 v35 e47) rfl rfl (Nat.le_of_ble_eq_true rfl) (by decide) 1 0 rfl rfl rfl [1] [0, 2] rfl (by decide +kernel) rfl rfl [0, 2, 1] (by decide +kernel) (fun _ => rfl) (fun _ => rfl) rfl rfl rfl (fun _ => rfl) (fun _ => ?_)
        refine J_if_eq (tg := 89) hK qd1_35.2.2.2.2.2.2.2.2.2.1 rfl rfl (fun hc48 => ?_) (fun hc48 => ?_)
        · have hs12 := ip hc48 hs12
          refine J_iinc (L' := [(5, .int (z14 + 1)), (0, .ref (h0 0)), (1, .ref (h2 0)), (2, .int p2), (3, .int p3), (4, .int z13)]) (v := (z14 + 1)) hK qd1_36.2.2.2.2.2.2.2.2.2.2.2.2.2.2.2.1 rfl 5 rfl rfl (by decide) rfl ?_
          refine J_goto hK qd1_37.1 (n := 18) rfl ?_
          exact J_loc [1, 2, 3, 4, 5, 0] rfl (ih12 z13 (z14 + 1) g39 g40 g41 g42 g43 g44 g45 g46 (lpc hs12 hr12))
        · have hs12 := iq hc48 hs12
          refine J_iload_n hK qd1_35.2.2.2.2.2.2.2.2.2.2.1 rfl 3 rfl rfl ?_
          have j72 : ∀ (y48 : Int32), fX4_tonsAt_j72 x2_lineCount x2_goodsCount x2_workCount x2_years x2_lines x2_goods x2_works x2_change x2_coin x2_knownFree x2_isKnown z13 z14 g39 g40 g41 g42 g43 g44 g45 g46 y48 = some rr12 → J d Φ 7 [gTr d h0 (h1 0) x0_left x0_earned x0_turnCost x0_turnWayless, gWy d h1 g4 g5 g6 g7 g8 g39 g40 g41 g42 g43 g44 g45 g9 g46, gLd d h2 x2_lineCount x2_goodsCount x2_workCount x2_years x2_lines x2_goods x2_works x2_change x2_coin x2_knownFree x2_isKnown] 0 0 72 [(0, .ref (h0 0)), (1, .ref (h2 0)), (2, .int p2), (3, .int p3), (4, .int z13), (5, .int z14)] [.int y48] := by
            intro y48 hs12
            unfold fX4_tonsAt_j72 at hs12
            refine J_istore (L' := [(6, .int y48), (0, .ref (h0 0)), (1, .ref (h2 0)), (2, .int p2), (3, .int p3), (4, .int z13), (5, .int z14)]) hK qd1_36.2.2.2.2.2.1 rfl (by decide) rfl ?_
            refine J_iload hK qd1_36.2.2.2.2.2.2.1 rfl 5 rfl ?_
            refine J_aload_n hK qd1_36.2.2.2.2.2.2.2.1 rfl 2 rfl rfl ?_
            refine J_iload hK qd1_36.2.2.2.2.2.2.2.2.1 rfl 6 rfl ?_
            refine J_iconst (v := 2) hK qd1_36.2.2.2.2.2.2.2.2.2.1 rfl (by decide) ?_
            obtain ⟨v49, e50, hs12⟩ := bs hs12
            refine J_callV (m := 3) (m' := 3) (ce' := 0) (sl' := 0) (gr := [gTr d h0 (h1 0) x0_left x0_earned x0_turnCost x0_turnWayless, gWy d h1 g4 g5 g6 g7 g8 g39 g40 g41 g42 g43 g44 g45 g9 g46]) (gs' := fun _ => [gTr d h0 (h1 0) x0_left x0_earned x0_turnCost x0_turnWayless, gWy d h1 g4 g5 g6 g7 g8 g39 g40 g41 g42 g43 g44 g45 g9 g46, gLd d h2 x2_lineCount x2_goodsCount x2_workCount x2_years x2_lines x2_goods x2_works x2_change x2_coin x2_knownFree x2_isKnown]) (st' := fun _ => [.int v49, .int z13]) (st := [.int z13]) hK qd1_36.2.2.2.2.2.2.2.2.2.2.1 cv_RX4_47 iv_yX1_ofGoods (As := [.int z14, .int (2)]) (kX1_ofGoods _ d h2 x2_lineCount x2_goodsCount x2_workCount x2_years x2_lines x2_goods x2_works x2_change x2_coin x2_knownFree x2_isKnown z14 (2) e50) rfl rfl (Nat.le_of_ble_eq_true rfl) (by decide) 2 0 rfl rfl rfl [2] [0, 1] rfl (by decide +kernel) rfl rfl [0, 1, 2] (by decide +kernel) (fun _ => rfl) (fun _ => rfl) rfl rfl rfl (fun _ => rfl) (fun _ => ?_)
            refine J_iload hK qd1_36.2.2.2.2.2.2.2.2.2.2.2.1 rfl 0 rfl ?_
            refine J_imul hK qd1_36.2.2.2.2.2.2.2.2.2.2.2.2.1 rfl ?_
            refine J_iadd hK qd1_36.2.2.2.2.2.2.2.2.2.2.2.2.2.1 rfl ?_
            refine J_istore (L' := [(4, .int (z13 + (v49 * y48))), (6, .int y48), (0, .ref (h0 0)), (1, .ref (h2 0)), (2, .int p2), (3, .int p3), (5, .int z14)]) hK qd1_36.2.2.2.2.2.2.2.2.2.2.2.2.2.2.1 rfl (by decide) rfl ?_
            refine J_iinc (L' := [(5, .int (z14 + 1)), (4, .int (z13 + (v49 * y48))), (6, .int y48), (0, .ref (h0 0)), (1, .ref (h2 0)), (2, .int p2), (3, .int p3)]) (v := (z14 + 1)) hK qd1_36.2.2.2.2.2.2.2.2.2.2.2.2.2.2.2.1 rfl 6 rfl rfl (by decide) rfl ?_
            refine J_goto hK qd1_37.1 (n := 18) rfl ?_
            exact J_loc [3, 4, 5, 6, 1, 0] rfl (ih12 (z13 + (v49 * y48)) (z14 + 1) g39 g40 g41 g42 g43 g44 g45 g46 (lpc hs12 hr12))
          refine J_if_eq (tg := 63) hK qd1_35.2.2.2.2.2.2.2.2.2.2.2.1 rfl rfl (fun hc52 => ?_) (fun hc52 => ?_)
          · have hs12 := ip hc52 hs12
            refine J_iconst (v := 1) hK qd1_36.1 rfl (by decide) ?_
            refine J_aload_n hK qd1_36.2.1 rfl 0 rfl rfl ?_
            refine J_iload_n hK qd1_36.2.2.1 rfl 2 rfl rfl ?_
            obtain ⟨v51, e52, hs12⟩ := bs hs12
            refine J_callV (m := 3) (m' := 3) (ce' := 0) (sl' := 0) (gr := [gLd d h2 x2_lineCount x2_goodsCount x2_workCount x2_years x2_lines x2_goods x2_works x2_change x2_coin x2_knownFree x2_isKnown]) (gs' := fun _ => [gTr d h0 (h1 0) x0_left x0_earned x0_turnCost x0_turnWayless, gWy d h1 g4 g5 g6 g7 g8 g39 g40 g41 g42 g43 g44 g45 g9 g46, gLd d h2 x2_lineCount x2_goodsCount x2_workCount x2_years x2_lines x2_goods x2_works x2_change x2_coin x2_knownFree x2_isKnown]) (st' := fun _ => [.int v51, .int (1)]) (st := [.int (1)]) hK qd1_36.2.2.2.1 cv_RX4_102 iv_yX4_stepsTo (As := [.int p2]) (kX4_stepsTo _ d h0 h1 n x0_left x0_earned x0_turnCost x0_turnWayless g4 g5 g6 g7 g8 g39 g40 g41 g42 g43 g44 g45 g9 g46 p2 e52) rfl rfl (Nat.le_of_ble_eq_true rfl) (by decide) 0 0 rfl rfl rfl [0, 1] [2] rfl (by decide +kernel) rfl rfl [1, 2, 0] (by decide +kernel) (fun _ => rfl) (fun _ => rfl) rfl rfl rfl (fun _ => rfl) (fun _ => ?_)
            refine J_min hK qd1_36.2.2.2.2.1 rfl mm_RX4_105 (by decide) (Nat.le_of_ble_eq_true rfl) (by decide) (by decide) ?_
            exact (j72 (mmin (1) v51) hs12)
          · have hs12 := iq hc52 hs12
            refine J_aload_n hK qd1_35.2.2.2.2.2.2.2.2.2.2.2.2.1 rfl 0 rfl rfl ?_
            refine J_iload_n hK qd1_35.2.2.2.2.2.2.2.2.2.2.2.2.2.1 rfl 2 rfl rfl ?_
            obtain ⟨v53, e54, hs12⟩ := bs hs12
            refine J_callV (m := 3) (m' := 3) (ce' := 0) (sl' := 0) (gr := [gLd d h2 x2_lineCount x2_goodsCount x2_workCount x2_years x2_lines x2_goods x2_works x2_change x2_coin x2_knownFree x2_isKnown]) (gs' := fun _ => [gTr d h0 (h1 0) x0_left x0_earned x0_turnCost x0_turnWayless, gWy d h1 g4 g5 g6 g7 g8 g39 g40 g41 g42 g43 g44 g45 g9 g46, gLd d h2 x2_lineCount x2_goodsCount x2_workCount x2_years x2_lines x2_goods x2_works x2_change x2_coin x2_knownFree x2_isKnown]) (st' := fun _ => [.int v53]) (st := []) hK qd1_35.2.2.2.2.2.2.2.2.2.2.2.2.2.2.1 cv_RX4_99 iv_yX4_changesAt (As := [.int p2]) (kX4_changesAt _ d h0 h1 n x0_left x0_earned x0_turnCost x0_turnWayless g4 g5 g6 g7 g8 g39 g40 g41 g42 g43 g44 g45 g9 g46 p2 e54) rfl rfl (Nat.le_of_ble_eq_true rfl) (by decide) 0 0 rfl rfl rfl [0, 1] [2] rfl (by decide +kernel) rfl rfl [1, 2, 0] (by decide +kernel) (fun _ => rfl) (fun _ => rfl) rfl rfl rfl (fun _ => rfl) (fun _ => ?_)
            refine J_goto hK qd1_35.2.2.2.2.2.2.2.2.2.2.2.2.2.2.2.1 (n := 72) rfl ?_
            exact (j72 v53 hs12)
  exact J_loc [2, 3, 4, 5, 1, 0] rfl (lo12 n (0) (0) x1_away x1_steps x1_nodes x1_stepCount x1_open x1_openCount x1_seen g10 hl12)

def fX4_dearestLoss_s13 (n : Nat) (x0_left : (Nat → Int32)) (x0_earned : (Nat → Int32)) (x0_turnCost : Int32) (x0_turnWayless : Int32) (x1_steps : (Nat → Int32)) (x1_nodes : (Nat → Int32)) (x1_stepCount : Int32) (x1_open : (Nat → Int32)) (x1_openCount : Int32) (x1_seen : Int64) (x2_lineCount : Int32) (x2_goodsCount : Int32) (x2_workCount : Int32) (x2_years : Int32) (x2_lines : (Nat → Int32)) (x2_goods : (Nat → Int32)) (x2_works : (Nat → Int32)) (x2_change : (Nat → Int32)) (x2_coin : (Nat → Int32)) (x2_knownFree : (Nat → Int32)) (x2_isKnown : Int32) (v1 : Int32) (z4 : Int32) (z5 : Int32) (z6 : Int32) (z7 : (Nat → Int32)) (z8 : (Nat → Int32)) (z9 : (Nat → Int32)) (z10 : (Nat → Int32)) (z11 : (Nat → Int32)) (z12 : (Nat → Int32)) (z13 : Int32) (z14 : Int32) : Option ((Int32 × Int32 × Int32 × (Nat → Int32) × (Nat → Int32) × (Nat → Int32) × (Nat → Int32) × (Nat → Int32) × (Nat → Int32) × Int32 × Int32) ⊕ (Int32 × (Nat → Int32) × (Nat → Int32) × (Nat → Int32) × (Nat → Int32) × (Nat → Int32) × (Nat → Int32) × Int32 × Int32)) :=
  if x2_lineCount ≤ z6 then (some (.inr (z4, z7, z8, z9, z10, z11, z12, z13, z14))) else (if ((v1 >>> (z6 &&& 31)) &&& 1) = 0 then (some (.inl (z4, z5, (z6 + 1), z7, z8, z9, z10, z11, z12, z13, z14))) else ((fX4_freeBy n (x0_left, x0_earned, x0_turnCost, x0_turnWayless) (z7, z8, z9, z10, z11, z12, x1_steps, x1_nodes, x1_stepCount, x1_open, x1_openCount, x1_seen, z13, z14) (x2_lineCount, x2_goodsCount, x2_workCount, x2_years, x2_lines, x2_goods, x2_works, x2_change, x2_coin, x2_knownFree, x2_isKnown) (v1 &&& (((1 : Int32) <<< (z6 &&& 31)) ^^^ (-1)))).bind (u2 fun v25 G26 => u8 (fun g27 g28 g29 g30 g31 g32 g33 g34 => if v25 ≤ z5 then (some (.inl (z4, z5, (z6 + 1), g27, g28, g29, g30, g31, g32, g33, g34))) else (some (.inl (z6, v25, (z6 + 1), g27, g28, g29, g30, g31, g32, g33, g34)))) G26)))
def fX4_dearestLoss (n : Nat) (X0 : TrT) (X1 : WyT) (X2 : LdT) : Option (Int32 × ((Nat → Int32) × (Nat → Int32) × (Nat → Int32) × (Nat → Int32) × (Nat → Int32) × (Nat → Int32) × Int32 × Int32)) :=
  u4 (fun (x0_left : (Nat → Int32)) (x0_earned : (Nat → Int32)) (x0_turnCost : Int32) (x0_turnWayless : Int32) => u14 (fun (x1_edgeA : (Nat → Int32)) (x1_edgeB : (Nat → Int32)) (x1_edgeCost : (Nat → Int32)) (x1_edgeLine : (Nat → Int32)) (x1_change : (Nat → Int32)) (x1_away : (Nat → Int32)) (x1_steps : (Nat → Int32)) (x1_nodes : (Nat → Int32)) (x1_stepCount : Int32) (x1_open : (Nat → Int32)) (x1_openCount : Int32) (x1_seen : Int64) (x1_edgeCount : Int32) (x1_aim : Int32) => u11 (fun (x2_lineCount : Int32) (x2_goodsCount : Int32) (x2_workCount : Int32) (x2_years : Int32) (x2_lines : (Nat → Int32)) (x2_goods : (Nat → Int32)) (x2_works : (Nat → Int32)) (x2_change : (Nat → Int32)) (x2_coin : (Nat → Int32)) (x2_knownFree : (Nat → Int32)) (x2_isKnown : Int32) => (fX1_linesThere n (x2_lineCount, x2_goodsCount, x2_workCount, x2_years, x2_lines, x2_goods, x2_works, x2_change, x2_coin, x2_knownFree, x2_isKnown)).bind (fun v1 => (lp (u11 (fX4_dearestLoss_s13 n x0_left x0_earned x0_turnCost x0_turnWayless x1_steps x1_nodes x1_stepCount x1_open x1_openCount x1_seen x2_lineCount x2_goodsCount x2_workCount x2_years x2_lines x2_goods x2_works x2_change x2_coin x2_knownFree x2_isKnown v1)) n ((-1), (-1), 0, x1_edgeA, x1_edgeB, x1_edgeCost, x1_edgeLine, x1_change, x1_away, x1_edgeCount, x1_aim)).bind (u9 fun w16 w17 w18 w19 w20 w21 w22 w23 w24 => some (w16, (w17, w18, w19, w20, w21, w22, w23, w24))))) X2) X1) X0
set_option maxHeartbeats 4000000 in
set_option maxRecDepth 100000 in
theorem kX4_dearestLoss (l : Launch) (d : DT) (h0 : Nat → Nat) (h1 : Nat → Nat) (h2 : Nat → Nat) (n : Nat) (x0_left : (Nat → Int32)) (x0_earned : (Nat → Int32)) (x0_turnCost : Int32) (x0_turnWayless : Int32) (x1_edgeA : (Nat → Int32)) (x1_edgeB : (Nat → Int32)) (x1_edgeCost : (Nat → Int32)) (x1_edgeLine : (Nat → Int32)) (x1_change : (Nat → Int32)) (x1_away : (Nat → Int32)) (x1_steps : (Nat → Int32)) (x1_nodes : (Nat → Int32)) (x1_stepCount : Int32) (x1_open : (Nat → Int32)) (x1_openCount : Int32) (x1_seen : Int64) (x1_edgeCount : Int32) (x1_aim : Int32) (x2_lineCount : Int32) (x2_goodsCount : Int32) (x2_workCount : Int32) (x2_years : Int32) (x2_lines : (Nat → Int32)) (x2_goods : (Nat → Int32)) (x2_works : (Nat → Int32)) (x2_change : (Nat → Int32)) (x2_coin : (Nat → Int32)) (x2_knownFree : (Nat → Int32)) (x2_isKnown : Int32)  {out : Int32 × ((Nat → Int32) × (Nat → Int32) × (Nat → Int32) × (Nat → Int32) × (Nat → Int32) × (Nat → Int32) × Int32 × Int32)} (hf : fX4_dearestLoss n (x0_left, x0_earned, x0_turnCost, x0_turnWayless) (x1_edgeA, x1_edgeB, x1_edgeCost, x1_edgeLine, x1_change, x1_away, x1_steps, x1_nodes, x1_stepCount, x1_open, x1_openCount, x1_seen, x1_edgeCount, x1_aim) (x2_lineCount, x2_goodsCount, x2_workCount, x2_years, x2_lines, x2_goods, x2_works, x2_change, x2_coin, x2_knownFree, x2_isKnown) = some out) : Ct l d yX4_dearestLoss cX4_dearestLoss 7 (some .int) { frames := 3, cells := 0, slots := 0, locals := 77 } [.ref (h0 0), .ref (h2 0)] [gTr d h0 (h1 0) x0_left x0_earned x0_turnCost x0_turnWayless, gWy d h1 x1_edgeA x1_edgeB x1_edgeCost x1_edgeLine x1_change x1_away x1_steps x1_nodes x1_stepCount x1_open x1_openCount x1_seen x1_edgeCount x1_aim, gLd d h2 x2_lineCount x2_goodsCount x2_workCount x2_years x2_lines x2_goods x2_works x2_change x2_coin x2_knownFree x2_isKnown] (fun _ : Unit => (some (.int out.1), [gTr d h0 (h1 0) x0_left x0_earned x0_turnCost x0_turnWayless, gWy d h1 (out.2.1) (out.2.2.1) (out.2.2.2.1) (out.2.2.2.2.1) (out.2.2.2.2.2.1) (out.2.2.2.2.2.2.1) x1_steps x1_nodes x1_stepCount x1_open x1_openCount x1_seen (out.2.2.2.2.2.2.2.1) (out.2.2.2.2.2.2.2.2), gLd d h2 x2_lineCount x2_goodsCount x2_workCount x2_years x2_lines x2_goods x2_works x2_change x2_coin x2_knownFree x2_isKnown])) := by
  refine Ct.of (by decide) (Nat.le_of_ble_eq_true rfl) ?_
  intro Φ hl hK hR
  subst hl
  have hK : Ok d Φ RX4 "dearestLoss" cX4_dearestLoss 7 (some .int) { frames := 3, cells := 0, slots := 0, locals := 77 } := hK
  unfold fX4_dearestLoss at hf
  have hf := un4 hf
  have hf := un14 hf
  have hf := un11 hf
  show J d Φ 7 [gTr d h0 (h1 0) x0_left x0_earned x0_turnCost x0_turnWayless, gWy d h1 x1_edgeA x1_edgeB x1_edgeCost x1_edgeLine x1_change x1_away x1_steps x1_nodes x1_stepCount x1_open x1_openCount x1_seen x1_edgeCount x1_aim, gLd d h2 x2_lineCount x2_goodsCount x2_workCount x2_years x2_lines x2_goods x2_works x2_change x2_coin x2_knownFree x2_isKnown] 0 0 0 [(0, .ref (h0 0)), (1, .ref (h2 0))] []
  refine J_aload_n hK qd1_42.1 rfl 1 rfl rfl ?_
  obtain ⟨v1, e2, hf⟩ := bs hf
  refine J_callV (m := 3) (m' := 3) (ce' := 0) (sl' := 0) (gr := [gTr d h0 (h1 0) x0_left x0_earned x0_turnCost x0_turnWayless, gWy d h1 x1_edgeA x1_edgeB x1_edgeCost x1_edgeLine x1_change x1_away x1_steps x1_nodes x1_stepCount x1_open x1_openCount x1_seen x1_edgeCount x1_aim]) (gs' := fun _ => [gTr d h0 (h1 0) x0_left x0_earned x0_turnCost x0_turnWayless, gWy d h1 x1_edgeA x1_edgeB x1_edgeCost x1_edgeLine x1_change x1_away x1_steps x1_nodes x1_stepCount x1_open x1_openCount x1_seen x1_edgeCount x1_aim, gLd d h2 x2_lineCount x2_goodsCount x2_workCount x2_years x2_lines x2_goods x2_works x2_change x2_coin x2_knownFree x2_isKnown]) (st' := fun _ => [.int v1]) (st := []) hK qd1_42.2.1 cv_RX4_25 iv_yX1_linesThere (As := []) (kX1_linesThere _ d h2 n x2_lineCount x2_goodsCount x2_workCount x2_years x2_lines x2_goods x2_works x2_change x2_coin x2_knownFree x2_isKnown e2) rfl rfl (Nat.le_of_ble_eq_true rfl) (by decide) 2 0 rfl rfl rfl [2] [0, 1] rfl (by decide +kernel) rfl rfl [0, 1, 2] (by decide +kernel) (fun _ => rfl) (fun _ => rfl) rfl rfl rfl (fun _ => rfl) (fun _ => ?_)
  refine J_istore_n (L' := [(2, .int v1), (0, .ref (h0 0)), (1, .ref (h2 0))]) hK qd1_42.2.2.1 rfl rfl (by decide) rfl ?_
  refine J_iconst (v := (-1)) hK qd1_42.2.2.2.1 rfl (by decide) ?_
  refine J_istore_n (L' := [(3, .int (-1)), (2, .int v1), (0, .ref (h0 0)), (1, .ref (h2 0))]) hK qd1_42.2.2.2.2.1 rfl rfl (by decide) rfl ?_
  refine J_iconst (v := (-1)) hK qd1_42.2.2.2.2.2.1 rfl (by decide) ?_
  refine J_istore (L' := [(4, .int (-1)), (3, .int (-1)), (2, .int v1), (0, .ref (h0 0)), (1, .ref (h2 0))]) hK qd1_42.2.2.2.2.2.2.1 rfl (by decide) rfl ?_
  refine J_iconst (v := 0) hK qd1_42.2.2.2.2.2.2.2.1 rfl (by decide) ?_
  refine J_istore (L' := [(5, .int (0)), (4, .int (-1)), (3, .int (-1)), (2, .int v1), (0, .ref (h0 0)), (1, .ref (h2 0))]) hK qd1_42.2.2.2.2.2.2.2.2.1 rfl (by decide) rfl ?_
  obtain ⟨e15, hl3, hf⟩ := bs hf
  have hx3_66 : ∀ (w16 : Int32) (w17 : (Nat → Int32)) (w18 : (Nat → Int32)) (w19 : (Nat → Int32)) (w20 : (Nat → Int32)) (w21 : (Nat → Int32)) (w22 : (Nat → Int32)) (w23 : Int32) (w24 : Int32), (w16, w17, w18, w19, w20, w21, w22, w23, w24) = e15 → J d Φ 7 [gTr d h0 (h1 0) x0_left x0_earned x0_turnCost x0_turnWayless, gWy d h1 w17 w18 w19 w20 w21 w22 x1_steps x1_nodes x1_stepCount x1_open x1_openCount x1_seen w23 w24, gLd d h2 x2_lineCount x2_goodsCount x2_workCount x2_years x2_lines x2_goods x2_works x2_change x2_coin x2_knownFree x2_isKnown] 0 0 66 [(3, .int w16)] [] := by
    intro w16 w17 w18 w19 w20 w21 w22 w23 w24 he
    rw [← he] at hf
    have hf := un9 hf
    refine J_iload_n hK qd1_44.2.2.2.2.2.2.2.1 rfl 0 rfl rfl ?_
    obtain rfl := Option.some.inj hf
    exact J_iret hK hR qd1_44.2.2.2.2.2.2.2.2.1 () rfl (by decide) (by decide)
  have lo3 : ∀ (k : Nat) (z4 : Int32) (z5 : Int32) (z6 : Int32) (z7 : (Nat → Int32)) (z8 : (Nat → Int32)) (z9 : (Nat → Int32)) (z10 : (Nat → Int32)) (z11 : (Nat → Int32)) (z12 : (Nat → Int32)) (z13 : Int32) (z14 : Int32), lp (u11 (fX4_dearestLoss_s13 n x0_left x0_earned x0_turnCost x0_turnWayless x1_steps x1_nodes x1_stepCount x1_open x1_openCount x1_seen x2_lineCount x2_goodsCount x2_workCount x2_years x2_lines x2_goods x2_works x2_change x2_coin x2_knownFree x2_isKnown v1)) k (z4, z5, z6, z7, z8, z9, z10, z11, z12, z13, z14) = some e15 → J d Φ 7 [gTr d h0 (h1 0) x0_left x0_earned x0_turnCost x0_turnWayless, gWy d h1 z7 z8 z9 z10 z11 z12 x1_steps x1_nodes x1_stepCount x1_open x1_openCount x1_seen z13 z14, gLd d h2 x2_lineCount x2_goodsCount x2_workCount x2_years x2_lines x2_goods x2_works x2_change x2_coin x2_knownFree x2_isKnown] 0 0 13 [(0, .ref (h0 0)), (1, .ref (h2 0)), (2, .int v1), (3, .int z4), (4, .int z5), (5, .int z6)] [] := by
    intro k
    induction k with
    | zero => intro z4 z5 z6 z7 z8 z9 z10 z11 z12 z13 z14 h; cases h
    | succ k ih3 =>
      intro z4 z5 z6 z7 z8 z9 z10 z11 z12 z13 z14 h
      obtain ⟨k2, rr3, hk2, hs3, hr3⟩ := lp_ok h
      cases hk2
      have hs3 : fX4_dearestLoss_s13 n x0_left x0_earned x0_turnCost x0_turnWayless x1_steps x1_nodes x1_stepCount x1_open x1_openCount x1_seen x2_lineCount x2_goodsCount x2_workCount x2_years x2_lines x2_goods x2_works x2_change x2_coin x2_knownFree x2_isKnown v1 z4 z5 z6 z7 z8 z9 z10 z11 z12 z13 z14 = some rr3 := hs3
      unfold fX4_dearestLoss_s13 at hs3
      refine J_iload hK qd1_42.2.2.2.2.2.2.2.2.2.1 rfl 5 rfl ?_
      refine J_aload_n hK qd1_42.2.2.2.2.2.2.2.2.2.2.1 rfl 1 rfl rfl ?_
      refine J_get hK fo_RX4_57 qd1_42.2.2.2.2.2.2.2.2.2.2.2.1 rfl 2 0 rfl rfl rfl ?_
      refine J_icmp_ge (tg := 66) hK qd1_42.2.2.2.2.2.2.2.2.2.2.2.2.1 rfl rfl (fun hc19 => ?_) (fun hc19 => ?_)
      · have hs3 := ip hc19 hs3
        exact J_loc [3] rfl (hx3_66 z4 z7 z8 z9 z10 z11 z12 z13 z14 (lpx hs3 hr3))
      · have hs3 := iq hc19 hs3
        refine J_iload_n hK qd1_42.2.2.2.2.2.2.2.2.2.2.2.2.2.1 rfl 2 rfl rfl ?_
        refine J_iload hK qd1_42.2.2.2.2.2.2.2.2.2.2.2.2.2.2.1 rfl 5 rfl ?_
        refine J_ishr hK qd1_42.2.2.2.2.2.2.2.2.2.2.2.2.2.2.2.1 rfl ?_
        refine J_iconst (v := 1) hK qd1_43.1 rfl (by decide) ?_
        refine J_iand hK qd1_43.2.1 rfl ?_
        refine J_if_eq (tg := 60) hK qd1_43.2.2.1 rfl rfl (fun hc28 => ?_) (fun hc28 => ?_)
        · have hs3 := ip hc28 hs3
          refine J_iinc (L' := [(5, .int (z6 + 1)), (0, .ref (h0 0)), (1, .ref (h2 0)), (2, .int v1), (3, .int z4), (4, .int z5)]) (v := (z6 + 1)) hK qd1_44.2.2.2.2.2.1 rfl 5 rfl rfl (by decide) rfl ?_
          refine J_goto hK qd1_44.2.2.2.2.2.2.1 (n := 13) rfl ?_
          exact J_loc [1, 2, 3, 4, 5, 0] rfl (ih3 z4 z5 (z6 + 1) z7 z8 z9 z10 z11 z12 z13 z14 (lpc hs3 hr3))
        · have hs3 := iq hc28 hs3
          refine J_aload_n hK qd1_43.2.2.2.1 rfl 0 rfl rfl ?_
          refine J_aload_n hK qd1_43.2.2.2.2.1 rfl 1 rfl rfl ?_
          refine J_iload_n hK qd1_43.2.2.2.2.2.1 rfl 2 rfl rfl ?_
          refine J_iconst (v := 1) hK qd1_43.2.2.2.2.2.2.1 rfl (by decide) ?_
          refine J_iload hK qd1_43.2.2.2.2.2.2.2.1 rfl 5 rfl ?_
          refine J_ishl hK qd1_43.2.2.2.2.2.2.2.2.1 rfl ?_
          refine J_iconst (v := (-1)) hK qd1_43.2.2.2.2.2.2.2.2.2.1 rfl (by decide) ?_
          refine J_ixor hK qd1_43.2.2.2.2.2.2.2.2.2.2.1 rfl ?_
          refine J_iand hK qd1_43.2.2.2.2.2.2.2.2.2.2.2.1 rfl ?_
          obtain ⟨⟨v25, ⟨g27, g28, g29, g30, g31, g32, g33, g34⟩⟩, e35, hs3⟩ := bs hs3
          have hs3 := un2 hs3
          have hs3 := un8 hs3
          refine J_callV (m := 3) (m' := 3) (ce' := 0) (sl' := 0) (gr := []) (gs' := fun _ => [gTr d h0 (h1 0) x0_left x0_earned x0_turnCost x0_turnWayless, gWy d h1 g27 g28 g29 g30 g31 g32 x1_steps x1_nodes x1_stepCount x1_open x1_openCount x1_seen g33 g34, gLd d h2 x2_lineCount x2_goodsCount x2_workCount x2_years x2_lines x2_goods x2_works x2_change x2_coin x2_knownFree x2_isKnown]) (st' := fun _ => [.int v25]) (st := []) hK qd1_43.2.2.2.2.2.2.2.2.2.2.2.2.1 cv_RX4_114 iv_yX4_freeBy (As := [.ref (h2 0), .int (v1 &&& (((1 : Int32) <<< (z6 &&& 31)) ^^^ (-1)))]) (kX4_freeBy _ d h0 h1 h2 n x0_left x0_earned x0_turnCost x0_turnWayless z7 z8 z9 z10 z11 z12 x1_steps x1_nodes x1_stepCount x1_open x1_openCount x1_seen z13 z14 x2_lineCount x2_goodsCount x2_workCount x2_years x2_lines x2_goods x2_works x2_change x2_coin x2_knownFree x2_isKnown (v1 &&& (((1 : Int32) <<< (z6 &&& 31)) ^^^ (-1))) e35) rfl rfl (Nat.le_of_ble_eq_true rfl) (by decide) 0 0 rfl rfl rfl [0, 1, 2] [] rfl (by decide +kernel) rfl rfl [0, 1, 2] (by decide +kernel) (fun _ => rfl) (fun _ => rfl) rfl rfl rfl (fun _ => rfl) (fun _ => ?_)
          refine J_istore (L' := [(6, .int v25), (0, .ref (h0 0)), (1, .ref (h2 0)), (2, .int v1), (3, .int z4), (4, .int z5), (5, .int z6)]) hK qd1_43.2.2.2.2.2.2.2.2.2.2.2.2.2.1 rfl (by decide) rfl ?_
          refine J_iload hK qd1_43.2.2.2.2.2.2.2.2.2.2.2.2.2.2.1 rfl 0 rfl ?_
          refine J_iload hK qd1_43.2.2.2.2.2.2.2.2.2.2.2.2.2.2.2.1 rfl 5 rfl ?_
          refine J_icmp_le (tg := 60) hK qd1_44.1 rfl rfl (fun hc50 => ?_) (fun hc50 => ?_)
          · have hs3 := ip hc50 hs3
            refine J_iinc (L' := [(5, .int (z6 + 1)), (6, .int v25), (0, .ref (h0 0)), (1, .ref (h2 0)), (2, .int v1), (3, .int z4), (4, .int z5)]) (v := (z6 + 1)) hK qd1_44.2.2.2.2.2.1 rfl 6 rfl rfl (by decide) rfl ?_
            refine J_goto hK qd1_44.2.2.2.2.2.2.1 (n := 13) rfl ?_
            exact J_loc [2, 3, 4, 5, 6, 0] rfl (ih3 z4 z5 (z6 + 1) g27 g28 g29 g30 g31 g32 g33 g34 (lpc hs3 hr3))
          · have hs3 := iq hc50 hs3
            refine J_iload hK qd1_44.2.1 rfl 0 rfl ?_
            refine J_istore (L' := [(4, .int v25), (6, .int v25), (0, .ref (h0 0)), (1, .ref (h2 0)), (2, .int v1), (3, .int z4), (5, .int z6)]) hK qd1_44.2.2.1 rfl (by decide) rfl ?_
            refine J_iload hK qd1_44.2.2.2.1 rfl 6 rfl ?_
            refine J_istore_n (L' := [(3, .int z6), (4, .int v25), (6, .int v25), (0, .ref (h0 0)), (1, .ref (h2 0)), (2, .int v1), (5, .int z6)]) hK qd1_44.2.2.2.2.1 rfl rfl (by decide) rfl ?_
            refine J_iinc (L' := [(5, .int (z6 + 1)), (3, .int z6), (4, .int v25), (6, .int v25), (0, .ref (h0 0)), (1, .ref (h2 0)), (2, .int v1)]) (v := (z6 + 1)) hK qd1_44.2.2.2.2.2.1 rfl 6 rfl rfl (by decide) rfl ?_
            refine J_goto hK qd1_44.2.2.2.2.2.2.1 (n := 13) rfl ?_
            exact J_loc [4, 5, 6, 1, 2, 0] rfl (ih3 z6 v25 (z6 + 1) g27 g28 g29 g30 g31 g32 g33 g34 (lpc hs3 hr3))
  exact J_loc [4, 5, 3, 2, 1, 0] rfl (lo3 n (-1) (-1) (0) x1_edgeA x1_edgeB x1_edgeCost x1_edgeLine x1_change x1_away x1_edgeCount x1_aim hl3)

def fX5_widthAfter (X0 : WyT) (p1 : Int32) : Option (Int32) :=
  u14 (fun (x0_edgeA : (Nat → Int32)) (x0_edgeB : (Nat → Int32)) (x0_edgeCost : (Nat → Int32)) (x0_edgeLine : (Nat → Int32)) (x0_change : (Nat → Int32)) (x0_away : (Nat → Int32)) (x0_steps : (Nat → Int32)) (x0_nodes : (Nat → Int32)) (x0_stepCount : Int32) (x0_open : (Nat → Int32)) (x0_openCount : Int32) (x0_seen : Int64) (x0_edgeCount : Int32) (x0_aim : Int32) => (fX6_within p1 (0) (x0_stepCount - 1)).bind (fun v1 => if v1 = 0 then (some (-1)) else ((rd 36 x0_nodes p1).bind fun v3 => some (v3 - v3 / 3 * 3)))) X0
set_option maxHeartbeats 4000000 in
set_option maxRecDepth 100000 in
theorem kX5_widthAfter (l : Launch) (d : DT) (h0 : Nat → Nat) (x0_edgeA : (Nat → Int32)) (x0_edgeB : (Nat → Int32)) (x0_edgeCost : (Nat → Int32)) (x0_edgeLine : (Nat → Int32)) (x0_change : (Nat → Int32)) (x0_away : (Nat → Int32)) (x0_steps : (Nat → Int32)) (x0_nodes : (Nat → Int32)) (x0_stepCount : Int32) (x0_open : (Nat → Int32)) (x0_openCount : Int32) (x0_seen : Int64) (x0_edgeCount : Int32) (x0_aim : Int32) (p1 : Int32)  {out : Int32} (hf : fX5_widthAfter (x0_edgeA, x0_edgeB, x0_edgeCost, x0_edgeLine, x0_change, x0_away, x0_steps, x0_nodes, x0_stepCount, x0_open, x0_openCount, x0_seen, x0_edgeCount, x0_aim) p1 = some out) : Ct l d yX5_widthAfter cX5_widthAfter 2 (some .int) { frames := 1, cells := 0, slots := 0, locals := 22 } [.ref (h0 0), .int p1] [gWy d h0 x0_edgeA x0_edgeB x0_edgeCost x0_edgeLine x0_change x0_away x0_steps x0_nodes x0_stepCount x0_open x0_openCount x0_seen x0_edgeCount x0_aim] (fun _ : Unit => (some (.int out), [gWy d h0 x0_edgeA x0_edgeB x0_edgeCost x0_edgeLine x0_change x0_away x0_steps x0_nodes x0_stepCount x0_open x0_openCount x0_seen x0_edgeCount x0_aim])) := by
  refine Ct.of (by decide) (Nat.le_of_ble_eq_true rfl) ?_
  intro Φ hl hK hR
  subst hl
  have hK : Ok d Φ RX5 "widthAfter" cX5_widthAfter 2 (some .int) { frames := 1, cells := 0, slots := 0, locals := 22 } := hK
  unfold fX5_widthAfter at hf
  have hf := un14 hf
  show J d Φ 2 [gWy d h0 x0_edgeA x0_edgeB x0_edgeCost x0_edgeLine x0_change x0_away x0_steps x0_nodes x0_stepCount x0_open x0_openCount x0_seen x0_edgeCount x0_aim] 0 0 0 [(0, .ref (h0 0)), (1, .int p1)] []
  refine J_iload_n hK qd1_111.1 rfl 1 rfl rfl ?_
  refine J_iconst (v := 0) hK qd1_111.2.1 rfl (by decide) ?_
  refine J_aload_n hK qd1_111.2.2.1 rfl 0 rfl rfl ?_
  refine J_get hK fo_RX5_79 qd1_111.2.2.2.1 rfl 0 0 rfl rfl rfl ?_
  refine J_iconst (v := 1) hK qd1_111.2.2.2.2.1 rfl (by decide) ?_
  refine J_isub hK qd1_111.2.2.2.2.2.1 rfl ?_
  obtain ⟨v1, e2, hf⟩ := bs hf
  refine J_callN (m := 1) (m' := 1) (ce' := 0) (sl' := 0) (gr := [gWy d h0 x0_edgeA x0_edgeB x0_edgeCost x0_edgeLine x0_change x0_away x0_steps x0_nodes x0_stepCount x0_open x0_openCount x0_seen x0_edgeCount x0_aim]) (gs' := fun _ => [gWy d h0 x0_edgeA x0_edgeB x0_edgeCost x0_edgeLine x0_change x0_away x0_steps x0_nodes x0_stepCount x0_open x0_openCount x0_seen x0_edgeCount x0_aim]) (st' := fun _ => [.int v1]) (st := []) hK qd1_111.2.2.2.2.2.2.1 cn_RX5_120 (As := [.int p1, .int (0), .int (x0_stepCount - 1)]) (kX6_within _ d p1 (0) (x0_stepCount - 1) e2) rfl rfl (Nat.le_of_ble_eq_true rfl) (by decide) [] [0] rfl (by decide +kernel) rfl rfl [0] (by decide +kernel) (fun _ => rfl) (fun _ => rfl) rfl rfl rfl (fun _ => rfl) (fun _ => ?_)
  refine J_if_eq (tg := 25) hK qd1_111.2.2.2.2.2.2.2.1 rfl rfl (fun hc11 => ?_) (fun hc11 => ?_)
  · have hf := ip hc11 hf
    refine J_iconst (v := (-1)) hK qd1_111.2.2.2.2.2.2.2.2.2.2.2.2.2.2.2.1 rfl (by decide) ?_
    obtain rfl := Option.some.inj hf
    exact J_iret hK hR qd1_112.1 () rfl (by decide) (by decide)
  · have hf := iq hc11 hf
    refine J_aload_n hK qd1_111.2.2.2.2.2.2.2.2.1 rfl 0 rfl rfl ?_
    refine J_get hK fo_RX5_33 qd1_111.2.2.2.2.2.2.2.2.2.1 rfl 0 0 rfl rfl rfl ?_
    refine J_iload_n hK qd1_111.2.2.2.2.2.2.2.2.2.2.1 rfl 1 rfl rfl ?_
    obtain ⟨v3, ev3, hf⟩ := bs hf
    refine J_iald hK qd1_111.2.2.2.2.2.2.2.2.2.2.2.1 rfl 0 8 rfl rfl ev3 ?_
    refine J_iconst (v := 3) hK qd1_111.2.2.2.2.2.2.2.2.2.2.2.2.1 rfl (by decide) ?_
    refine J_irem hK qd1_111.2.2.2.2.2.2.2.2.2.2.2.2.2.1 rfl (by decide) ?_
    refine J_goto hK qd1_111.2.2.2.2.2.2.2.2.2.2.2.2.2.2.1 (n := 26) rfl ?_
    obtain rfl := Option.some.inj hf
    exact J_iret hK hR qd1_112.1 () rfl (by decide) (by decide)

def fX5_changesOnWay_s4 (x0_edgeA : (Nat → Int32)) (x0_edgeB : (Nat → Int32)) (x0_edgeCost : (Nat → Int32)) (x0_edgeLine : (Nat → Int32)) (x0_change : (Nat → Int32)) (x0_away : (Nat → Int32)) (x0_steps : (Nat → Int32)) (x0_nodes : (Nat → Int32)) (x0_stepCount : Int32) (x0_open : (Nat → Int32)) (x0_openCount : Int32) (x0_seen : Int64) (x0_edgeCount : Int32) (x0_aim : Int32) (z2 : Int32) (z3 : Int32) : Option ((Int32 × Int32) ⊕ (Int32)) :=
  if x0_stepCount ≤ z3 then (some (.inr z2)) else ((fX5_isChange (x0_edgeA, x0_edgeB, x0_edgeCost, x0_edgeLine, x0_change, x0_away, x0_steps, x0_nodes, x0_stepCount, x0_open, x0_openCount, x0_seen, x0_edgeCount, x0_aim) z3).bind (fun v6 => if v6 = 0 then (some (.inl (z2, (z3 + 1)))) else (some (.inl ((z2 + 1), (z3 + 1))))))
def fX5_changesOnWay (n : Nat) (X0 : WyT) : Option (Int32) :=
  u14 (fun (x0_edgeA : (Nat → Int32)) (x0_edgeB : (Nat → Int32)) (x0_edgeCost : (Nat → Int32)) (x0_edgeLine : (Nat → Int32)) (x0_change : (Nat → Int32)) (x0_away : (Nat → Int32)) (x0_steps : (Nat → Int32)) (x0_nodes : (Nat → Int32)) (x0_stepCount : Int32) (x0_open : (Nat → Int32)) (x0_openCount : Int32) (x0_seen : Int64) (x0_edgeCount : Int32) (x0_aim : Int32) => (lp (u2 (fX5_changesOnWay_s4 x0_edgeA x0_edgeB x0_edgeCost x0_edgeLine x0_change x0_away x0_steps x0_nodes x0_stepCount x0_open x0_openCount x0_seen x0_edgeCount x0_aim)) n (0, 1)).bind (fun w5 => some w5)) X0
set_option maxHeartbeats 4000000 in
set_option maxRecDepth 100000 in
theorem kX5_changesOnWay (l : Launch) (d : DT) (h0 : Nat → Nat) (n : Nat) (x0_edgeA : (Nat → Int32)) (x0_edgeB : (Nat → Int32)) (x0_edgeCost : (Nat → Int32)) (x0_edgeLine : (Nat → Int32)) (x0_change : (Nat → Int32)) (x0_away : (Nat → Int32)) (x0_steps : (Nat → Int32)) (x0_nodes : (Nat → Int32)) (x0_stepCount : Int32) (x0_open : (Nat → Int32)) (x0_openCount : Int32) (x0_seen : Int64) (x0_edgeCount : Int32) (x0_aim : Int32)  {out : Int32} (hf : fX5_changesOnWay n (x0_edgeA, x0_edgeB, x0_edgeCost, x0_edgeLine, x0_change, x0_away, x0_steps, x0_nodes, x0_stepCount, x0_open, x0_openCount, x0_seen, x0_edgeCount, x0_aim) = some out) : Ct l d yX5_changesOnWay cX5_changesOnWay 3 (some .int) { frames := 2, cells := 0, slots := 0, locals := 43 } [.ref (h0 0)] [gWy d h0 x0_edgeA x0_edgeB x0_edgeCost x0_edgeLine x0_change x0_away x0_steps x0_nodes x0_stepCount x0_open x0_openCount x0_seen x0_edgeCount x0_aim] (fun _ : Unit => (some (.int out), [gWy d h0 x0_edgeA x0_edgeB x0_edgeCost x0_edgeLine x0_change x0_away x0_steps x0_nodes x0_stepCount x0_open x0_openCount x0_seen x0_edgeCount x0_aim])) := by
  refine Ct.of (by decide) (Nat.le_of_ble_eq_true rfl) ?_
  intro Φ hl hK hR
  subst hl
  have hK : Ok d Φ RX5 "changesOnWay" cX5_changesOnWay 3 (some .int) { frames := 2, cells := 0, slots := 0, locals := 43 } := hK
  unfold fX5_changesOnWay at hf
  have hf := un14 hf
  show J d Φ 3 [gWy d h0 x0_edgeA x0_edgeB x0_edgeCost x0_edgeLine x0_change x0_away x0_steps x0_nodes x0_stepCount x0_open x0_openCount x0_seen x0_edgeCount x0_aim] 0 0 0 [(0, .ref (h0 0))] []
  refine J_iconst (v := 0) hK qd1_113.1 rfl (by decide) ?_
  refine J_istore_n (L' := [(1, .int (0)), (0, .ref (h0 0))]) hK qd1_113.2.1 rfl rfl (by decide) rfl ?_
  refine J_iconst (v := 1) hK qd1_113.2.2.1 rfl (by decide) ?_
  refine J_istore_n (L' := [(2, .int (1)), (1, .int (0)), (0, .ref (h0 0))]) hK qd1_113.2.2.2.1 rfl rfl (by decide) rfl ?_
  obtain ⟨e4, hl1, hf⟩ := bs hf
  have hx1_29 : ∀ (w5 : Int32), w5 = e4 → J d Φ 3 [gWy d h0 x0_edgeA x0_edgeB x0_edgeCost x0_edgeLine x0_change x0_away x0_steps x0_nodes x0_stepCount x0_open x0_openCount x0_seen x0_edgeCount x0_aim] 0 0 29 [(1, .int w5)] [] := by
    intro w5 he
    rw [← he] at hf
    refine J_iload_n hK qd1_113.2.2.2.2.2.2.2.2.2.2.2.2.2.2.2.1 rfl 0 rfl rfl ?_
    obtain rfl := Option.some.inj hf
    exact J_iret hK hR qd1_114.1 () rfl (by decide) (by decide)
  have lo1 : ∀ (k : Nat) (z2 : Int32) (z3 : Int32), lp (u2 (fX5_changesOnWay_s4 x0_edgeA x0_edgeB x0_edgeCost x0_edgeLine x0_change x0_away x0_steps x0_nodes x0_stepCount x0_open x0_openCount x0_seen x0_edgeCount x0_aim)) k (z2, z3) = some e4 → J d Φ 3 [gWy d h0 x0_edgeA x0_edgeB x0_edgeCost x0_edgeLine x0_change x0_away x0_steps x0_nodes x0_stepCount x0_open x0_openCount x0_seen x0_edgeCount x0_aim] 0 0 4 [(0, .ref (h0 0)), (1, .int z2), (2, .int z3)] [] := by
    intro k
    induction k with
    | zero => intro z2 z3 h; cases h
    | succ k ih1 =>
      intro z2 z3 h
      obtain ⟨k2, rr1, hk2, hs1, hr1⟩ := lp_ok h
      cases hk2
      have hs1 : fX5_changesOnWay_s4 x0_edgeA x0_edgeB x0_edgeCost x0_edgeLine x0_change x0_away x0_steps x0_nodes x0_stepCount x0_open x0_openCount x0_seen x0_edgeCount x0_aim z2 z3 = some rr1 := hs1
      unfold fX5_changesOnWay_s4 at hs1
      refine J_iload_n hK qd1_113.2.2.2.2.1 rfl 2 rfl rfl ?_
      refine J_aload_n hK qd1_113.2.2.2.2.2.1 rfl 0 rfl rfl ?_
      refine J_get hK fo_RX5_79 qd1_113.2.2.2.2.2.2.1 rfl 0 0 rfl rfl rfl ?_
      refine J_icmp_ge (tg := 29) hK qd1_113.2.2.2.2.2.2.2.1 rfl rfl (fun hc9 => ?_) (fun hc9 => ?_)
      · have hs1 := ip hc9 hs1
        exact J_loc [1] rfl (hx1_29 z2 (lpx hs1 hr1))
      · have hs1 := iq hc9 hs1
        refine J_aload_n hK qd1_113.2.2.2.2.2.2.2.2.1 rfl 0 rfl rfl ?_
        refine J_iload_n hK qd1_113.2.2.2.2.2.2.2.2.2.1 rfl 2 rfl rfl ?_
        obtain ⟨v6, e7, hs1⟩ := bs hs1
        refine J_callV (m := 1) (m' := 1) (ce' := 0) (sl' := 0) (gr := []) (gs' := fun _ => [gWy d h0 x0_edgeA x0_edgeB x0_edgeCost x0_edgeLine x0_change x0_away x0_steps x0_nodes x0_stepCount x0_open x0_openCount x0_seen x0_edgeCount x0_aim]) (st' := fun _ => [.int v6]) (st := []) hK qd1_113.2.2.2.2.2.2.2.2.2.2.1 cv_RX5_124 iv_yX5_isChange (As := [.int z3]) (kX5_isChange _ d h0 x0_edgeA x0_edgeB x0_edgeCost x0_edgeLine x0_change x0_away x0_steps x0_nodes x0_stepCount x0_open x0_openCount x0_seen x0_edgeCount x0_aim z3 e7) rfl rfl (Nat.le_of_ble_eq_true rfl) (by decide) 0 0 rfl rfl rfl [0] [] rfl (by decide +kernel) rfl rfl [0] (by decide +kernel) (fun _ => rfl) (fun _ => rfl) rfl rfl rfl (fun _ => rfl) (fun _ => ?_)
        refine J_if_eq (tg := 23) hK qd1_113.2.2.2.2.2.2.2.2.2.2.2.1 rfl rfl (fun hc17 => ?_) (fun hc17 => ?_)
        · have hs1 := ip hc17 hs1
          refine J_iinc (L' := [(2, .int (z3 + 1)), (0, .ref (h0 0)), (1, .int z2)]) (v := (z3 + 1)) hK qd1_113.2.2.2.2.2.2.2.2.2.2.2.2.2.1 rfl 2 rfl rfl (by decide) rfl ?_
          refine J_goto hK qd1_113.2.2.2.2.2.2.2.2.2.2.2.2.2.2.1 (n := 4) rfl ?_
          exact J_loc [1, 2, 0] rfl (ih1 z2 (z3 + 1) (lpc hs1 hr1))
        · have hs1 := iq hc17 hs1
          refine J_iinc (L' := [(1, .int (z2 + 1)), (0, .ref (h0 0)), (2, .int z3)]) (v := (z2 + 1)) hK qd1_113.2.2.2.2.2.2.2.2.2.2.2.2.1 rfl 1 rfl rfl (by decide) rfl ?_
          refine J_iinc (L' := [(2, .int (z3 + 1)), (1, .int (z2 + 1)), (0, .ref (h0 0))]) (v := (z3 + 1)) hK qd1_113.2.2.2.2.2.2.2.2.2.2.2.2.2.1 rfl 2 rfl rfl (by decide) rfl ?_
          refine J_goto hK qd1_113.2.2.2.2.2.2.2.2.2.2.2.2.2.2.1 (n := 4) rfl ?_
          exact J_loc [2, 1, 0] rfl (ih1 (z2 + 1) (z3 + 1) (lpc hs1 hr1))
  exact J_loc [2, 1, 0] rfl (lo1 n (0) (1) hl1)

def fX5_linesOnWay (n : Nat) (X0 : WyT) : Option (Int32) :=
  u14 (fun (x0_edgeA : (Nat → Int32)) (x0_edgeB : (Nat → Int32)) (x0_edgeCost : (Nat → Int32)) (x0_edgeLine : (Nat → Int32)) (x0_change : (Nat → Int32)) (x0_away : (Nat → Int32)) (x0_steps : (Nat → Int32)) (x0_nodes : (Nat → Int32)) (x0_stepCount : Int32) (x0_open : (Nat → Int32)) (x0_openCount : Int32) (x0_seen : Int64) (x0_edgeCount : Int32) (x0_aim : Int32) => (fX5_changesOnWay n (x0_edgeA, x0_edgeB, x0_edgeCost, x0_edgeLine, x0_change, x0_away, x0_steps, x0_nodes, x0_stepCount, x0_open, x0_openCount, x0_seen, x0_edgeCount, x0_aim)).bind (fun v1 => some (mmax (0) ((x0_stepCount - 1) - v1)))) X0
set_option maxHeartbeats 4000000 in
set_option maxRecDepth 100000 in
theorem kX5_linesOnWay (l : Launch) (d : DT) (h0 : Nat → Nat) (n : Nat) (x0_edgeA : (Nat → Int32)) (x0_edgeB : (Nat → Int32)) (x0_edgeCost : (Nat → Int32)) (x0_edgeLine : (Nat → Int32)) (x0_change : (Nat → Int32)) (x0_away : (Nat → Int32)) (x0_steps : (Nat → Int32)) (x0_nodes : (Nat → Int32)) (x0_stepCount : Int32) (x0_open : (Nat → Int32)) (x0_openCount : Int32) (x0_seen : Int64) (x0_edgeCount : Int32) (x0_aim : Int32)  {out : Int32} (hf : fX5_linesOnWay n (x0_edgeA, x0_edgeB, x0_edgeCost, x0_edgeLine, x0_change, x0_away, x0_steps, x0_nodes, x0_stepCount, x0_open, x0_openCount, x0_seen, x0_edgeCount, x0_aim) = some out) : Ct l d yX5_linesOnWay cX5_linesOnWay 1 (some .int) { frames := 3, cells := 0, slots := 0, locals := 65 } [.ref (h0 0)] [gWy d h0 x0_edgeA x0_edgeB x0_edgeCost x0_edgeLine x0_change x0_away x0_steps x0_nodes x0_stepCount x0_open x0_openCount x0_seen x0_edgeCount x0_aim] (fun _ : Unit => (some (.int out), [gWy d h0 x0_edgeA x0_edgeB x0_edgeCost x0_edgeLine x0_change x0_away x0_steps x0_nodes x0_stepCount x0_open x0_openCount x0_seen x0_edgeCount x0_aim])) := by
  refine Ct.of (by decide) (Nat.le_of_ble_eq_true rfl) ?_
  intro Φ hl hK hR
  subst hl
  have hK : Ok d Φ RX5 "linesOnWay" cX5_linesOnWay 1 (some .int) { frames := 3, cells := 0, slots := 0, locals := 65 } := hK
  unfold fX5_linesOnWay at hf
  have hf := un14 hf
  show J d Φ 1 [gWy d h0 x0_edgeA x0_edgeB x0_edgeCost x0_edgeLine x0_change x0_away x0_steps x0_nodes x0_stepCount x0_open x0_openCount x0_seen x0_edgeCount x0_aim] 0 0 0 [(0, .ref (h0 0))] []
  refine J_iconst (v := 0) hK qd1_115.1 rfl (by decide) ?_
  refine J_aload_n hK qd1_115.2.1 rfl 0 rfl rfl ?_
  refine J_get hK fo_RX5_79 qd1_115.2.2.1 rfl 0 0 rfl rfl rfl ?_
  refine J_iconst (v := 1) hK qd1_115.2.2.2.1 rfl (by decide) ?_
  refine J_isub hK qd1_115.2.2.2.2.1 rfl ?_
  refine J_aload_n hK qd1_115.2.2.2.2.2.1 rfl 0 rfl rfl ?_
  obtain ⟨v1, e2, hf⟩ := bs hf
  refine J_callV (m := 1) (m' := 1) (ce' := 0) (sl' := 0) (gr := []) (gs' := fun _ => [gWy d h0 x0_edgeA x0_edgeB x0_edgeCost x0_edgeLine x0_change x0_away x0_steps x0_nodes x0_stepCount x0_open x0_openCount x0_seen x0_edgeCount x0_aim]) (st' := fun _ => [.int v1, .int (x0_stepCount - 1), .int (0)]) (st := [.int (x0_stepCount - 1), .int (0)]) hK qd1_115.2.2.2.2.2.2.1 cv_RX5_128 iv_yX5_changesOnWay (As := []) (kX5_changesOnWay _ d h0 n x0_edgeA x0_edgeB x0_edgeCost x0_edgeLine x0_change x0_away x0_steps x0_nodes x0_stepCount x0_open x0_openCount x0_seen x0_edgeCount x0_aim e2) rfl rfl (Nat.le_of_ble_eq_true rfl) (by decide) 0 0 rfl rfl rfl [0] [] rfl (by decide +kernel) rfl rfl [0] (by decide +kernel) (fun _ => rfl) (fun _ => rfl) rfl rfl rfl (fun _ => rfl) (fun _ => ?_)
  refine J_isub hK qd1_115.2.2.2.2.2.2.2.1 rfl ?_
  refine J_max hK qd1_115.2.2.2.2.2.2.2.2.1 rfl mm_RX5_132 (by decide) (Nat.le_of_ble_eq_true rfl) (by decide) (by decide) ?_
  obtain rfl := Option.some.inj hf
  exact J_iret hK hR qd1_115.2.2.2.2.2.2.2.2.2.1 () rfl (by decide) (by decide)

def fX5_lineAt_s4 (p1 : Int32) (x0_edgeA : (Nat → Int32)) (x0_edgeB : (Nat → Int32)) (x0_edgeCost : (Nat → Int32)) (x0_edgeLine : (Nat → Int32)) (x0_change : (Nat → Int32)) (x0_away : (Nat → Int32)) (x0_steps : (Nat → Int32)) (x0_nodes : (Nat → Int32)) (x0_stepCount : Int32) (x0_open : (Nat → Int32)) (x0_openCount : Int32) (x0_seen : Int64) (x0_edgeCount : Int32) (x0_aim : Int32) (z2 : Int32) (z3 : Int32) : Option ((Int32 × Int32) ⊕ (((Int32) ⊕ (Unit)))) :=
  if x0_stepCount ≤ z3 then (some (.inr (.inr ()))) else ((fX5_lineOn (x0_edgeA, x0_edgeB, x0_edgeCost, x0_edgeLine, x0_change, x0_away, x0_steps, x0_nodes, x0_stepCount, x0_open, x0_openCount, x0_seen, x0_edgeCount, x0_aim) z3).bind (fun v6 => if v6 = (-1) then (some (.inl (z2, (z3 + 1)))) else (if z2 = p1 then (some (.inr (.inl v6))) else (some (.inl ((z2 + 1), (z3 + 1)))))))
def fX5_lineAt (n : Nat) (X0 : WyT) (p1 : Int32) : Option (Int32) :=
  u14 (fun (x0_edgeA : (Nat → Int32)) (x0_edgeB : (Nat → Int32)) (x0_edgeCost : (Nat → Int32)) (x0_edgeLine : (Nat → Int32)) (x0_change : (Nat → Int32)) (x0_away : (Nat → Int32)) (x0_steps : (Nat → Int32)) (x0_nodes : (Nat → Int32)) (x0_stepCount : Int32) (x0_open : (Nat → Int32)) (x0_openCount : Int32) (x0_seen : Int64) (x0_edgeCount : Int32) (x0_aim : Int32) => (lp (u2 (fX5_lineAt_s4 p1 x0_edgeA x0_edgeB x0_edgeCost x0_edgeLine x0_change x0_away x0_steps x0_nodes x0_stepCount x0_open x0_openCount x0_seen x0_edgeCount x0_aim)) n (0, 1)).bind (Sum.elim (fun w5 => some w5) (fun _ => some (-1)))) X0
set_option maxHeartbeats 4000000 in
set_option maxRecDepth 100000 in
theorem kX5_lineAt (l : Launch) (d : DT) (h0 : Nat → Nat) (n : Nat) (x0_edgeA : (Nat → Int32)) (x0_edgeB : (Nat → Int32)) (x0_edgeCost : (Nat → Int32)) (x0_edgeLine : (Nat → Int32)) (x0_change : (Nat → Int32)) (x0_away : (Nat → Int32)) (x0_steps : (Nat → Int32)) (x0_nodes : (Nat → Int32)) (x0_stepCount : Int32) (x0_open : (Nat → Int32)) (x0_openCount : Int32) (x0_seen : Int64) (x0_edgeCount : Int32) (x0_aim : Int32) (p1 : Int32)  {out : Int32} (hf : fX5_lineAt n (x0_edgeA, x0_edgeB, x0_edgeCost, x0_edgeLine, x0_change, x0_away, x0_steps, x0_nodes, x0_stepCount, x0_open, x0_openCount, x0_seen, x0_edgeCount, x0_aim) p1 = some out) : Ct l d yX5_lineAt cX5_lineAt 5 (some .int) { frames := 2, cells := 0, slots := 0, locals := 43 } [.ref (h0 0), .int p1] [gWy d h0 x0_edgeA x0_edgeB x0_edgeCost x0_edgeLine x0_change x0_away x0_steps x0_nodes x0_stepCount x0_open x0_openCount x0_seen x0_edgeCount x0_aim] (fun _ : Unit => (some (.int out), [gWy d h0 x0_edgeA x0_edgeB x0_edgeCost x0_edgeLine x0_change x0_away x0_steps x0_nodes x0_stepCount x0_open x0_openCount x0_seen x0_edgeCount x0_aim])) := by
  refine Ct.of (by decide) (Nat.le_of_ble_eq_true rfl) ?_
  intro Φ hl hK hR
  subst hl
  have hK : Ok d Φ RX5 "lineAt" cX5_lineAt 5 (some .int) { frames := 2, cells := 0, slots := 0, locals := 43 } := hK
  unfold fX5_lineAt at hf
  have hf := un14 hf
  show J d Φ 5 [gWy d h0 x0_edgeA x0_edgeB x0_edgeCost x0_edgeLine x0_change x0_away x0_steps x0_nodes x0_stepCount x0_open x0_openCount x0_seen x0_edgeCount x0_aim] 0 0 0 [(0, .ref (h0 0)), (1, .int p1)] []
  refine J_iconst (v := 0) hK qd1_116.1 rfl (by decide) ?_
  refine J_istore_n (L' := [(2, .int (0)), (0, .ref (h0 0)), (1, .int p1)]) hK qd1_116.2.1 rfl rfl (by decide) rfl ?_
  refine J_iconst (v := 1) hK qd1_116.2.2.1 rfl (by decide) ?_
  refine J_istore_n (L' := [(3, .int (1)), (2, .int (0)), (0, .ref (h0 0)), (1, .int p1)]) hK qd1_116.2.2.2.1 rfl rfl (by decide) rfl ?_
  obtain ⟨e4, hl1, hf⟩ := bs hf
  have hx1_30 : ∀ (w5 : Int32), (.inl w5) = e4 → J d Φ 5 [gWy d h0 x0_edgeA x0_edgeB x0_edgeCost x0_edgeLine x0_change x0_away x0_steps x0_nodes x0_stepCount x0_open x0_openCount x0_seen x0_edgeCount x0_aim] 0 0 30 [(4, .int w5)] [] := by
    intro w5 he
    rw [← he] at hf
    simp only [Sum.elim_inl, Sum.elim_inr] at hf
    refine J_iload hK qd1_117.2.2.1 rfl 0 rfl ?_
    obtain rfl := Option.some.inj hf
    exact J_iret hK hR qd1_117.2.2.2.1 () rfl (by decide) (by decide)
  have hx1_42 : (.inr ()) = e4 → J d Φ 5 [gWy d h0 x0_edgeA x0_edgeB x0_edgeCost x0_edgeLine x0_change x0_away x0_steps x0_nodes x0_stepCount x0_open x0_openCount x0_seen x0_edgeCount x0_aim] 0 0 42 [] [] := by
    intro  he
    rw [← he] at hf
    simp only [Sum.elim_inl, Sum.elim_inr] at hf
    refine J_iconst (v := (-1)) hK qd1_117.2.2.2.2.2.2.2.1 rfl (by decide) ?_
    obtain rfl := Option.some.inj hf
    exact J_iret hK hR qd1_117.2.2.2.2.2.2.2.2.1 () rfl (by decide) (by decide)
  have lo1 : ∀ (k : Nat) (z2 : Int32) (z3 : Int32), lp (u2 (fX5_lineAt_s4 p1 x0_edgeA x0_edgeB x0_edgeCost x0_edgeLine x0_change x0_away x0_steps x0_nodes x0_stepCount x0_open x0_openCount x0_seen x0_edgeCount x0_aim)) k (z2, z3) = some e4 → J d Φ 5 [gWy d h0 x0_edgeA x0_edgeB x0_edgeCost x0_edgeLine x0_change x0_away x0_steps x0_nodes x0_stepCount x0_open x0_openCount x0_seen x0_edgeCount x0_aim] 0 0 4 [(0, .ref (h0 0)), (1, .int p1), (2, .int z2), (3, .int z3)] [] := by
    intro k
    induction k with
    | zero => intro z2 z3 h; cases h
    | succ k ih1 =>
      intro z2 z3 h
      obtain ⟨k2, rr1, hk2, hs1, hr1⟩ := lp_ok h
      cases hk2
      have hs1 : fX5_lineAt_s4 p1 x0_edgeA x0_edgeB x0_edgeCost x0_edgeLine x0_change x0_away x0_steps x0_nodes x0_stepCount x0_open x0_openCount x0_seen x0_edgeCount x0_aim z2 z3 = some rr1 := hs1
      unfold fX5_lineAt_s4 at hs1
      refine J_iload_n hK qd1_116.2.2.2.2.1 rfl 3 rfl rfl ?_
      refine J_aload_n hK qd1_116.2.2.2.2.2.1 rfl 0 rfl rfl ?_
      refine J_get hK fo_RX5_79 qd1_116.2.2.2.2.2.2.1 rfl 0 0 rfl rfl rfl ?_
      refine J_icmp_ge (tg := 42) hK qd1_116.2.2.2.2.2.2.2.1 rfl rfl (fun hc9 => ?_) (fun hc9 => ?_)
      · have hs1 := ip hc9 hs1
        exact J_loc [] rfl (hx1_42  (lpx hs1 hr1))
      · have hs1 := iq hc9 hs1
        refine J_aload_n hK qd1_116.2.2.2.2.2.2.2.2.1 rfl 0 rfl rfl ?_
        refine J_iload_n hK qd1_116.2.2.2.2.2.2.2.2.2.1 rfl 3 rfl rfl ?_
        obtain ⟨v6, e7, hs1⟩ := bs hs1
        refine J_callV (m := 1) (m' := 1) (ce' := 0) (sl' := 0) (gr := []) (gs' := fun _ => [gWy d h0 x0_edgeA x0_edgeB x0_edgeCost x0_edgeLine x0_change x0_away x0_steps x0_nodes x0_stepCount x0_open x0_openCount x0_seen x0_edgeCount x0_aim]) (st' := fun _ => [.int v6]) (st := []) hK qd1_116.2.2.2.2.2.2.2.2.2.2.1 cv_RX5_137 iv_yX5_lineOn (As := [.int z3]) (kX5_lineOn _ d h0 x0_edgeA x0_edgeB x0_edgeCost x0_edgeLine x0_change x0_away x0_steps x0_nodes x0_stepCount x0_open x0_openCount x0_seen x0_edgeCount x0_aim z3 e7) rfl rfl (Nat.le_of_ble_eq_true rfl) (by decide) 0 0 rfl rfl rfl [0] [] rfl (by decide +kernel) rfl rfl [0] (by decide +kernel) (fun _ => rfl) (fun _ => rfl) rfl rfl rfl (fun _ => rfl) (fun _ => ?_)
        refine J_istore (L' := [(4, .int v6), (0, .ref (h0 0)), (1, .int p1), (2, .int z2), (3, .int z3)]) hK qd1_116.2.2.2.2.2.2.2.2.2.2.2.1 rfl (by decide) rfl ?_
        refine J_iload hK qd1_116.2.2.2.2.2.2.2.2.2.2.2.2.1 rfl 0 rfl ?_
        refine J_iconst (v := (-1)) hK qd1_116.2.2.2.2.2.2.2.2.2.2.2.2.2.1 rfl (by decide) ?_
        refine J_icmp_eq (tg := 36) hK qd1_116.2.2.2.2.2.2.2.2.2.2.2.2.2.2.1 rfl rfl (fun hc22 => ?_) (fun hc22 => ?_)
        · have hs1 := ip hc22 hs1
          refine J_iinc (L' := [(3, .int (z3 + 1)), (4, .int v6), (0, .ref (h0 0)), (1, .int p1), (2, .int z2)]) (v := (z3 + 1)) hK qd1_117.2.2.2.2.2.1 rfl 4 rfl rfl (by decide) rfl ?_
          refine J_goto hK qd1_117.2.2.2.2.2.2.1 (n := 4) rfl ?_
          exact J_loc [2, 3, 4, 0] rfl (ih1 z2 (z3 + 1) (lpc hs1 hr1))
        · have hs1 := iq hc22 hs1
          refine J_iload_n hK qd1_116.2.2.2.2.2.2.2.2.2.2.2.2.2.2.2.1 rfl 3 rfl rfl ?_
          refine J_iload_n hK qd1_117.1 rfl 2 rfl rfl ?_
          refine J_icmp_ne (tg := 33) hK qd1_117.2.1 rfl rfl (fun hc27 => ?_) (fun hc27 => ?_)
          · have hs1 := iq hc27 hs1
            refine J_iinc (L' := [(2, .int (z2 + 1)), (4, .int v6), (0, .ref (h0 0)), (1, .int p1), (3, .int z3)]) (v := (z2 + 1)) hK qd1_117.2.2.2.2.1 rfl 3 rfl rfl (by decide) rfl ?_
            refine J_iinc (L' := [(3, .int (z3 + 1)), (2, .int (z2 + 1)), (4, .int v6), (0, .ref (h0 0)), (1, .int p1)]) (v := (z3 + 1)) hK qd1_117.2.2.2.2.2.1 rfl 4 rfl rfl (by decide) rfl ?_
            refine J_goto hK qd1_117.2.2.2.2.2.2.1 (n := 4) rfl ?_
            exact J_loc [3, 4, 1, 0] rfl (ih1 (z2 + 1) (z3 + 1) (lpc hs1 hr1))
          · have hs1 := ip hc27 hs1
            exact J_loc [0] rfl (hx1_30 v6 (lpx hs1 hr1))
  exact J_loc [2, 3, 1, 0] rfl (lo1 n (0) (1) hl1)

def fX6_refuse (X0 : TwT) (p1 : Int32) : Option (Int32 × (Nat → Int32)) :=
  u4 (fun (x0_refused : (Nat → Int32)) (x0_isKept : Int32) (x0_gone : Int32) (x0_spent : Int32) => (fX6_within p1 (-6) (-2)).bind (fun v1 => if v1 = 0 then (some (p1, x0_refused)) else ((rd 5 x0_refused ((-2) - p1)).bind fun v3 => (wr 5 x0_refused ((-2) - p1) (v3 + 1)).bind fun f4 => some (p1, f4)))) X0
set_option maxHeartbeats 4000000 in
set_option maxRecDepth 100000 in
theorem kX6_refuse (l : Launch) (d : DT) (h0 : Nat → Nat) (a0_state : Nat) (a0_kept : Nat) (a0_tape : Nat) (a0_shelves : Nat) (a0_choice : Nat) (a0_traffic : Nat) (x0_refused : (Nat → Int32)) (x0_isKept : Int32) (x0_gone : Int32) (x0_spent : Int32) (p1 : Int32)  {out : Int32 × (Nat → Int32)} (hf : fX6_refuse (x0_refused, x0_isKept, x0_gone, x0_spent) p1 = some out) : Ct l d yX6_refuse cX6_refuse 2 (some .int) { frames := 1, cells := 0, slots := 0, locals := 22 } [.ref (h0 0), .int p1] [gTw d h0 a0_state a0_kept a0_tape a0_shelves a0_choice a0_traffic x0_refused x0_isKept x0_gone x0_spent] (fun _ : Unit => (some (.int out.1), [gTw d h0 a0_state a0_kept a0_tape a0_shelves a0_choice a0_traffic (out.2) x0_isKept x0_gone x0_spent])) := by
  refine Ct.of (by decide) (Nat.le_of_ble_eq_true rfl) ?_
  intro Φ hl hK hR
  subst hl
  have hK : Ok d Φ RX6 "refuse" cX6_refuse 2 (some .int) { frames := 1, cells := 0, slots := 0, locals := 22 } := hK
  unfold fX6_refuse at hf
  have hf := un4 hf
  show J d Φ 2 [gTw d h0 a0_state a0_kept a0_tape a0_shelves a0_choice a0_traffic x0_refused x0_isKept x0_gone x0_spent] 0 0 0 [(0, .ref (h0 0)), (1, .int p1)] []
  refine J_iload_n hK qd2_82.1 rfl 1 rfl rfl ?_
  refine J_bipush (v := (-6)) hK qd2_82.2.1 rfl (by decide) ?_
  refine J_bipush (v := (-2)) hK qd2_82.2.2.1 rfl (by decide) ?_
  obtain ⟨v1, e2, hf⟩ := bs hf
  refine J_callS (m := 1) (m' := 1) (ce' := 0) (sl' := 0) (gr := [gTw d h0 a0_state a0_kept a0_tape a0_shelves a0_choice a0_traffic x0_refused x0_isKept x0_gone x0_spent]) (gs' := fun _ => [gTw d h0 a0_state a0_kept a0_tape a0_shelves a0_choice a0_traffic x0_refused x0_isKept x0_gone x0_spent]) (st' := fun _ => [.int v1]) (st := []) hK qd2_82.2.2.2.1 cv_RX6_64 ws_yX6_within (As := [.int p1, .int (-6), .int (-2)]) (kX6_within _ d p1 (-6) (-2) e2) rfl rfl (Nat.le_of_ble_eq_true rfl) (by decide) [] [0] rfl (by decide +kernel) rfl rfl [0] (by decide +kernel) (fun _ => rfl) (fun _ => rfl) rfl rfl rfl (fun _ => rfl) (fun _ => ?_)
  refine J_if_eq (tg := 24) hK qd2_82.2.2.2.2.1 rfl rfl (fun hc8 => ?_) (fun hc8 => ?_)
  · have hf := ip hc8 hf
    refine J_iload_n hK qd2_82.2.2.2.2.2.2.2.2.2.2.2.2.2.2.2.1 rfl 1 rfl rfl ?_
    obtain rfl := Option.some.inj hf
    exact J_iret hK hR qd2_83.1 () rfl (by decide) (by decide)
  · have hf := iq hc8 hf
    refine J_aload_n hK qd2_82.2.2.2.2.2.1 rfl 0 rfl rfl ?_
    refine J_get hK fo_RX6_45 qd2_82.2.2.2.2.2.2.1 rfl 0 0 rfl rfl rfl ?_
    refine J_bipush (v := (-2)) hK qd2_82.2.2.2.2.2.2.2.1 rfl (by decide) ?_
    refine J_iload_n hK qd2_82.2.2.2.2.2.2.2.2.1 rfl 1 rfl rfl ?_
    refine J_isub hK qd2_82.2.2.2.2.2.2.2.2.2.1 rfl ?_
    refine J_dup2 hK qd2_82.2.2.2.2.2.2.2.2.2.2.1 rfl rfl rfl ?_
    obtain ⟨v3, ev3, hf⟩ := bs hf
    refine J_iald hK qd2_82.2.2.2.2.2.2.2.2.2.2.2.1 rfl 0 1 rfl rfl ev3 ?_
    refine J_iconst (v := 1) hK qd2_82.2.2.2.2.2.2.2.2.2.2.2.2.1 rfl (by decide) ?_
    refine J_iadd hK qd2_82.2.2.2.2.2.2.2.2.2.2.2.2.2.1 rfl ?_
    obtain ⟨f4, ef4, hf⟩ := bs hf
    refine J_iast (g' := gTw d h0 a0_state a0_kept a0_tape a0_shelves a0_choice a0_traffic f4 x0_isKept x0_gone x0_spent) (gs' := [gTw d h0 a0_state a0_kept a0_tape a0_shelves a0_choice a0_traffic f4 x0_isKept x0_gone x0_spent]) hK qd2_82.2.2.2.2.2.2.2.2.2.2.2.2.2.2.1 rfl 0 1 rfl rfl ef4 rfl rfl ?_
    refine J_iload_n hK qd2_82.2.2.2.2.2.2.2.2.2.2.2.2.2.2.2.1 rfl 1 rfl rfl ?_
    obtain rfl := Option.some.inj hf
    exact J_iret hK hR qd2_83.1 () rfl (by decide) (by decide)

def fX6_row (n : Nat) (X0 : TwT) (X1 : ShT) (p1 : Int32) (p2 : Int32) (p3 : Int32) : Option (Int32 × (Nat → Int32) × (Nat → Nat → Int64) × (Nat → Int32) × (Nat → Int32)) :=
  u4 (fun (x0_refused : (Nat → Int32)) (x0_isKept : Int32) (x0_gone : Int32) (x0_spent : Int32) => u3 (fun (x1_elements : (Nat → Nat → Int64)) (x1_held : (Nat → Int32)) (x1_sizes : (Nat → Int32)) => (fX2_has p1).bind (fun v1 => if v1 = 0 then ((fX6_refuse (x0_refused, x0_isKept, x0_gone, x0_spent) (-2)).bind (u2 fun v3 g4 => some (v3, g4, x1_elements, x1_held, x1_sizes))) else ((fX6_within p2 (0) (4)).bind (fun v6 => if v6 = 0 then ((fX6_refuse (x0_refused, x0_isKept, x0_gone, x0_spent) (-2)).bind (u2 fun v8 g9 => some (v8, g9, x1_elements, x1_held, x1_sizes))) else ((fX6_within p3 (0) (40)).bind (fun v11 => if v11 = 0 then ((fX6_refuse (x0_refused, x0_isKept, x0_gone, x0_spent) (-2)).bind (u2 fun v17 g18 => some (v17, g18, x1_elements, x1_held, x1_sizes))) else ((fX2_putRow n (x1_elements, x1_held, x1_sizes) p1 p2 p3).bind (u3 fun g13 g14 g15 => some (1, x0_refused, g13, g14, g15))))))))) X1) X0
set_option maxHeartbeats 4000000 in
set_option maxRecDepth 100000 in
theorem kX6_row (l : Launch) (d : DT) (h0 : Nat → Nat) (a0_state : Nat) (a0_kept : Nat) (a0_tape : Nat) (a0_choice : Nat) (a0_traffic : Nat) (h1 : Nat → Nat) (r1_elements : Nat → Nat) (n : Nat) (x0_refused : (Nat → Int32)) (x0_isKept : Int32) (x0_gone : Int32) (x0_spent : Int32) (x1_elements : (Nat → Nat → Int64)) (x1_held : (Nat → Int32)) (x1_sizes : (Nat → Int32)) (p1 : Int32) (p2 : Int32) (p3 : Int32)  {out : Int32 × (Nat → Int32) × (Nat → Nat → Int64) × (Nat → Int32) × (Nat → Int32)} (hf : fX6_row n (x0_refused, x0_isKept, x0_gone, x0_spent) (x1_elements, x1_held, x1_sizes) p1 p2 p3 = some out) : Ct l d yX6_row cX6_row 4 (some .int) { frames := 2, cells := 0, slots := 0, locals := 47 } [.ref (h0 0), .int p1, .int p2, .int p3] [gTw d h0 a0_state a0_kept a0_tape (h1 0) a0_choice a0_traffic x0_refused x0_isKept x0_gone x0_spent, gSh d h1 r1_elements x1_held x1_sizes, gridJ d r1_elements 8 40 x1_elements] (fun _ : Unit => (some (.int out.1), [gTw d h0 a0_state a0_kept a0_tape (h1 0) a0_choice a0_traffic (out.2.1) x0_isKept x0_gone x0_spent, gSh d h1 r1_elements (out.2.2.2.1) (out.2.2.2.2), gridJ d r1_elements 8 40 (out.2.2.1)])) := by
  refine Ct.of (by decide) (Nat.le_of_ble_eq_true rfl) ?_
  intro Φ hl hK hR
  subst hl
  have hK : Ok d Φ RX6 "row" cX6_row 4 (some .int) { frames := 2, cells := 0, slots := 0, locals := 47 } := hK
  unfold fX6_row at hf
  have hf := un4 hf
  have hf := un3 hf
  show J d Φ 4 [gTw d h0 a0_state a0_kept a0_tape (h1 0) a0_choice a0_traffic x0_refused x0_isKept x0_gone x0_spent, gSh d h1 r1_elements x1_held x1_sizes, gridJ d r1_elements 8 40 x1_elements] 0 0 0 [(0, .ref (h0 0)), (1, .int p1), (2, .int p2), (3, .int p3)] []
  refine J_iload_n hK qd1_122.1 rfl 1 rfl rfl ?_
  obtain ⟨v1, e2, hf⟩ := bs hf
  refine J_callS (m := 3) (m' := 3) (ce' := 0) (sl' := 0) (gr := [gTw d h0 a0_state a0_kept a0_tape (h1 0) a0_choice a0_traffic x0_refused x0_isKept x0_gone x0_spent, gSh d h1 r1_elements x1_held x1_sizes, gridJ d r1_elements 8 40 x1_elements]) (gs' := fun _ => [gTw d h0 a0_state a0_kept a0_tape (h1 0) a0_choice a0_traffic x0_refused x0_isKept x0_gone x0_spent, gSh d h1 r1_elements x1_held x1_sizes, gridJ d r1_elements 8 40 x1_elements]) (st' := fun _ => [.int v1]) (st := []) hK qd1_122.2.1 cv_RX6_60 ws_yX2_has (As := [.int p1]) (kX2_has _ d p1 e2) rfl rfl (Nat.le_of_ble_eq_true rfl) (by decide) [] [0, 1, 2] rfl (by decide +kernel) rfl rfl [0, 1, 2] (by decide +kernel) (fun _ => rfl) (fun _ => rfl) rfl rfl rfl (fun _ => rfl) (fun _ => ?_)
  refine J_if_eq (tg := 26) hK qd1_122.2.2.1 rfl rfl (fun hc4 => ?_) (fun hc4 => ?_)
  · have hf := ip hc4 hf
    refine J_aload_n hK qd1_122.2.2.2.2.2.2.2.2.2.2.2.2.2.1 rfl 0 rfl rfl ?_
    refine J_bipush (v := (-2)) hK qd1_122.2.2.2.2.2.2.2.2.2.2.2.2.2.2.1 rfl (by decide) ?_
    obtain ⟨⟨v3, g4⟩, e5, hf⟩ := bs hf
    have hf := un2 hf
    refine J_callV (m := 3) (m' := 3) (ce' := 0) (sl' := 0) (gr := [gSh d h1 r1_elements x1_held x1_sizes, gridJ d r1_elements 8 40 x1_elements]) (gs' := fun _ => [gTw d h0 a0_state a0_kept a0_tape (h1 0) a0_choice a0_traffic g4 x0_isKept x0_gone x0_spent, gSh d h1 r1_elements x1_held x1_sizes, gridJ d r1_elements 8 40 x1_elements]) (st' := fun _ => [.int v3]) (st := []) hK qd1_122.2.2.2.2.2.2.2.2.2.2.2.2.2.2.2.1 cv_RX6_68 iv_yX6_refuse (As := [.int (-2)]) (kX6_refuse _ d h0 a0_state a0_kept a0_tape (h1 0) a0_choice a0_traffic x0_refused x0_isKept x0_gone x0_spent (-2) e5) rfl rfl (Nat.le_of_ble_eq_true rfl) (by decide) 0 0 rfl rfl rfl [0] [1, 2] rfl (by decide +kernel) rfl rfl [2, 0, 1] (by decide +kernel) (fun _ => rfl) (fun _ => rfl) rfl rfl rfl (fun _ => rfl) (fun _ => ?_)
    obtain rfl := Option.some.inj hf
    exact J_iret hK hR qd1_123.1 () rfl (by decide) (by decide)
  · have hf := iq hc4 hf
    refine J_iload_n hK qd1_122.2.2.2.1 rfl 2 rfl rfl ?_
    refine J_iconst (v := 0) hK qd1_122.2.2.2.2.1 rfl (by decide) ?_
    refine J_iconst (v := 4) hK qd1_122.2.2.2.2.2.1 rfl (by decide) ?_
    obtain ⟨v6, e7, hf⟩ := bs hf
    refine J_callS (m := 3) (m' := 3) (ce' := 0) (sl' := 0) (gr := [gTw d h0 a0_state a0_kept a0_tape (h1 0) a0_choice a0_traffic x0_refused x0_isKept x0_gone x0_spent, gSh d h1 r1_elements x1_held x1_sizes, gridJ d r1_elements 8 40 x1_elements]) (gs' := fun _ => [gTw d h0 a0_state a0_kept a0_tape (h1 0) a0_choice a0_traffic x0_refused x0_isKept x0_gone x0_spent, gSh d h1 r1_elements x1_held x1_sizes, gridJ d r1_elements 8 40 x1_elements]) (st' := fun _ => [.int v6]) (st := []) hK qd1_122.2.2.2.2.2.2.1 cv_RX6_64 ws_yX6_within (As := [.int p2, .int (0), .int (4)]) (kX6_within _ d p2 (0) (4) e7) rfl rfl (Nat.le_of_ble_eq_true rfl) (by decide) [] [0, 1, 2] rfl (by decide +kernel) rfl rfl [0, 1, 2] (by decide +kernel) (fun _ => rfl) (fun _ => rfl) rfl rfl rfl (fun _ => rfl) (fun _ => ?_)
    refine J_if_eq (tg := 26) hK qd1_122.2.2.2.2.2.2.2.1 rfl rfl (fun hc13 => ?_) (fun hc13 => ?_)
    · have hf := ip hc13 hf
      refine J_aload_n hK qd1_122.2.2.2.2.2.2.2.2.2.2.2.2.2.1 rfl 0 rfl rfl ?_
      refine J_bipush (v := (-2)) hK qd1_122.2.2.2.2.2.2.2.2.2.2.2.2.2.2.1 rfl (by decide) ?_
      obtain ⟨⟨v8, g9⟩, e10, hf⟩ := bs hf
      have hf := un2 hf
      refine J_callV (m := 3) (m' := 3) (ce' := 0) (sl' := 0) (gr := [gSh d h1 r1_elements x1_held x1_sizes, gridJ d r1_elements 8 40 x1_elements]) (gs' := fun _ => [gTw d h0 a0_state a0_kept a0_tape (h1 0) a0_choice a0_traffic g9 x0_isKept x0_gone x0_spent, gSh d h1 r1_elements x1_held x1_sizes, gridJ d r1_elements 8 40 x1_elements]) (st' := fun _ => [.int v8]) (st := []) hK qd1_122.2.2.2.2.2.2.2.2.2.2.2.2.2.2.2.1 cv_RX6_68 iv_yX6_refuse (As := [.int (-2)]) (kX6_refuse _ d h0 a0_state a0_kept a0_tape (h1 0) a0_choice a0_traffic x0_refused x0_isKept x0_gone x0_spent (-2) e10) rfl rfl (Nat.le_of_ble_eq_true rfl) (by decide) 0 0 rfl rfl rfl [0] [1, 2] rfl (by decide +kernel) rfl rfl [2, 0, 1] (by decide +kernel) (fun _ => rfl) (fun _ => rfl) rfl rfl rfl (fun _ => rfl) (fun _ => ?_)
      obtain rfl := Option.some.inj hf
      exact J_iret hK hR qd1_123.1 () rfl (by decide) (by decide)
    · have hf := iq hc13 hf
      refine J_iload_n hK qd1_122.2.2.2.2.2.2.2.2.1 rfl 3 rfl rfl ?_
      refine J_iconst (v := 0) hK qd1_122.2.2.2.2.2.2.2.2.2.1 rfl (by decide) ?_
      refine J_bipush (v := 40) hK qd1_122.2.2.2.2.2.2.2.2.2.2.1 rfl (by decide) ?_
      obtain ⟨v11, e12, hf⟩ := bs hf
      refine J_callS (m := 3) (m' := 3) (ce' := 0) (sl' := 0) (gr := [gTw d h0 a0_state a0_kept a0_tape (h1 0) a0_choice a0_traffic x0_refused x0_isKept x0_gone x0_spent, gSh d h1 r1_elements x1_held x1_sizes, gridJ d r1_elements 8 40 x1_elements]) (gs' := fun _ => [gTw d h0 a0_state a0_kept a0_tape (h1 0) a0_choice a0_traffic x0_refused x0_isKept x0_gone x0_spent, gSh d h1 r1_elements x1_held x1_sizes, gridJ d r1_elements 8 40 x1_elements]) (st' := fun _ => [.int v11]) (st := []) hK qd1_122.2.2.2.2.2.2.2.2.2.2.2.1 cv_RX6_64 ws_yX6_within (As := [.int p3, .int (0), .int (40)]) (kX6_within _ d p3 (0) (40) e12) rfl rfl (Nat.le_of_ble_eq_true rfl) (by decide) [] [0, 1, 2] rfl (by decide +kernel) rfl rfl [0, 1, 2] (by decide +kernel) (fun _ => rfl) (fun _ => rfl) rfl rfl rfl (fun _ => rfl) (fun _ => ?_)
      refine J_if_ne (tg := 33) hK qd1_122.2.2.2.2.2.2.2.2.2.2.2.2.1 rfl rfl (fun hc23 => ?_) (fun hc23 => ?_)
      · have hf := iq hc23 hf
        refine J_aload_n hK qd1_123.2.1 rfl 0 rfl rfl ?_
        refine J_get hK fo_RX6_29 qd1_123.2.2.1 rfl 0 0 rfl rfl rfl ?_
        refine J_iload_n hK qd1_123.2.2.2.1 rfl 1 rfl rfl ?_
        refine J_iload_n hK qd1_123.2.2.2.2.1 rfl 2 rfl rfl ?_
        refine J_iload_n hK qd1_123.2.2.2.2.2.1 rfl 3 rfl rfl ?_
        obtain ⟨⟨g13, g14, g15⟩, e16, hf⟩ := bs hf
        have hf := un3 hf
        refine J_callV (m := 3) (m' := 3) (ce' := 0) (sl' := 0) (gr := [gTw d h0 a0_state a0_kept a0_tape (h1 0) a0_choice a0_traffic x0_refused x0_isKept x0_gone x0_spent]) (gs' := fun _ => [gTw d h0 a0_state a0_kept a0_tape (h1 0) a0_choice a0_traffic x0_refused x0_isKept x0_gone x0_spent, gSh d h1 r1_elements g14 g15, gridJ d r1_elements 8 40 g13]) (st' := fun _ => []) (st := []) hK qd1_123.2.2.2.2.2.2.1 cv_RX6_72 iv_yX2_putRow (As := [.int p1, .int p2, .int p3]) (kX2_putRow _ d h1 r1_elements n x1_elements x1_held x1_sizes p1 p2 p3 e16) rfl rfl (Nat.le_of_ble_eq_true rfl) (by decide) 1 0 rfl rfl rfl [1, 2] [0] rfl (by decide +kernel) rfl rfl [0, 1, 2] (by decide +kernel) (fun _ => rfl) (fun _ => rfl) rfl rfl rfl (fun _ => rfl) (fun _ => ?_)
        refine J_iconst (v := 1) hK qd1_123.2.2.2.2.2.2.2.1 rfl (by decide) ?_
        obtain rfl := Option.some.inj hf
        exact J_iret hK hR qd1_123.2.2.2.2.2.2.2.2.1 () rfl (by decide) (by decide)
      · have hf := ip hc23 hf
        refine J_aload_n hK qd1_122.2.2.2.2.2.2.2.2.2.2.2.2.2.1 rfl 0 rfl rfl ?_
        refine J_bipush (v := (-2)) hK qd1_122.2.2.2.2.2.2.2.2.2.2.2.2.2.2.1 rfl (by decide) ?_
        obtain ⟨⟨v17, g18⟩, e19, hf⟩ := bs hf
        have hf := un2 hf
        refine J_callV (m := 3) (m' := 3) (ce' := 0) (sl' := 0) (gr := [gSh d h1 r1_elements x1_held x1_sizes, gridJ d r1_elements 8 40 x1_elements]) (gs' := fun _ => [gTw d h0 a0_state a0_kept a0_tape (h1 0) a0_choice a0_traffic g18 x0_isKept x0_gone x0_spent, gSh d h1 r1_elements x1_held x1_sizes, gridJ d r1_elements 8 40 x1_elements]) (st' := fun _ => [.int v17]) (st := []) hK qd1_122.2.2.2.2.2.2.2.2.2.2.2.2.2.2.2.1 cv_RX6_68 iv_yX6_refuse (As := [.int (-2)]) (kX6_refuse _ d h0 a0_state a0_kept a0_tape (h1 0) a0_choice a0_traffic x0_refused x0_isKept x0_gone x0_spent (-2) e19) rfl rfl (Nat.le_of_ble_eq_true rfl) (by decide) 0 0 rfl rfl rfl [0] [1, 2] rfl (by decide +kernel) rfl rfl [2, 0, 1] (by decide +kernel) (fun _ => rfl) (fun _ => rfl) rfl rfl rfl (fun _ => rfl) (fun _ => ?_)
        obtain rfl := Option.some.inj hf
        exact J_iret hK hR qd1_123.1 () rfl (by decide) (by decide)

def fX6_noRow (X0 : TwT) (X1 : ShT) (p1 : Int32) : Option (Int32) :=
  u4 (fun (x0_refused : (Nat → Int32)) (x0_isKept : Int32) (x0_gone : Int32) (x0_spent : Int32) => u3 (fun (x1_elements : (Nat → Nat → Int64)) (x1_held : (Nat → Int32)) (x1_sizes : (Nat → Int32)) => (fX2_has p1).bind (fun v1 => if v1 = 0 then (some (-2)) else ((fX2_hasWork (x1_elements, x1_held, x1_sizes) p1).bind (fun v3 => if v3 = 0 then ((fX2_hasRow (x1_elements, x1_held, x1_sizes) p1).bind (fun v5 => if v5 = 0 then (some (-4)) else (some (0)))) else (some (-3)))))) X1) X0
set_option maxHeartbeats 4000000 in
set_option maxRecDepth 100000 in
theorem kX6_noRow (l : Launch) (d : DT) (h0 : Nat → Nat) (a0_state : Nat) (a0_kept : Nat) (a0_tape : Nat) (a0_choice : Nat) (a0_traffic : Nat) (h1 : Nat → Nat) (r1_elements : Nat → Nat) (x0_refused : (Nat → Int32)) (x0_isKept : Int32) (x0_gone : Int32) (x0_spent : Int32) (x1_elements : (Nat → Nat → Int64)) (x1_held : (Nat → Int32)) (x1_sizes : (Nat → Int32)) (p1 : Int32)  {out : Int32} (hf : fX6_noRow (x0_refused, x0_isKept, x0_gone, x0_spent) (x1_elements, x1_held, x1_sizes) p1 = some out) : Ct l d yX6_noRow cX6_noRow 2 (some .int) { frames := 2, cells := 0, slots := 0, locals := 43 } [.ref (h0 0), .int p1] [gTw d h0 a0_state a0_kept a0_tape (h1 0) a0_choice a0_traffic x0_refused x0_isKept x0_gone x0_spent, gSh d h1 r1_elements x1_held x1_sizes] (fun _ : Unit => (some (.int out), [gTw d h0 a0_state a0_kept a0_tape (h1 0) a0_choice a0_traffic x0_refused x0_isKept x0_gone x0_spent, gSh d h1 r1_elements x1_held x1_sizes])) := by
  refine Ct.of (by decide) (Nat.le_of_ble_eq_true rfl) ?_
  intro Φ hl hK hR
  subst hl
  have hK : Ok d Φ RX6 "noRow" cX6_noRow 2 (some .int) { frames := 2, cells := 0, slots := 0, locals := 43 } := hK
  unfold fX6_noRow at hf
  have hf := un4 hf
  have hf := un3 hf
  show J d Φ 2 [gTw d h0 a0_state a0_kept a0_tape (h1 0) a0_choice a0_traffic x0_refused x0_isKept x0_gone x0_spent, gSh d h1 r1_elements x1_held x1_sizes] 0 0 0 [(0, .ref (h0 0)), (1, .int p1)] []
  refine J_iload_n hK qd2_84.1 rfl 1 rfl rfl ?_
  obtain ⟨v1, e2, hf⟩ := bs hf
  refine J_callS (m := 2) (m' := 2) (ce' := 0) (sl' := 0) (gr := [gTw d h0 a0_state a0_kept a0_tape (h1 0) a0_choice a0_traffic x0_refused x0_isKept x0_gone x0_spent, gSh d h1 r1_elements x1_held x1_sizes]) (gs' := fun _ => [gTw d h0 a0_state a0_kept a0_tape (h1 0) a0_choice a0_traffic x0_refused x0_isKept x0_gone x0_spent, gSh d h1 r1_elements x1_held x1_sizes]) (st' := fun _ => [.int v1]) (st := []) hK qd2_84.2.1 cv_RX6_60 ws_yX2_has (As := [.int p1]) (kX2_has _ d p1 e2) rfl rfl (Nat.le_of_ble_eq_true rfl) (by decide) [] [0, 1] rfl (by decide +kernel) rfl rfl [0, 1] (by decide +kernel) (fun _ => rfl) (fun _ => rfl) rfl rfl rfl (fun _ => rfl) (fun _ => ?_)
  refine J_if_ne (tg := 10) hK qd2_84.2.2.1 rfl rfl (fun hc4 => ?_) (fun hc4 => ?_)
  · have hf := iq hc4 hf
    refine J_aload_n hK qd2_84.2.2.2.2.2.1 rfl 0 rfl rfl ?_
    refine J_get hK fo_RX6_29 qd2_84.2.2.2.2.2.2.1 rfl 0 0 rfl rfl rfl ?_
    refine J_iload_n hK qd2_84.2.2.2.2.2.2.2.1 rfl 1 rfl rfl ?_
    obtain ⟨v3, e4, hf⟩ := bs hf
    refine J_callV (m := 2) (m' := 2) (ce' := 0) (sl' := 0) (gr := [gTw d h0 a0_state a0_kept a0_tape (h1 0) a0_choice a0_traffic x0_refused x0_isKept x0_gone x0_spent]) (gs' := fun _ => [gTw d h0 a0_state a0_kept a0_tape (h1 0) a0_choice a0_traffic x0_refused x0_isKept x0_gone x0_spent, gSh d h1 r1_elements x1_held x1_sizes]) (st' := fun _ => [.int v3]) (st := []) hK qd2_84.2.2.2.2.2.2.2.2.1 cv_RX6_86 iv_yX2_hasWork (As := [.int p1]) (kX2_hasWork _ d h1 r1_elements x1_elements x1_held x1_sizes p1 e4) rfl rfl (Nat.le_of_ble_eq_true rfl) (by decide) 1 0 rfl rfl rfl [1] [0] rfl (by decide +kernel) rfl rfl [0, 1] (by decide +kernel) (fun _ => rfl) (fun _ => rfl) rfl rfl rfl (fun _ => rfl) (fun _ => ?_)
    refine J_if_eq (tg := 24) hK qd2_84.2.2.2.2.2.2.2.2.2.1 rfl rfl (fun hc18 => ?_) (fun hc18 => ?_)
    · have hf := ip hc18 hf
      refine J_aload_n hK qd2_84.2.2.2.2.2.2.2.2.2.2.2.2.1 rfl 0 rfl rfl ?_
      refine J_get hK fo_RX6_29 qd2_84.2.2.2.2.2.2.2.2.2.2.2.2.2.1 rfl 0 0 rfl rfl rfl ?_
      refine J_iload_n hK qd2_84.2.2.2.2.2.2.2.2.2.2.2.2.2.2.1 rfl 1 rfl rfl ?_
      obtain ⟨v5, e6, hf⟩ := bs hf
      refine J_callV (m := 2) (m' := 2) (ce' := 0) (sl' := 0) (gr := [gTw d h0 a0_state a0_kept a0_tape (h1 0) a0_choice a0_traffic x0_refused x0_isKept x0_gone x0_spent]) (gs' := fun _ => [gTw d h0 a0_state a0_kept a0_tape (h1 0) a0_choice a0_traffic x0_refused x0_isKept x0_gone x0_spent, gSh d h1 r1_elements x1_held x1_sizes]) (st' := fun _ => [.int v5]) (st := []) hK qd2_84.2.2.2.2.2.2.2.2.2.2.2.2.2.2.2.1 cv_RX6_106 iv_yX2_hasRow (As := [.int p1]) (kX2_hasRow _ d h1 r1_elements x1_elements x1_held x1_sizes p1 e6) rfl rfl (Nat.le_of_ble_eq_true rfl) (by decide) 1 0 rfl rfl rfl [1] [0] rfl (by decide +kernel) rfl rfl [0, 1] (by decide +kernel) (fun _ => rfl) (fun _ => rfl) rfl rfl rfl (fun _ => rfl) (fun _ => ?_)
      refine J_if_eq (tg := 39) hK qd2_85.1 rfl rfl (fun hc32 => ?_) (fun hc32 => ?_)
      · have hf := ip hc32 hf
        refine J_bipush (v := (-4)) hK qd2_85.2.2.2.1 rfl (by decide) ?_
        obtain rfl := Option.some.inj hf
        exact J_iret hK hR qd2_85.2.2.2.2.1 () rfl (by decide) (by decide)
      · have hf := iq hc32 hf
        refine J_iconst (v := 0) hK qd2_85.2.1 rfl (by decide) ?_
        refine J_goto hK qd2_85.2.2.1 (n := 41) rfl ?_
        obtain rfl := Option.some.inj hf
        exact J_iret hK hR qd2_85.2.2.2.2.1 () rfl (by decide) (by decide)
    · have hf := iq hc18 hf
      refine J_bipush (v := (-3)) hK qd2_84.2.2.2.2.2.2.2.2.2.2.1 rfl (by decide) ?_
      obtain rfl := Option.some.inj hf
      exact J_iret hK hR qd2_84.2.2.2.2.2.2.2.2.2.2.2.1 () rfl (by decide) (by decide)
  · have hf := ip hc4 hf
    refine J_bipush (v := (-2)) hK qd2_84.2.2.2.1 rfl (by decide) ?_
    obtain rfl := Option.some.inj hf
    exact J_iret hK hR qd2_84.2.2.2.2.1 () rfl (by decide) (by decide)

def fX6_set (X0 : TwT) (X1 : ShT) (p1 : Int32) (p2 : Int32) (p3 : Int64) : Option (Int32 × (Nat → Int32) × (Nat → Nat → Int64)) :=
  u4 (fun (x0_refused : (Nat → Int32)) (x0_isKept : Int32) (x0_gone : Int32) (x0_spent : Int32) => u3 (fun (x1_elements : (Nat → Nat → Int64)) (x1_held : (Nat → Int32)) (x1_sizes : (Nat → Int32)) => (fX6_noRow (x0_refused, x0_isKept, x0_gone, x0_spent) (x1_elements, x1_held, x1_sizes) p1).bind (fun v1 => if v1 = 0 then ((rd 8 x1_sizes p1).bind fun v3 => (fX6_within p2 (0) (v3 - 1)).bind (fun v4 => if v4 = 0 then ((fX6_refuse (x0_refused, x0_isKept, x0_gone, x0_spent) (-2)).bind (u2 fun v8 g9 => some (v8, g9, x1_elements))) else ((fX2_put (x1_elements, x1_held, x1_sizes) p1 p2 p3).bind (fun g6 => some (1, x0_refused, g6))))) else ((fX6_refuse (x0_refused, x0_isKept, x0_gone, x0_spent) v1).bind (u2 fun v11 g12 => some (v11, g12, x1_elements))))) X1) X0
set_option maxHeartbeats 4000000 in
set_option maxRecDepth 100000 in
theorem kX6_set (l : Launch) (d : DT) (h0 : Nat → Nat) (a0_state : Nat) (a0_kept : Nat) (a0_tape : Nat) (a0_choice : Nat) (a0_traffic : Nat) (h1 : Nat → Nat) (r1_elements : Nat → Nat) (x0_refused : (Nat → Int32)) (x0_isKept : Int32) (x0_gone : Int32) (x0_spent : Int32) (x1_elements : (Nat → Nat → Int64)) (x1_held : (Nat → Int32)) (x1_sizes : (Nat → Int32)) (p1 : Int32) (p2 : Int32) (p3 : Int64)  {out : Int32 × (Nat → Int32) × (Nat → Nat → Int64)} (hf : fX6_set (x0_refused, x0_isKept, x0_gone, x0_spent) (x1_elements, x1_held, x1_sizes) p1 p2 p3 = some out) : Ct l d yX6_set cX6_set 6 (some .int) { frames := 3, cells := 0, slots := 0, locals := 64 } [.ref (h0 0), .int p1, .int p2, .long p3] [gTw d h0 a0_state a0_kept a0_tape (h1 0) a0_choice a0_traffic x0_refused x0_isKept x0_gone x0_spent, gSh d h1 r1_elements x1_held x1_sizes, gridJ d r1_elements 8 40 x1_elements] (fun _ : Unit => (some (.int out.1), [gTw d h0 a0_state a0_kept a0_tape (h1 0) a0_choice a0_traffic (out.2.1) x0_isKept x0_gone x0_spent, gSh d h1 r1_elements x1_held x1_sizes, gridJ d r1_elements 8 40 (out.2.2)])) := by
  refine Ct.of (by decide) (Nat.le_of_ble_eq_true rfl) ?_
  intro Φ hl hK hR
  subst hl
  have hK : Ok d Φ RX6 "set" cX6_set 6 (some .int) { frames := 3, cells := 0, slots := 0, locals := 64 } := hK
  unfold fX6_set at hf
  have hf := un4 hf
  have hf := un3 hf
  show J d Φ 6 [gTw d h0 a0_state a0_kept a0_tape (h1 0) a0_choice a0_traffic x0_refused x0_isKept x0_gone x0_spent, gSh d h1 r1_elements x1_held x1_sizes, gridJ d r1_elements 8 40 x1_elements] 0 0 0 [(0, .ref (h0 0)), (1, .int p1), (2, .int p2), (3, .long p3)] []
  refine J_aload_n hK qd1_124.1 rfl 0 rfl rfl ?_
  refine J_iload_n hK qd1_124.2.1 rfl 1 rfl rfl ?_
  obtain ⟨v1, e2, hf⟩ := bs hf
  refine J_callV (m := 3) (m' := 3) (ce' := 0) (sl' := 0) (gr := [gridJ d r1_elements 8 40 x1_elements]) (gs' := fun _ => [gTw d h0 a0_state a0_kept a0_tape (h1 0) a0_choice a0_traffic x0_refused x0_isKept x0_gone x0_spent, gSh d h1 r1_elements x1_held x1_sizes, gridJ d r1_elements 8 40 x1_elements]) (st' := fun _ => [.int v1]) (st := []) hK qd1_124.2.2.1 cv_RX6_76 iv_yX6_noRow (As := [.int p1]) (kX6_noRow _ d h0 a0_state a0_kept a0_tape a0_choice a0_traffic h1 r1_elements x0_refused x0_isKept x0_gone x0_spent x1_elements x1_held x1_sizes p1 e2) rfl rfl (Nat.le_of_ble_eq_true rfl) (by decide) 0 0 rfl rfl rfl [0, 1] [2] rfl (by decide +kernel) rfl rfl [1, 2, 0] (by decide +kernel) (fun _ => rfl) (fun _ => rfl) rfl rfl rfl (fun _ => rfl) (fun _ => ?_)
  refine J_istore (L' := [(5, .int v1), (0, .ref (h0 0)), (1, .int p1), (2, .int p2), (3, .long p3)]) hK qd1_124.2.2.2.1 rfl (by decide) rfl ?_
  refine J_iload hK qd1_124.2.2.2.2.1 rfl 0 rfl ?_
  refine J_if_eq (tg := 19) hK qd1_124.2.2.2.2.2.1 rfl rfl (fun hc9 => ?_) (fun hc9 => ?_)
  · have hf := ip hc9 hf
    refine J_iload_n hK qd1_124.2.2.2.2.2.2.2.2.2.2.1 rfl 3 rfl rfl ?_
    refine J_iconst (v := 0) hK qd1_124.2.2.2.2.2.2.2.2.2.2.2.1 rfl (by decide) ?_
    refine J_aload_n hK qd1_124.2.2.2.2.2.2.2.2.2.2.2.2.1 rfl 1 rfl rfl ?_
    refine J_get hK fo_RX6_29 qd1_124.2.2.2.2.2.2.2.2.2.2.2.2.2.1 rfl 0 0 rfl rfl rfl ?_
    refine J_get hK fo_RX6_79 qd1_124.2.2.2.2.2.2.2.2.2.2.2.2.2.2.1 rfl 1 0 rfl rfl rfl ?_
    refine J_iload_n hK qd1_124.2.2.2.2.2.2.2.2.2.2.2.2.2.2.2.1 rfl 2 rfl rfl ?_
    obtain ⟨v3, ev3, hf⟩ := bs hf
    refine J_iald hK qd1_125.1 rfl 1 3 rfl rfl ev3 ?_
    refine J_iconst (v := 1) hK qd1_125.2.1 rfl (by decide) ?_
    refine J_isub hK qd1_125.2.2.1 rfl ?_
    obtain ⟨v4, e5, hf⟩ := bs hf
    refine J_callS (m := 3) (m' := 3) (ce' := 0) (sl' := 0) (gr := [gTw d h0 a0_state a0_kept a0_tape (h1 0) a0_choice a0_traffic x0_refused x0_isKept x0_gone x0_spent, gSh d h1 r1_elements x1_held x1_sizes, gridJ d r1_elements 8 40 x1_elements]) (gs' := fun _ => [gTw d h0 a0_state a0_kept a0_tape (h1 0) a0_choice a0_traffic x0_refused x0_isKept x0_gone x0_spent, gSh d h1 r1_elements x1_held x1_sizes, gridJ d r1_elements 8 40 x1_elements]) (st' := fun _ => [.int v4]) (st := []) hK qd1_125.2.2.2.1 cv_RX6_64 ws_yX6_within (As := [.int p2, .int (0), .int (v3 - 1)]) (kX6_within _ d p2 (0) (v3 - 1) e5) rfl rfl (Nat.le_of_ble_eq_true rfl) (by decide) [] [0, 1, 2] rfl (by decide +kernel) rfl rfl [0, 1, 2] (by decide +kernel) (fun _ => rfl) (fun _ => rfl) rfl rfl rfl (fun _ => rfl) (fun _ => ?_)
    refine J_if_ne (tg := 45) hK qd1_125.2.2.2.2.1 rfl rfl (fun hc35 => ?_) (fun hc35 => ?_)
    · have hf := iq hc35 hf
      refine J_aload_n hK qd1_125.2.2.2.2.2.2.2.2.2.1 rfl 1 rfl rfl ?_
      refine J_get hK fo_RX6_29 qd1_125.2.2.2.2.2.2.2.2.2.2.1 rfl 0 0 rfl rfl rfl ?_
      refine J_iload_n hK qd1_125.2.2.2.2.2.2.2.2.2.2.2.1 rfl 2 rfl rfl ?_
      refine J_iload_n hK qd1_125.2.2.2.2.2.2.2.2.2.2.2.2.1 rfl 3 rfl rfl ?_
      refine J_lload_n hK qd1_125.2.2.2.2.2.2.2.2.2.2.2.2.2.1 rfl 4 rfl rfl ?_
      obtain ⟨g6, e7, hf⟩ := bs hf
      refine J_callV (m := 3) (m' := 3) (ce' := 0) (sl' := 0) (gr := [gTw d h0 a0_state a0_kept a0_tape (h1 0) a0_choice a0_traffic x0_refused x0_isKept x0_gone x0_spent]) (gs' := fun _ => [gTw d h0 a0_state a0_kept a0_tape (h1 0) a0_choice a0_traffic x0_refused x0_isKept x0_gone x0_spent, gSh d h1 r1_elements x1_held x1_sizes, gridJ d r1_elements 8 40 g6]) (st' := fun _ => []) (st := []) hK qd1_125.2.2.2.2.2.2.2.2.2.2.2.2.2.2.1 cv_RX6_82 iv_yX2_put (As := [.int p1, .int p2, .long p3]) (kX2_put _ d h1 r1_elements x1_elements x1_held x1_sizes p1 p2 p3 e7) rfl rfl (Nat.le_of_ble_eq_true rfl) (by decide) 1 0 rfl rfl rfl [1, 2] [0] rfl (by decide +kernel) rfl rfl [0, 1, 2] (by decide +kernel) (fun _ => rfl) (fun _ => rfl) rfl rfl rfl (fun _ => rfl) (fun _ => ?_)
      refine J_iconst (v := 1) hK qd1_125.2.2.2.2.2.2.2.2.2.2.2.2.2.2.2.1 rfl (by decide) ?_
      obtain rfl := Option.some.inj hf
      exact J_iret hK hR qd1_126.1 () rfl (by decide) (by decide)
    · have hf := ip hc35 hf
      refine J_aload_n hK qd1_125.2.2.2.2.2.1 rfl 1 rfl rfl ?_
      refine J_bipush (v := (-2)) hK qd1_125.2.2.2.2.2.2.1 rfl (by decide) ?_
      obtain ⟨⟨v8, g9⟩, e10, hf⟩ := bs hf
      have hf := un2 hf
      refine J_callV (m := 3) (m' := 3) (ce' := 0) (sl' := 0) (gr := [gSh d h1 r1_elements x1_held x1_sizes, gridJ d r1_elements 8 40 x1_elements]) (gs' := fun _ => [gTw d h0 a0_state a0_kept a0_tape (h1 0) a0_choice a0_traffic g9 x0_isKept x0_gone x0_spent, gSh d h1 r1_elements x1_held x1_sizes, gridJ d r1_elements 8 40 x1_elements]) (st' := fun _ => [.int v8]) (st := []) hK qd1_125.2.2.2.2.2.2.2.1 cv_RX6_68 iv_yX6_refuse (As := [.int (-2)]) (kX6_refuse _ d h0 a0_state a0_kept a0_tape (h1 0) a0_choice a0_traffic x0_refused x0_isKept x0_gone x0_spent (-2) e10) rfl rfl (Nat.le_of_ble_eq_true rfl) (by decide) 0 0 rfl rfl rfl [0] [1, 2] rfl (by decide +kernel) rfl rfl [2, 0, 1] (by decide +kernel) (fun _ => rfl) (fun _ => rfl) rfl rfl rfl (fun _ => rfl) (fun _ => ?_)
      obtain rfl := Option.some.inj hf
      exact J_iret hK hR qd1_125.2.2.2.2.2.2.2.2.1 () rfl (by decide) (by decide)
  · have hf := iq hc9 hf
    refine J_aload_n hK qd1_124.2.2.2.2.2.2.1 rfl 1 rfl rfl ?_
    refine J_iload hK qd1_124.2.2.2.2.2.2.2.1 rfl 0 rfl ?_
    obtain ⟨⟨v11, g12⟩, e13, hf⟩ := bs hf
    have hf := un2 hf
    refine J_callV (m := 3) (m' := 3) (ce' := 0) (sl' := 0) (gr := [gSh d h1 r1_elements x1_held x1_sizes, gridJ d r1_elements 8 40 x1_elements]) (gs' := fun _ => [gTw d h0 a0_state a0_kept a0_tape (h1 0) a0_choice a0_traffic g12 x0_isKept x0_gone x0_spent, gSh d h1 r1_elements x1_held x1_sizes, gridJ d r1_elements 8 40 x1_elements]) (st' := fun _ => [.int v11]) (st := []) hK qd1_124.2.2.2.2.2.2.2.2.1 cv_RX6_68 iv_yX6_refuse (As := [.int v1]) (kX6_refuse _ d h0 a0_state a0_kept a0_tape (h1 0) a0_choice a0_traffic x0_refused x0_isKept x0_gone x0_spent v1 e13) rfl rfl (Nat.le_of_ble_eq_true rfl) (by decide) 0 0 rfl rfl rfl [0] [1, 2] rfl (by decide +kernel) rfl rfl [2, 0, 1] (by decide +kernel) (fun _ => rfl) (fun _ => rfl) rfl rfl rfl (fun _ => rfl) (fun _ => ?_)
    obtain rfl := Option.some.inj hf
    exact J_iret hK hR qd1_124.2.2.2.2.2.2.2.2.2.1 () rfl (by decide) (by decide)

def fX6_copy (X0 : TwT) (X1 : ShT) (p1 : Int32) (p2 : Int32) (p3 : Int32) (p4 : Int32) (p5 : Int32) : Option (Int32 × (Nat → Int32) × (Nat → Nat → Int64)) :=
  u4 (fun (x0_refused : (Nat → Int32)) (x0_isKept : Int32) (x0_gone : Int32) (x0_spent : Int32) => u3 (fun (x1_elements : (Nat → Nat → Int64)) (x1_held : (Nat → Int32)) (x1_sizes : (Nat → Int32)) => (fX2_has p1).bind (fun v1 => if v1 = 0 then ((fX6_refuse (x0_refused, x0_isKept, x0_gone, x0_spent) (-2)).bind (u2 fun v3 g4 => some (v3, g4, x1_elements))) else ((fX2_has p2).bind (fun v6 => if v6 = 0 then ((fX6_refuse (x0_refused, x0_isKept, x0_gone, x0_spent) (-2)).bind (u2 fun v51 g52 => some (v51, g52, x1_elements))) else ((fX2_hasWork (x1_elements, x1_held, x1_sizes) p1).bind (fun v8 => if v8 = 0 then ((fX2_hasWork (x1_elements, x1_held, x1_sizes) p2).bind (fun v13 => if v13 = 0 then ((fX2_differ (x1_elements, x1_held, x1_sizes) p1 p2).bind (fun v18 => if v18 = 0 then ((rd 8 x1_held p1).bind fun v20 => if v20 = (-1) then ((fX6_refuse (x0_refused, x0_isKept, x0_gone, x0_spent) (-4)).bind (u2 fun v21 g22 => some (v21, g22, x1_elements))) else ((rd 8 x1_held p2).bind fun v24 => if v24 = (-1) then ((fX6_refuse (x0_refused, x0_isKept, x0_gone, x0_spent) (-4)).bind (u2 fun v45 g46 => some (v45, g46, x1_elements))) else ((fX6_within p5 (0) (40)).bind (fun v25 => if v25 = 0 then ((fX6_refuse (x0_refused, x0_isKept, x0_gone, x0_spent) (-2)).bind (u2 fun v27 g28 => some (v27, g28, x1_elements))) else ((rd 8 x1_sizes p1).bind fun v30 => (fX6_within p3 (0) (v30 - p5)).bind (fun v31 => if v31 = 0 then ((fX6_refuse (x0_refused, x0_isKept, x0_gone, x0_spent) (-2)).bind (u2 fun v33 g34 => some (v33, g34, x1_elements))) else ((rd 8 x1_sizes p2).bind fun v36 => (fX6_within p4 (0) (v36 - p5)).bind (fun v37 => if v37 = 0 then ((fX6_refuse (x0_refused, x0_isKept, x0_gone, x0_spent) (-2)).bind (u2 fun v42 g43 => some (v42, g43, x1_elements))) else ((ck p1 8).bind fun q39 => (ck p2 8).bind fun q40 => (cpy 40 (x1_elements q39) 40 (x1_elements q40) p3 p4 p5).bind fun f41 => some (p5, x0_refused, (va_up x1_elements q40 f41))))))))))) else ((fX6_refuse (x0_refused, x0_isKept, x0_gone, x0_spent) (-3)).bind (u2 fun v48 g49 => some (v48, g49, x1_elements))))) else ((fX6_refuse (x0_refused, x0_isKept, x0_gone, x0_spent) (-3)).bind (u2 fun v15 g16 => some (v15, g16, x1_elements))))) else ((fX6_refuse (x0_refused, x0_isKept, x0_gone, x0_spent) (-3)).bind (u2 fun v10 g11 => some (v10, g11, x1_elements))))))))) X1) X0
set_option maxHeartbeats 4000000 in
set_option maxRecDepth 100000 in
theorem kX6_copy (l : Launch) (d : DT) (h0 : Nat → Nat) (a0_state : Nat) (a0_kept : Nat) (a0_tape : Nat) (a0_choice : Nat) (a0_traffic : Nat) (h1 : Nat → Nat) (r1_elements : Nat → Nat) (x0_refused : (Nat → Int32)) (x0_isKept : Int32) (x0_gone : Int32) (x0_spent : Int32) (x1_elements : (Nat → Nat → Int64)) (x1_held : (Nat → Int32)) (x1_sizes : (Nat → Int32)) (p1 : Int32) (p2 : Int32) (p3 : Int32) (p4 : Int32) (p5 : Int32)  {out : Int32 × (Nat → Int32) × (Nat → Nat → Int64)} (hf : fX6_copy (x0_refused, x0_isKept, x0_gone, x0_spent) (x1_elements, x1_held, x1_sizes) p1 p2 p3 p4 p5 = some out) : Ct l d yX6_copy cX6_copy 6 (some .int) { frames := 2, cells := 0, slots := 0, locals := 43 } [.ref (h0 0), .int p1, .int p2, .int p3, .int p4, .int p5] [gTw d h0 a0_state a0_kept a0_tape (h1 0) a0_choice a0_traffic x0_refused x0_isKept x0_gone x0_spent, gSh d h1 r1_elements x1_held x1_sizes, gridJ d r1_elements 8 40 x1_elements] (fun _ : Unit => (some (.int out.1), [gTw d h0 a0_state a0_kept a0_tape (h1 0) a0_choice a0_traffic (out.2.1) x0_isKept x0_gone x0_spent, gSh d h1 r1_elements x1_held x1_sizes, gridJ d r1_elements 8 40 (out.2.2)])) := by
  refine Ct.of (by decide) (Nat.le_of_ble_eq_true rfl) ?_
  intro Φ hl hK hR
  subst hl
  have hK : Ok d Φ RX6 "copy" cX6_copy 6 (some .int) { frames := 2, cells := 0, slots := 0, locals := 43 } := hK
  unfold fX6_copy at hf
  have hf := un4 hf
  have hf := un3 hf
  show J d Φ 6 [gTw d h0 a0_state a0_kept a0_tape (h1 0) a0_choice a0_traffic x0_refused x0_isKept x0_gone x0_spent, gSh d h1 r1_elements x1_held x1_sizes, gridJ d r1_elements 8 40 x1_elements] 0 0 0 [(0, .ref (h0 0)), (1, .int p1), (2, .int p2), (3, .int p3), (4, .int p4), (5, .int p5)] []
  refine J_iload_n hK qd1_127.1 rfl 1 rfl rfl ?_
  obtain ⟨v1, e2, hf⟩ := bs hf
  refine J_callS (m := 3) (m' := 3) (ce' := 0) (sl' := 0) (gr := [gTw d h0 a0_state a0_kept a0_tape (h1 0) a0_choice a0_traffic x0_refused x0_isKept x0_gone x0_spent, gSh d h1 r1_elements x1_held x1_sizes, gridJ d r1_elements 8 40 x1_elements]) (gs' := fun _ => [gTw d h0 a0_state a0_kept a0_tape (h1 0) a0_choice a0_traffic x0_refused x0_isKept x0_gone x0_spent, gSh d h1 r1_elements x1_held x1_sizes, gridJ d r1_elements 8 40 x1_elements]) (st' := fun _ => [.int v1]) (st := []) hK qd1_127.2.1 cv_RX6_60 ws_yX2_has (As := [.int p1]) (kX2_has _ d p1 e2) rfl rfl (Nat.le_of_ble_eq_true rfl) (by decide) [] [0, 1, 2] rfl (by decide +kernel) rfl rfl [0, 1, 2] (by decide +kernel) (fun _ => rfl) (fun _ => rfl) rfl rfl rfl (fun _ => rfl) (fun _ => ?_)
  refine J_if_eq (tg := 14) hK qd1_127.2.2.1 rfl rfl (fun hc4 => ?_) (fun hc4 => ?_)
  · have hf := ip hc4 hf
    refine J_aload_n hK qd1_127.2.2.2.2.2.2.1 rfl 0 rfl rfl ?_
    refine J_bipush (v := (-2)) hK qd1_127.2.2.2.2.2.2.2.1 rfl (by decide) ?_
    obtain ⟨⟨v3, g4⟩, e5, hf⟩ := bs hf
    have hf := un2 hf
    refine J_callV (m := 3) (m' := 3) (ce' := 0) (sl' := 0) (gr := [gSh d h1 r1_elements x1_held x1_sizes, gridJ d r1_elements 8 40 x1_elements]) (gs' := fun _ => [gTw d h0 a0_state a0_kept a0_tape (h1 0) a0_choice a0_traffic g4 x0_isKept x0_gone x0_spent, gSh d h1 r1_elements x1_held x1_sizes, gridJ d r1_elements 8 40 x1_elements]) (st' := fun _ => [.int v3]) (st := []) hK qd1_127.2.2.2.2.2.2.2.2.1 cv_RX6_68 iv_yX6_refuse (As := [.int (-2)]) (kX6_refuse _ d h0 a0_state a0_kept a0_tape (h1 0) a0_choice a0_traffic x0_refused x0_isKept x0_gone x0_spent (-2) e5) rfl rfl (Nat.le_of_ble_eq_true rfl) (by decide) 0 0 rfl rfl rfl [0] [1, 2] rfl (by decide +kernel) rfl rfl [2, 0, 1] (by decide +kernel) (fun _ => rfl) (fun _ => rfl) rfl rfl rfl (fun _ => rfl) (fun _ => ?_)
    obtain rfl := Option.some.inj hf
    exact J_iret hK hR qd1_127.2.2.2.2.2.2.2.2.2.1 () rfl (by decide) (by decide)
  · have hf := iq hc4 hf
    refine J_iload_n hK qd1_127.2.2.2.1 rfl 2 rfl rfl ?_
    obtain ⟨v6, e7, hf⟩ := bs hf
    refine J_callS (m := 3) (m' := 3) (ce' := 0) (sl' := 0) (gr := [gTw d h0 a0_state a0_kept a0_tape (h1 0) a0_choice a0_traffic x0_refused x0_isKept x0_gone x0_spent, gSh d h1 r1_elements x1_held x1_sizes, gridJ d r1_elements 8 40 x1_elements]) (gs' := fun _ => [gTw d h0 a0_state a0_kept a0_tape (h1 0) a0_choice a0_traffic x0_refused x0_isKept x0_gone x0_spent, gSh d h1 r1_elements x1_held x1_sizes, gridJ d r1_elements 8 40 x1_elements]) (st' := fun _ => [.int v6]) (st := []) hK qd1_127.2.2.2.2.1 cv_RX6_60 ws_yX2_has (As := [.int p2]) (kX2_has _ d p2 e7) rfl rfl (Nat.le_of_ble_eq_true rfl) (by decide) [] [0, 1, 2] rfl (by decide +kernel) rfl rfl [0, 1, 2] (by decide +kernel) (fun _ => rfl) (fun _ => rfl) rfl rfl rfl (fun _ => rfl) (fun _ => ?_)
    refine J_if_ne (tg := 21) hK qd1_127.2.2.2.2.2.1 rfl rfl (fun hc11 => ?_) (fun hc11 => ?_)
    · have hf := iq hc11 hf
      refine J_aload_n hK qd1_127.2.2.2.2.2.2.2.2.2.2.1 rfl 0 rfl rfl ?_
      refine J_get hK fo_RX6_29 qd1_127.2.2.2.2.2.2.2.2.2.2.2.1 rfl 0 0 rfl rfl rfl ?_
      refine J_iload_n hK qd1_127.2.2.2.2.2.2.2.2.2.2.2.2.1 rfl 1 rfl rfl ?_
      obtain ⟨v8, e9, hf⟩ := bs hf
      refine J_callV (m := 3) (m' := 3) (ce' := 0) (sl' := 0) (gr := [gTw d h0 a0_state a0_kept a0_tape (h1 0) a0_choice a0_traffic x0_refused x0_isKept x0_gone x0_spent, gridJ d r1_elements 8 40 x1_elements]) (gs' := fun _ => [gTw d h0 a0_state a0_kept a0_tape (h1 0) a0_choice a0_traffic x0_refused x0_isKept x0_gone x0_spent, gSh d h1 r1_elements x1_held x1_sizes, gridJ d r1_elements 8 40 x1_elements]) (st' := fun _ => [.int v8]) (st := []) hK qd1_127.2.2.2.2.2.2.2.2.2.2.2.2.2.1 cv_RX6_86 iv_yX2_hasWork (As := [.int p1]) (kX2_hasWork _ d h1 r1_elements x1_elements x1_held x1_sizes p1 e9) rfl rfl (Nat.le_of_ble_eq_true rfl) (by decide) 1 0 rfl rfl rfl [1] [0, 2] rfl (by decide +kernel) rfl rfl [0, 2, 1] (by decide +kernel) (fun _ => rfl) (fun _ => rfl) rfl rfl rfl (fun _ => rfl) (fun _ => ?_)
      refine J_if_ne (tg := 55) hK qd1_127.2.2.2.2.2.2.2.2.2.2.2.2.2.2.1 rfl rfl (fun hc29 => ?_) (fun hc29 => ?_)
      · have hf := iq hc29 hf
        refine J_aload_n hK qd1_128.2.2.2.2.2.2.2.2.2.2.1 rfl 0 rfl rfl ?_
        refine J_bipush (v := (-3)) hK qd1_128.2.2.2.2.2.2.2.2.2.2.2.1 rfl (by decide) ?_
        obtain ⟨⟨v10, g11⟩, e12, hf⟩ := bs hf
        have hf := un2 hf
        refine J_callV (m := 3) (m' := 3) (ce' := 0) (sl' := 0) (gr := [gSh d h1 r1_elements x1_held x1_sizes, gridJ d r1_elements 8 40 x1_elements]) (gs' := fun _ => [gTw d h0 a0_state a0_kept a0_tape (h1 0) a0_choice a0_traffic g11 x0_isKept x0_gone x0_spent, gSh d h1 r1_elements x1_held x1_sizes, gridJ d r1_elements 8 40 x1_elements]) (st' := fun _ => [.int v10]) (st := []) hK qd1_128.2.2.2.2.2.2.2.2.2.2.2.2.1 cv_RX6_68 iv_yX6_refuse (As := [.int (-3)]) (kX6_refuse _ d h0 a0_state a0_kept a0_tape (h1 0) a0_choice a0_traffic x0_refused x0_isKept x0_gone x0_spent (-3) e12) rfl rfl (Nat.le_of_ble_eq_true rfl) (by decide) 0 0 rfl rfl rfl [0] [1, 2] rfl (by decide +kernel) rfl rfl [2, 0, 1] (by decide +kernel) (fun _ => rfl) (fun _ => rfl) rfl rfl rfl (fun _ => rfl) (fun _ => ?_)
        obtain rfl := Option.some.inj hf
        exact J_iret hK hR qd1_128.2.2.2.2.2.2.2.2.2.2.2.2.2.1 () rfl (by decide) (by decide)
      · have hf := ip hc29 hf
        refine J_aload_n hK qd1_127.2.2.2.2.2.2.2.2.2.2.2.2.2.2.2.1 rfl 0 rfl rfl ?_
        refine J_get hK fo_RX6_29 qd1_128.1 rfl 0 0 rfl rfl rfl ?_
        refine J_iload_n hK qd1_128.2.1 rfl 2 rfl rfl ?_
        obtain ⟨v13, e14, hf⟩ := bs hf
        refine J_callV (m := 3) (m' := 3) (ce' := 0) (sl' := 0) (gr := [gTw d h0 a0_state a0_kept a0_tape (h1 0) a0_choice a0_traffic x0_refused x0_isKept x0_gone x0_spent, gridJ d r1_elements 8 40 x1_elements]) (gs' := fun _ => [gTw d h0 a0_state a0_kept a0_tape (h1 0) a0_choice a0_traffic x0_refused x0_isKept x0_gone x0_spent, gSh d h1 r1_elements x1_held x1_sizes, gridJ d r1_elements 8 40 x1_elements]) (st' := fun _ => [.int v13]) (st := []) hK qd1_128.2.2.1 cv_RX6_86 iv_yX2_hasWork (As := [.int p2]) (kX2_hasWork _ d h1 r1_elements x1_elements x1_held x1_sizes p2 e14) rfl rfl (Nat.le_of_ble_eq_true rfl) (by decide) 1 0 rfl rfl rfl [1] [0, 2] rfl (by decide +kernel) rfl rfl [0, 2, 1] (by decide +kernel) (fun _ => rfl) (fun _ => rfl) rfl rfl rfl (fun _ => rfl) (fun _ => ?_)
        refine J_if_ne (tg := 55) hK qd1_128.2.2.2.1 rfl rfl (fun hc40 => ?_) (fun hc40 => ?_)
        · have hf := iq hc40 hf
          refine J_aload_n hK qd1_128.2.2.2.2.2.2.2.2.2.2.1 rfl 0 rfl rfl ?_
          refine J_bipush (v := (-3)) hK qd1_128.2.2.2.2.2.2.2.2.2.2.2.1 rfl (by decide) ?_
          obtain ⟨⟨v15, g16⟩, e17, hf⟩ := bs hf
          have hf := un2 hf
          refine J_callV (m := 3) (m' := 3) (ce' := 0) (sl' := 0) (gr := [gSh d h1 r1_elements x1_held x1_sizes, gridJ d r1_elements 8 40 x1_elements]) (gs' := fun _ => [gTw d h0 a0_state a0_kept a0_tape (h1 0) a0_choice a0_traffic g16 x0_isKept x0_gone x0_spent, gSh d h1 r1_elements x1_held x1_sizes, gridJ d r1_elements 8 40 x1_elements]) (st' := fun _ => [.int v15]) (st := []) hK qd1_128.2.2.2.2.2.2.2.2.2.2.2.2.1 cv_RX6_68 iv_yX6_refuse (As := [.int (-3)]) (kX6_refuse _ d h0 a0_state a0_kept a0_tape (h1 0) a0_choice a0_traffic x0_refused x0_isKept x0_gone x0_spent (-3) e17) rfl rfl (Nat.le_of_ble_eq_true rfl) (by decide) 0 0 rfl rfl rfl [0] [1, 2] rfl (by decide +kernel) rfl rfl [2, 0, 1] (by decide +kernel) (fun _ => rfl) (fun _ => rfl) rfl rfl rfl (fun _ => rfl) (fun _ => ?_)
          obtain rfl := Option.some.inj hf
          exact J_iret hK hR qd1_128.2.2.2.2.2.2.2.2.2.2.2.2.2.1 () rfl (by decide) (by decide)
        · have hf := ip hc40 hf
          refine J_aload_n hK qd1_128.2.2.2.2.1 rfl 0 rfl rfl ?_
          refine J_get hK fo_RX6_29 qd1_128.2.2.2.2.2.1 rfl 0 0 rfl rfl rfl ?_
          refine J_iload_n hK qd1_128.2.2.2.2.2.2.1 rfl 1 rfl rfl ?_
          refine J_iload_n hK qd1_128.2.2.2.2.2.2.2.1 rfl 2 rfl rfl ?_
          obtain ⟨v18, e19, hf⟩ := bs hf
          refine J_callV (m := 3) (m' := 3) (ce' := 0) (sl' := 0) (gr := [gTw d h0 a0_state a0_kept a0_tape (h1 0) a0_choice a0_traffic x0_refused x0_isKept x0_gone x0_spent, gridJ d r1_elements 8 40 x1_elements]) (gs' := fun _ => [gTw d h0 a0_state a0_kept a0_tape (h1 0) a0_choice a0_traffic x0_refused x0_isKept x0_gone x0_spent, gSh d h1 r1_elements x1_held x1_sizes, gridJ d r1_elements 8 40 x1_elements]) (st' := fun _ => [.int v18]) (st := []) hK qd1_128.2.2.2.2.2.2.2.2.1 cv_RX6_89 iv_yX2_differ (As := [.int p1, .int p2]) (kX2_differ _ d h1 r1_elements x1_elements x1_held x1_sizes p1 p2 e19) rfl rfl (Nat.le_of_ble_eq_true rfl) (by decide) 1 0 rfl rfl rfl [1] [0, 2] rfl (by decide +kernel) rfl rfl [0, 2, 1] (by decide +kernel) (fun _ => rfl) (fun _ => rfl) rfl rfl rfl (fun _ => rfl) (fun _ => ?_)
          refine J_if_eq (tg := 62) hK qd1_128.2.2.2.2.2.2.2.2.2.1 rfl rfl (fun hc52 => ?_) (fun hc52 => ?_)
          · have hf := ip hc52 hf
            refine J_aload_n hK qd1_128.2.2.2.2.2.2.2.2.2.2.2.2.2.2.1 rfl 0 rfl rfl ?_
            refine J_get hK fo_RX6_29 qd1_128.2.2.2.2.2.2.2.2.2.2.2.2.2.2.2.1 rfl 0 0 rfl rfl rfl ?_
            refine J_get hK fo_RX6_93 qd1_129.1 rfl 1 0 rfl rfl rfl ?_
            refine J_iload_n hK qd1_129.2.1 rfl 1 rfl rfl ?_
            obtain ⟨v20, ev20, hf⟩ := bs hf
            refine J_iald hK qd1_129.2.2.1 rfl 1 2 rfl rfl ev20 ?_
            refine J_iconst (v := (-1)) hK qd1_129.2.2.2.1 rfl (by decide) ?_
            refine J_icmp_eq (tg := 88) hK qd1_129.2.2.2.2.1 rfl rfl (fun hc72 => ?_) (fun hc72 => ?_)
            · have hf := ip hc72 hf
              refine J_aload_n hK qd1_129.2.2.2.2.2.2.2.2.2.2.2.2.1 rfl 0 rfl rfl ?_
              refine J_bipush (v := (-4)) hK qd1_129.2.2.2.2.2.2.2.2.2.2.2.2.2.1 rfl (by decide) ?_
              obtain ⟨⟨v21, g22⟩, e23, hf⟩ := bs hf
              have hf := un2 hf
              refine J_callV (m := 3) (m' := 3) (ce' := 0) (sl' := 0) (gr := [gSh d h1 r1_elements x1_held x1_sizes, gridJ d r1_elements 8 40 x1_elements]) (gs' := fun _ => [gTw d h0 a0_state a0_kept a0_tape (h1 0) a0_choice a0_traffic g22 x0_isKept x0_gone x0_spent, gSh d h1 r1_elements x1_held x1_sizes, gridJ d r1_elements 8 40 x1_elements]) (st' := fun _ => [.int v21]) (st := []) hK qd1_129.2.2.2.2.2.2.2.2.2.2.2.2.2.2.1 cv_RX6_68 iv_yX6_refuse (As := [.int (-4)]) (kX6_refuse _ d h0 a0_state a0_kept a0_tape (h1 0) a0_choice a0_traffic x0_refused x0_isKept x0_gone x0_spent (-4) e23) rfl rfl (Nat.le_of_ble_eq_true rfl) (by decide) 0 0 rfl rfl rfl [0] [1, 2] rfl (by decide +kernel) rfl rfl [2, 0, 1] (by decide +kernel) (fun _ => rfl) (fun _ => rfl) rfl rfl rfl (fun _ => rfl) (fun _ => ?_)
              obtain rfl := Option.some.inj hf
              exact J_iret hK hR qd1_129.2.2.2.2.2.2.2.2.2.2.2.2.2.2.2.1 () rfl (by decide) (by decide)
            · have hf := iq hc72 hf
              refine J_aload_n hK qd1_129.2.2.2.2.2.1 rfl 0 rfl rfl ?_
              refine J_get hK fo_RX6_29 qd1_129.2.2.2.2.2.2.1 rfl 0 0 rfl rfl rfl ?_
              refine J_get hK fo_RX6_93 qd1_129.2.2.2.2.2.2.2.1 rfl 1 0 rfl rfl rfl ?_
              refine J_iload_n hK qd1_129.2.2.2.2.2.2.2.2.1 rfl 2 rfl rfl ?_
              obtain ⟨v24, ev24, hf⟩ := bs hf
              refine J_iald hK qd1_129.2.2.2.2.2.2.2.2.2.1 rfl 1 2 rfl rfl ev24 ?_
              refine J_iconst (v := (-1)) hK qd1_129.2.2.2.2.2.2.2.2.2.2.1 rfl (by decide) ?_
              refine J_icmp_ne (tg := 95) hK qd1_129.2.2.2.2.2.2.2.2.2.2.2.1 rfl rfl (fun hc85 => ?_) (fun hc85 => ?_)
              · have hf := iq hc85 hf
                refine J_iload hK qd1_130.1 rfl 5 rfl ?_
                refine J_iconst (v := 0) hK qd1_130.2.1 rfl (by decide) ?_
                refine J_bipush (v := 40) hK qd1_130.2.2.1 rfl (by decide) ?_
                obtain ⟨v25, e26, hf⟩ := bs hf
                refine J_callS (m := 3) (m' := 3) (ce' := 0) (sl' := 0) (gr := [gTw d h0 a0_state a0_kept a0_tape (h1 0) a0_choice a0_traffic x0_refused x0_isKept x0_gone x0_spent, gSh d h1 r1_elements x1_held x1_sizes, gridJ d r1_elements 8 40 x1_elements]) (gs' := fun _ => [gTw d h0 a0_state a0_kept a0_tape (h1 0) a0_choice a0_traffic x0_refused x0_isKept x0_gone x0_spent, gSh d h1 r1_elements x1_held x1_sizes, gridJ d r1_elements 8 40 x1_elements]) (st' := fun _ => [.int v25]) (st := []) hK qd1_130.2.2.2.1 cv_RX6_64 ws_yX6_within (As := [.int p5, .int (0), .int (40)]) (kX6_within _ d p5 (0) (40) e26) rfl rfl (Nat.le_of_ble_eq_true rfl) (by decide) [] [0, 1, 2] rfl (by decide +kernel) rfl rfl [0, 1, 2] (by decide +kernel) (fun _ => rfl) (fun _ => rfl) rfl rfl rfl (fun _ => rfl) (fun _ => ?_)
                refine J_if_eq (tg := 147) hK qd1_130.2.2.2.2.1 rfl rfl (fun hc103 => ?_) (fun hc103 => ?_)
                · have hf := ip hc103 hf
                  refine J_aload_n hK qd1_131.2.2.2.2.2.2.2.2.2.2.2.1 rfl 0 rfl rfl ?_
                  refine J_bipush (v := (-2)) hK qd1_131.2.2.2.2.2.2.2.2.2.2.2.2.1 rfl (by decide) ?_
                  obtain ⟨⟨v27, g28⟩, e29, hf⟩ := bs hf
                  have hf := un2 hf
                  refine J_callV (m := 3) (m' := 3) (ce' := 0) (sl' := 0) (gr := [gSh d h1 r1_elements x1_held x1_sizes, gridJ d r1_elements 8 40 x1_elements]) (gs' := fun _ => [gTw d h0 a0_state a0_kept a0_tape (h1 0) a0_choice a0_traffic g28 x0_isKept x0_gone x0_spent, gSh d h1 r1_elements x1_held x1_sizes, gridJ d r1_elements 8 40 x1_elements]) (st' := fun _ => [.int v27]) (st := []) hK qd1_131.2.2.2.2.2.2.2.2.2.2.2.2.2.1 cv_RX6_68 iv_yX6_refuse (As := [.int (-2)]) (kX6_refuse _ d h0 a0_state a0_kept a0_tape (h1 0) a0_choice a0_traffic x0_refused x0_isKept x0_gone x0_spent (-2) e29) rfl rfl (Nat.le_of_ble_eq_true rfl) (by decide) 0 0 rfl rfl rfl [0] [1, 2] rfl (by decide +kernel) rfl rfl [2, 0, 1] (by decide +kernel) (fun _ => rfl) (fun _ => rfl) rfl rfl rfl (fun _ => rfl) (fun _ => ?_)
                  obtain rfl := Option.some.inj hf
                  exact J_iret hK hR qd1_131.2.2.2.2.2.2.2.2.2.2.2.2.2.2.1 () rfl (by decide) (by decide)
                · have hf := iq hc103 hf
                  refine J_iload_n hK qd1_130.2.2.2.2.2.1 rfl 3 rfl rfl ?_
                  refine J_iconst (v := 0) hK qd1_130.2.2.2.2.2.2.1 rfl (by decide) ?_
                  refine J_aload_n hK qd1_130.2.2.2.2.2.2.2.1 rfl 0 rfl rfl ?_
                  refine J_get hK fo_RX6_29 qd1_130.2.2.2.2.2.2.2.2.1 rfl 0 0 rfl rfl rfl ?_
                  refine J_get hK fo_RX6_79 qd1_130.2.2.2.2.2.2.2.2.2.1 rfl 1 0 rfl rfl rfl ?_
                  refine J_iload_n hK qd1_130.2.2.2.2.2.2.2.2.2.2.1 rfl 1 rfl rfl ?_
                  obtain ⟨v30, ev30, hf⟩ := bs hf
                  refine J_iald hK qd1_130.2.2.2.2.2.2.2.2.2.2.2.1 rfl 1 3 rfl rfl ev30 ?_
                  refine J_iload hK qd1_130.2.2.2.2.2.2.2.2.2.2.2.2.1 rfl 5 rfl ?_
                  refine J_isub hK qd1_130.2.2.2.2.2.2.2.2.2.2.2.2.2.1 rfl ?_
                  obtain ⟨v31, e32, hf⟩ := bs hf
                  refine J_callS (m := 3) (m' := 3) (ce' := 0) (sl' := 0) (gr := [gTw d h0 a0_state a0_kept a0_tape (h1 0) a0_choice a0_traffic x0_refused x0_isKept x0_gone x0_spent, gSh d h1 r1_elements x1_held x1_sizes, gridJ d r1_elements 8 40 x1_elements]) (gs' := fun _ => [gTw d h0 a0_state a0_kept a0_tape (h1 0) a0_choice a0_traffic x0_refused x0_isKept x0_gone x0_spent, gSh d h1 r1_elements x1_held x1_sizes, gridJ d r1_elements 8 40 x1_elements]) (st' := fun _ => [.int v31]) (st := []) hK qd1_130.2.2.2.2.2.2.2.2.2.2.2.2.2.2.1 cv_RX6_64 ws_yX6_within (As := [.int p3, .int (0), .int (v30 - p5)]) (kX6_within _ d p3 (0) (v30 - p5) e32) rfl rfl (Nat.le_of_ble_eq_true rfl) (by decide) [] [0, 1, 2] rfl (by decide +kernel) rfl rfl [0, 1, 2] (by decide +kernel) (fun _ => rfl) (fun _ => rfl) rfl rfl rfl (fun _ => rfl) (fun _ => ?_)
                  refine J_if_eq (tg := 147) hK qd1_130.2.2.2.2.2.2.2.2.2.2.2.2.2.2.2.1 rfl rfl (fun hc123 => ?_) (fun hc123 => ?_)
                  · have hf := ip hc123 hf
                    refine J_aload_n hK qd1_131.2.2.2.2.2.2.2.2.2.2.2.1 rfl 0 rfl rfl ?_
                    refine J_bipush (v := (-2)) hK qd1_131.2.2.2.2.2.2.2.2.2.2.2.2.1 rfl (by decide) ?_
                    obtain ⟨⟨v33, g34⟩, e35, hf⟩ := bs hf
                    have hf := un2 hf
                    refine J_callV (m := 3) (m' := 3) (ce' := 0) (sl' := 0) (gr := [gSh d h1 r1_elements x1_held x1_sizes, gridJ d r1_elements 8 40 x1_elements]) (gs' := fun _ => [gTw d h0 a0_state a0_kept a0_tape (h1 0) a0_choice a0_traffic g34 x0_isKept x0_gone x0_spent, gSh d h1 r1_elements x1_held x1_sizes, gridJ d r1_elements 8 40 x1_elements]) (st' := fun _ => [.int v33]) (st := []) hK qd1_131.2.2.2.2.2.2.2.2.2.2.2.2.2.1 cv_RX6_68 iv_yX6_refuse (As := [.int (-2)]) (kX6_refuse _ d h0 a0_state a0_kept a0_tape (h1 0) a0_choice a0_traffic x0_refused x0_isKept x0_gone x0_spent (-2) e35) rfl rfl (Nat.le_of_ble_eq_true rfl) (by decide) 0 0 rfl rfl rfl [0] [1, 2] rfl (by decide +kernel) rfl rfl [2, 0, 1] (by decide +kernel) (fun _ => rfl) (fun _ => rfl) rfl rfl rfl (fun _ => rfl) (fun _ => ?_)
                    obtain rfl := Option.some.inj hf
                    exact J_iret hK hR qd1_131.2.2.2.2.2.2.2.2.2.2.2.2.2.2.1 () rfl (by decide) (by decide)
                  · have hf := iq hc123 hf
                    refine J_iload hK qd1_131.1 rfl 4 rfl ?_
                    refine J_iconst (v := 0) hK qd1_131.2.1 rfl (by decide) ?_
                    refine J_aload_n hK qd1_131.2.2.1 rfl 0 rfl rfl ?_
                    refine J_get hK fo_RX6_29 qd1_131.2.2.2.1 rfl 0 0 rfl rfl rfl ?_
                    refine J_get hK fo_RX6_79 qd1_131.2.2.2.2.1 rfl 1 0 rfl rfl rfl ?_
                    refine J_iload_n hK qd1_131.2.2.2.2.2.1 rfl 2 rfl rfl ?_
                    obtain ⟨v36, ev36, hf⟩ := bs hf
                    refine J_iald hK qd1_131.2.2.2.2.2.2.1 rfl 1 3 rfl rfl ev36 ?_
                    refine J_iload hK qd1_131.2.2.2.2.2.2.2.1 rfl 5 rfl ?_
                    refine J_isub hK qd1_131.2.2.2.2.2.2.2.2.1 rfl ?_
                    obtain ⟨v37, e38, hf⟩ := bs hf
                    refine J_callS (m := 3) (m' := 3) (ce' := 0) (sl' := 0) (gr := [gTw d h0 a0_state a0_kept a0_tape (h1 0) a0_choice a0_traffic x0_refused x0_isKept x0_gone x0_spent, gSh d h1 r1_elements x1_held x1_sizes, gridJ d r1_elements 8 40 x1_elements]) (gs' := fun _ => [gTw d h0 a0_state a0_kept a0_tape (h1 0) a0_choice a0_traffic x0_refused x0_isKept x0_gone x0_spent, gSh d h1 r1_elements x1_held x1_sizes, gridJ d r1_elements 8 40 x1_elements]) (st' := fun _ => [.int v37]) (st := []) hK qd1_131.2.2.2.2.2.2.2.2.2.1 cv_RX6_64 ws_yX6_within (As := [.int p4, .int (0), .int (v36 - p5)]) (kX6_within _ d p4 (0) (v36 - p5) e38) rfl rfl (Nat.le_of_ble_eq_true rfl) (by decide) [] [0, 1, 2] rfl (by decide +kernel) rfl rfl [0, 1, 2] (by decide +kernel) (fun _ => rfl) (fun _ => rfl) rfl rfl rfl (fun _ => rfl) (fun _ => ?_)
                    refine J_if_ne (tg := 154) hK qd1_131.2.2.2.2.2.2.2.2.2.2.1 rfl rfl (fun hc144 => ?_) (fun hc144 => ?_)
                    · have hf := iq hc144 hf
                      refine J_aload_n hK qd1_131.2.2.2.2.2.2.2.2.2.2.2.2.2.2.2.1 rfl 0 rfl rfl ?_
                      refine J_get hK fo_RX6_29 qd1_132.1 rfl 0 0 rfl rfl rfl ?_
                      refine J_get hK fo_RX6_96 qd1_132.2.1 rfl 1 0 rfl rfl rfl ?_
                      refine J_iload_n hK qd1_132.2.2.1 rfl 1 rfl rfl ?_
                      obtain ⟨q39, eq39, hf⟩ := bs hf
                      refine J_aald hK qd1_132.2.2.2.1 rfl 1 1 rfl rfl rfl eq39 ?_
                      refine J_iload_n hK qd1_132.2.2.2.2.1 rfl 3 rfl rfl ?_
                      refine J_aload_n hK qd1_132.2.2.2.2.2.1 rfl 0 rfl rfl ?_
                      refine J_get hK fo_RX6_29 qd1_132.2.2.2.2.2.2.1 rfl 0 0 rfl rfl rfl ?_
                      refine J_get hK fo_RX6_96 qd1_132.2.2.2.2.2.2.2.1 rfl 1 0 rfl rfl rfl ?_
                      refine J_iload_n hK qd1_132.2.2.2.2.2.2.2.2.1 rfl 2 rfl rfl ?_
                      obtain ⟨q40, eq40, hf⟩ := bs hf
                      refine J_aald hK qd1_132.2.2.2.2.2.2.2.2.2.1 rfl 1 1 rfl rfl rfl eq40 ?_
                      refine J_iload hK qd1_132.2.2.2.2.2.2.2.2.2.2.1 rfl 4 rfl ?_
                      refine J_iload hK qd1_132.2.2.2.2.2.2.2.2.2.2.2.1 rfl 5 rfl ?_
                      obtain ⟨f41, ef41, hf⟩ := bs hf
                      refine J_cpyJ (g' := gridJ d r1_elements 8 40 (va_up x1_elements q40 f41)) (gs' := [gTw d h0 a0_state a0_kept a0_tape (h1 0) a0_choice a0_traffic x0_refused x0_isKept x0_gone x0_spent, gSh d h1 r1_elements x1_held x1_sizes, gridJ d r1_elements 8 40 (va_up x1_elements q40 f41)]) hK qd1_132.2.2.2.2.2.2.2.2.2.2.2.2.1 rfl cc_RX6_100 2 q39 2 q40 rfl rfl (gridJ_at (ck_ok eq39).2.2) (gridJ_at (ck_ok eq40).2.2) ef41 (by decide) (Nat.le_of_ble_eq_true rfl) gridJ_set rfl ?_
                      refine J_iload hK qd1_132.2.2.2.2.2.2.2.2.2.2.2.2.2.1 rfl 5 rfl ?_
                      obtain rfl := Option.some.inj hf
                      exact J_iret hK hR qd1_132.2.2.2.2.2.2.2.2.2.2.2.2.2.2.1 () rfl (by decide) (by decide)
                    · have hf := ip hc144 hf
                      refine J_aload_n hK qd1_131.2.2.2.2.2.2.2.2.2.2.2.1 rfl 0 rfl rfl ?_
                      refine J_bipush (v := (-2)) hK qd1_131.2.2.2.2.2.2.2.2.2.2.2.2.1 rfl (by decide) ?_
                      obtain ⟨⟨v42, g43⟩, e44, hf⟩ := bs hf
                      have hf := un2 hf
                      refine J_callV (m := 3) (m' := 3) (ce' := 0) (sl' := 0) (gr := [gSh d h1 r1_elements x1_held x1_sizes, gridJ d r1_elements 8 40 x1_elements]) (gs' := fun _ => [gTw d h0 a0_state a0_kept a0_tape (h1 0) a0_choice a0_traffic g43 x0_isKept x0_gone x0_spent, gSh d h1 r1_elements x1_held x1_sizes, gridJ d r1_elements 8 40 x1_elements]) (st' := fun _ => [.int v42]) (st := []) hK qd1_131.2.2.2.2.2.2.2.2.2.2.2.2.2.1 cv_RX6_68 iv_yX6_refuse (As := [.int (-2)]) (kX6_refuse _ d h0 a0_state a0_kept a0_tape (h1 0) a0_choice a0_traffic x0_refused x0_isKept x0_gone x0_spent (-2) e44) rfl rfl (Nat.le_of_ble_eq_true rfl) (by decide) 0 0 rfl rfl rfl [0] [1, 2] rfl (by decide +kernel) rfl rfl [2, 0, 1] (by decide +kernel) (fun _ => rfl) (fun _ => rfl) rfl rfl rfl (fun _ => rfl) (fun _ => ?_)
                      obtain rfl := Option.some.inj hf
                      exact J_iret hK hR qd1_131.2.2.2.2.2.2.2.2.2.2.2.2.2.2.1 () rfl (by decide) (by decide)
              · have hf := ip hc85 hf
                refine J_aload_n hK qd1_129.2.2.2.2.2.2.2.2.2.2.2.2.1 rfl 0 rfl rfl ?_
                refine J_bipush (v := (-4)) hK qd1_129.2.2.2.2.2.2.2.2.2.2.2.2.2.1 rfl (by decide) ?_
                obtain ⟨⟨v45, g46⟩, e47, hf⟩ := bs hf
                have hf := un2 hf
                refine J_callV (m := 3) (m' := 3) (ce' := 0) (sl' := 0) (gr := [gSh d h1 r1_elements x1_held x1_sizes, gridJ d r1_elements 8 40 x1_elements]) (gs' := fun _ => [gTw d h0 a0_state a0_kept a0_tape (h1 0) a0_choice a0_traffic g46 x0_isKept x0_gone x0_spent, gSh d h1 r1_elements x1_held x1_sizes, gridJ d r1_elements 8 40 x1_elements]) (st' := fun _ => [.int v45]) (st := []) hK qd1_129.2.2.2.2.2.2.2.2.2.2.2.2.2.2.1 cv_RX6_68 iv_yX6_refuse (As := [.int (-4)]) (kX6_refuse _ d h0 a0_state a0_kept a0_tape (h1 0) a0_choice a0_traffic x0_refused x0_isKept x0_gone x0_spent (-4) e47) rfl rfl (Nat.le_of_ble_eq_true rfl) (by decide) 0 0 rfl rfl rfl [0] [1, 2] rfl (by decide +kernel) rfl rfl [2, 0, 1] (by decide +kernel) (fun _ => rfl) (fun _ => rfl) rfl rfl rfl (fun _ => rfl) (fun _ => ?_)
                obtain rfl := Option.some.inj hf
                exact J_iret hK hR qd1_129.2.2.2.2.2.2.2.2.2.2.2.2.2.2.2.1 () rfl (by decide) (by decide)
          · have hf := iq hc52 hf
            refine J_aload_n hK qd1_128.2.2.2.2.2.2.2.2.2.2.1 rfl 0 rfl rfl ?_
            refine J_bipush (v := (-3)) hK qd1_128.2.2.2.2.2.2.2.2.2.2.2.1 rfl (by decide) ?_
            obtain ⟨⟨v48, g49⟩, e50, hf⟩ := bs hf
            have hf := un2 hf
            refine J_callV (m := 3) (m' := 3) (ce' := 0) (sl' := 0) (gr := [gSh d h1 r1_elements x1_held x1_sizes, gridJ d r1_elements 8 40 x1_elements]) (gs' := fun _ => [gTw d h0 a0_state a0_kept a0_tape (h1 0) a0_choice a0_traffic g49 x0_isKept x0_gone x0_spent, gSh d h1 r1_elements x1_held x1_sizes, gridJ d r1_elements 8 40 x1_elements]) (st' := fun _ => [.int v48]) (st := []) hK qd1_128.2.2.2.2.2.2.2.2.2.2.2.2.1 cv_RX6_68 iv_yX6_refuse (As := [.int (-3)]) (kX6_refuse _ d h0 a0_state a0_kept a0_tape (h1 0) a0_choice a0_traffic x0_refused x0_isKept x0_gone x0_spent (-3) e50) rfl rfl (Nat.le_of_ble_eq_true rfl) (by decide) 0 0 rfl rfl rfl [0] [1, 2] rfl (by decide +kernel) rfl rfl [2, 0, 1] (by decide +kernel) (fun _ => rfl) (fun _ => rfl) rfl rfl rfl (fun _ => rfl) (fun _ => ?_)
            obtain rfl := Option.some.inj hf
            exact J_iret hK hR qd1_128.2.2.2.2.2.2.2.2.2.2.2.2.2.1 () rfl (by decide) (by decide)
    · have hf := ip hc11 hf
      refine J_aload_n hK qd1_127.2.2.2.2.2.2.1 rfl 0 rfl rfl ?_
      refine J_bipush (v := (-2)) hK qd1_127.2.2.2.2.2.2.2.1 rfl (by decide) ?_
      obtain ⟨⟨v51, g52⟩, e53, hf⟩ := bs hf
      have hf := un2 hf
      refine J_callV (m := 3) (m' := 3) (ce' := 0) (sl' := 0) (gr := [gSh d h1 r1_elements x1_held x1_sizes, gridJ d r1_elements 8 40 x1_elements]) (gs' := fun _ => [gTw d h0 a0_state a0_kept a0_tape (h1 0) a0_choice a0_traffic g52 x0_isKept x0_gone x0_spent, gSh d h1 r1_elements x1_held x1_sizes, gridJ d r1_elements 8 40 x1_elements]) (st' := fun _ => [.int v51]) (st := []) hK qd1_127.2.2.2.2.2.2.2.2.1 cv_RX6_68 iv_yX6_refuse (As := [.int (-2)]) (kX6_refuse _ d h0 a0_state a0_kept a0_tape (h1 0) a0_choice a0_traffic x0_refused x0_isKept x0_gone x0_spent (-2) e53) rfl rfl (Nat.le_of_ble_eq_true rfl) (by decide) 0 0 rfl rfl rfl [0] [1, 2] rfl (by decide +kernel) rfl rfl [2, 0, 1] (by decide +kernel) (fun _ => rfl) (fun _ => rfl) rfl rfl rfl (fun _ => rfl) (fun _ => ?_)
      obtain rfl := Option.some.inj hf
      exact J_iret hK hR qd1_127.2.2.2.2.2.2.2.2.2.1 () rfl (by decide) (by decide)
end
section
def fX6_element (X0 : TwT) (X1 : ShT) (p1 : Int32) (p2 : Int32) : Option (Int64) :=
  u4 (fun (x0_refused : (Nat → Int32)) (x0_isKept : Int32) (x0_gone : Int32) (x0_spent : Int32) => u3 (fun (x1_elements : (Nat → Nat → Int64)) (x1_held : (Nat → Int32)) (x1_sizes : (Nat → Int32)) => (fX2_has p1).bind (fun v1 => if v1 = 0 then (some (0 : Int64)) else ((fX2_hasRow (x1_elements, x1_held, x1_sizes) p1).bind (fun v3 => if v3 = 0 then (some (0 : Int64)) else ((rd 8 x1_sizes p1).bind fun v5 => (fX6_within p2 (0) (v5 - 1)).bind (fun v6 => if v6 = 0 then (some (0 : Int64)) else ((ck p1 8).bind fun q8 => (rd 40 (x1_elements q8) p2).bind fun v9 => some v9))))))) X1) X0
set_option maxHeartbeats 4000000 in
set_option maxRecDepth 100000 in
theorem kX6_element (l : Launch) (d : DT) (h0 : Nat → Nat) (a0_state : Nat) (a0_kept : Nat) (a0_tape : Nat) (a0_choice : Nat) (a0_traffic : Nat) (h1 : Nat → Nat) (r1_elements : Nat → Nat) (x0_refused : (Nat → Int32)) (x0_isKept : Int32) (x0_gone : Int32) (x0_spent : Int32) (x1_elements : (Nat → Nat → Int64)) (x1_held : (Nat → Int32)) (x1_sizes : (Nat → Int32)) (p1 : Int32) (p2 : Int32)  {out : Int64} (hf : fX6_element (x0_refused, x0_isKept, x0_gone, x0_spent) (x1_elements, x1_held, x1_sizes) p1 p2 = some out) : Ct l d yX6_element cX6_element 3 (some .long) { frames := 2, cells := 0, slots := 0, locals := 43 } [.ref (h0 0), .int p1, .int p2] [gTw d h0 a0_state a0_kept a0_tape (h1 0) a0_choice a0_traffic x0_refused x0_isKept x0_gone x0_spent, gSh d h1 r1_elements x1_held x1_sizes, gridJ d r1_elements 8 40 x1_elements] (fun _ : Unit => (some (.long out), [gTw d h0 a0_state a0_kept a0_tape (h1 0) a0_choice a0_traffic x0_refused x0_isKept x0_gone x0_spent, gSh d h1 r1_elements x1_held x1_sizes, gridJ d r1_elements 8 40 x1_elements])) := by
  refine Ct.of (by decide) (Nat.le_of_ble_eq_true rfl) ?_
  intro Φ hl hK hR
  subst hl
  have hK : Ok d Φ RX6 "element" cX6_element 3 (some .long) { frames := 2, cells := 0, slots := 0, locals := 43 } := hK
  unfold fX6_element at hf
  have hf := un4 hf
  have hf := un3 hf
  show J d Φ 3 [gTw d h0 a0_state a0_kept a0_tape (h1 0) a0_choice a0_traffic x0_refused x0_isKept x0_gone x0_spent, gSh d h1 r1_elements x1_held x1_sizes, gridJ d r1_elements 8 40 x1_elements] 0 0 0 [(0, .ref (h0 0)), (1, .int p1), (2, .int p2)] []
  refine J_iload_n hK qd1_133.1 rfl 1 rfl rfl ?_
  obtain ⟨v1, e2, hf⟩ := bs hf
  refine J_callS (m := 3) (m' := 3) (ce' := 0) (sl' := 0) (gr := [gTw d h0 a0_state a0_kept a0_tape (h1 0) a0_choice a0_traffic x0_refused x0_isKept x0_gone x0_spent, gSh d h1 r1_elements x1_held x1_sizes, gridJ d r1_elements 8 40 x1_elements]) (gs' := fun _ => [gTw d h0 a0_state a0_kept a0_tape (h1 0) a0_choice a0_traffic x0_refused x0_isKept x0_gone x0_spent, gSh d h1 r1_elements x1_held x1_sizes, gridJ d r1_elements 8 40 x1_elements]) (st' := fun _ => [.int v1]) (st := []) hK qd1_133.2.1 cv_RX6_60 ws_yX2_has (As := [.int p1]) (kX2_has _ d p1 e2) rfl rfl (Nat.le_of_ble_eq_true rfl) (by decide) [] [0, 1, 2] rfl (by decide +kernel) rfl rfl [0, 1, 2] (by decide +kernel) (fun _ => rfl) (fun _ => rfl) rfl rfl rfl (fun _ => rfl) (fun _ => ?_)
  refine J_if_eq (tg := 37) hK qd1_133.2.2.1 rfl rfl (fun hc4 => ?_) (fun hc4 => ?_)
  · have hf := ip hc4 hf
    refine J_lconst (v := 0) hK qd1_134.2.2.2.1 rfl (by decide) ?_
    obtain rfl := Option.some.inj hf
    exact J_lret hK hR qd1_134.2.2.2.2.1 () rfl (by decide) (by decide)
  · have hf := iq hc4 hf
    refine J_aload_n hK qd1_133.2.2.2.1 rfl 0 rfl rfl ?_
    refine J_get hK fo_RX6_29 qd1_133.2.2.2.2.1 rfl 0 0 rfl rfl rfl ?_
    refine J_iload_n hK qd1_133.2.2.2.2.2.1 rfl 1 rfl rfl ?_
    obtain ⟨v3, e4, hf⟩ := bs hf
    refine J_callV (m := 3) (m' := 3) (ce' := 0) (sl' := 0) (gr := [gTw d h0 a0_state a0_kept a0_tape (h1 0) a0_choice a0_traffic x0_refused x0_isKept x0_gone x0_spent, gridJ d r1_elements 8 40 x1_elements]) (gs' := fun _ => [gTw d h0 a0_state a0_kept a0_tape (h1 0) a0_choice a0_traffic x0_refused x0_isKept x0_gone x0_spent, gSh d h1 r1_elements x1_held x1_sizes, gridJ d r1_elements 8 40 x1_elements]) (st' := fun _ => [.int v3]) (st := []) hK qd1_133.2.2.2.2.2.2.1 cv_RX6_106 iv_yX2_hasRow (As := [.int p1]) (kX2_hasRow _ d h1 r1_elements x1_elements x1_held x1_sizes p1 e4) rfl rfl (Nat.le_of_ble_eq_true rfl) (by decide) 1 0 rfl rfl rfl [1] [0, 2] rfl (by decide +kernel) rfl rfl [0, 2, 1] (by decide +kernel) (fun _ => rfl) (fun _ => rfl) rfl rfl rfl (fun _ => rfl) (fun _ => ?_)
    refine J_if_eq (tg := 37) hK qd1_133.2.2.2.2.2.2.2.1 rfl rfl (fun hc15 => ?_) (fun hc15 => ?_)
    · have hf := ip hc15 hf
      refine J_lconst (v := 0) hK qd1_134.2.2.2.1 rfl (by decide) ?_
      obtain rfl := Option.some.inj hf
      exact J_lret hK hR qd1_134.2.2.2.2.1 () rfl (by decide) (by decide)
    · have hf := iq hc15 hf
      refine J_iload_n hK qd1_133.2.2.2.2.2.2.2.2.1 rfl 2 rfl rfl ?_
      refine J_iconst (v := 0) hK qd1_133.2.2.2.2.2.2.2.2.2.1 rfl (by decide) ?_
      refine J_aload_n hK qd1_133.2.2.2.2.2.2.2.2.2.2.1 rfl 0 rfl rfl ?_
      refine J_get hK fo_RX6_29 qd1_133.2.2.2.2.2.2.2.2.2.2.2.1 rfl 0 0 rfl rfl rfl ?_
      refine J_get hK fo_RX6_79 qd1_133.2.2.2.2.2.2.2.2.2.2.2.2.1 rfl 1 0 rfl rfl rfl ?_
      refine J_iload_n hK qd1_133.2.2.2.2.2.2.2.2.2.2.2.2.2.1 rfl 1 rfl rfl ?_
      obtain ⟨v5, ev5, hf⟩ := bs hf
      refine J_iald hK qd1_133.2.2.2.2.2.2.2.2.2.2.2.2.2.2.1 rfl 1 3 rfl rfl ev5 ?_
      refine J_iconst (v := 1) hK qd1_133.2.2.2.2.2.2.2.2.2.2.2.2.2.2.2.1 rfl (by decide) ?_
      refine J_isub hK qd1_134.1 rfl ?_
      obtain ⟨v6, e7, hf⟩ := bs hf
      refine J_callS (m := 3) (m' := 3) (ce' := 0) (sl' := 0) (gr := [gTw d h0 a0_state a0_kept a0_tape (h1 0) a0_choice a0_traffic x0_refused x0_isKept x0_gone x0_spent, gSh d h1 r1_elements x1_held x1_sizes, gridJ d r1_elements 8 40 x1_elements]) (gs' := fun _ => [gTw d h0 a0_state a0_kept a0_tape (h1 0) a0_choice a0_traffic x0_refused x0_isKept x0_gone x0_spent, gSh d h1 r1_elements x1_held x1_sizes, gridJ d r1_elements 8 40 x1_elements]) (st' := fun _ => [.int v6]) (st := []) hK qd1_134.2.1 cv_RX6_64 ws_yX6_within (As := [.int p2, .int (0), .int (v5 - 1)]) (kX6_within _ d p2 (0) (v5 - 1) e7) rfl rfl (Nat.le_of_ble_eq_true rfl) (by decide) [] [0, 1, 2] rfl (by decide +kernel) rfl rfl [0, 1, 2] (by decide +kernel) (fun _ => rfl) (fun _ => rfl) rfl rfl rfl (fun _ => rfl) (fun _ => ?_)
      refine J_if_ne (tg := 39) hK qd1_134.2.2.1 rfl rfl (fun hc34 => ?_) (fun hc34 => ?_)
      · have hf := iq hc34 hf
        refine J_aload_n hK qd1_134.2.2.2.2.2.1 rfl 0 rfl rfl ?_
        refine J_get hK fo_RX6_29 qd1_134.2.2.2.2.2.2.1 rfl 0 0 rfl rfl rfl ?_
        refine J_get hK fo_RX6_96 qd1_134.2.2.2.2.2.2.2.1 rfl 1 0 rfl rfl rfl ?_
        refine J_iload_n hK qd1_134.2.2.2.2.2.2.2.2.1 rfl 1 rfl rfl ?_
        obtain ⟨q8, eq8, hf⟩ := bs hf
        refine J_aald hK qd1_134.2.2.2.2.2.2.2.2.2.1 rfl 1 1 rfl rfl rfl eq8 ?_
        refine J_iload_n hK qd1_134.2.2.2.2.2.2.2.2.2.2.1 rfl 2 rfl rfl ?_
        obtain ⟨v9, ev9, hf⟩ := bs hf
        refine J_lald hK qd1_134.2.2.2.2.2.2.2.2.2.2.2.1 rfl 2 q8 rfl (gridJ_at (ck_ok eq8).2.2) ev9 ?_
        obtain rfl := Option.some.inj hf
        exact J_lret hK hR qd1_134.2.2.2.2.2.2.2.2.2.2.2.2.1 () rfl (by decide) (by decide)
      · have hf := ip hc34 hf
        refine J_lconst (v := 0) hK qd1_134.2.2.2.1 rfl (by decide) ?_
        obtain rfl := Option.some.inj hf
        exact J_lret hK hR qd1_134.2.2.2.2.1 () rfl (by decide) (by decide)

def fX6_holds (X0 : TwT) (X1 : ShT) (p1 : Int32) : Option (Int32) :=
  u4 (fun (x0_refused : (Nat → Int32)) (x0_isKept : Int32) (x0_gone : Int32) (x0_spent : Int32) => u3 (fun (x1_elements : (Nat → Nat → Int64)) (x1_held : (Nat → Int32)) (x1_sizes : (Nat → Int32)) => (fX2_has p1).bind (fun v1 => if v1 = 0 then (some (-1)) else ((rd 8 x1_held p1).bind fun v3 => some v3))) X1) X0
set_option maxHeartbeats 4000000 in
set_option maxRecDepth 100000 in
theorem kX6_holds (l : Launch) (d : DT) (h0 : Nat → Nat) (a0_state : Nat) (a0_kept : Nat) (a0_tape : Nat) (a0_choice : Nat) (a0_traffic : Nat) (h1 : Nat → Nat) (r1_elements : Nat → Nat) (x0_refused : (Nat → Int32)) (x0_isKept : Int32) (x0_gone : Int32) (x0_spent : Int32) (x1_elements : (Nat → Nat → Int64)) (x1_held : (Nat → Int32)) (x1_sizes : (Nat → Int32)) (p1 : Int32)  {out : Int32} (hf : fX6_holds (x0_refused, x0_isKept, x0_gone, x0_spent) (x1_elements, x1_held, x1_sizes) p1 = some out) : Ct l d yX6_holds cX6_holds 2 (some .int) { frames := 2, cells := 0, slots := 0, locals := 42 } [.ref (h0 0), .int p1] [gTw d h0 a0_state a0_kept a0_tape (h1 0) a0_choice a0_traffic x0_refused x0_isKept x0_gone x0_spent, gSh d h1 r1_elements x1_held x1_sizes] (fun _ : Unit => (some (.int out), [gTw d h0 a0_state a0_kept a0_tape (h1 0) a0_choice a0_traffic x0_refused x0_isKept x0_gone x0_spent, gSh d h1 r1_elements x1_held x1_sizes])) := by
  refine Ct.of (by decide) (Nat.le_of_ble_eq_true rfl) ?_
  intro Φ hl hK hR
  subst hl
  have hK : Ok d Φ RX6 "holds" cX6_holds 2 (some .int) { frames := 2, cells := 0, slots := 0, locals := 42 } := hK
  unfold fX6_holds at hf
  have hf := un4 hf
  have hf := un3 hf
  show J d Φ 2 [gTw d h0 a0_state a0_kept a0_tape (h1 0) a0_choice a0_traffic x0_refused x0_isKept x0_gone x0_spent, gSh d h1 r1_elements x1_held x1_sizes] 0 0 0 [(0, .ref (h0 0)), (1, .int p1)] []
  refine J_iload_n hK qd1_135.1 rfl 1 rfl rfl ?_
  obtain ⟨v1, e2, hf⟩ := bs hf
  refine J_callS (m := 2) (m' := 2) (ce' := 0) (sl' := 0) (gr := [gTw d h0 a0_state a0_kept a0_tape (h1 0) a0_choice a0_traffic x0_refused x0_isKept x0_gone x0_spent, gSh d h1 r1_elements x1_held x1_sizes]) (gs' := fun _ => [gTw d h0 a0_state a0_kept a0_tape (h1 0) a0_choice a0_traffic x0_refused x0_isKept x0_gone x0_spent, gSh d h1 r1_elements x1_held x1_sizes]) (st' := fun _ => [.int v1]) (st := []) hK qd1_135.2.1 cv_RX6_60 ws_yX2_has (As := [.int p1]) (kX2_has _ d p1 e2) rfl rfl (Nat.le_of_ble_eq_true rfl) (by decide) [] [0, 1] rfl (by decide +kernel) rfl rfl [0, 1] (by decide +kernel) (fun _ => rfl) (fun _ => rfl) rfl rfl rfl (fun _ => rfl) (fun _ => ?_)
  refine J_if_eq (tg := 19) hK qd1_135.2.2.1 rfl rfl (fun hc4 => ?_) (fun hc4 => ?_)
  · have hf := ip hc4 hf
    refine J_iconst (v := (-1)) hK qd1_135.2.2.2.2.2.2.2.2.2.1 rfl (by decide) ?_
    obtain rfl := Option.some.inj hf
    exact J_iret hK hR qd1_135.2.2.2.2.2.2.2.2.2.2.1 () rfl (by decide) (by decide)
  · have hf := iq hc4 hf
    refine J_aload_n hK qd1_135.2.2.2.1 rfl 0 rfl rfl ?_
    refine J_get hK fo_RX6_29 qd1_135.2.2.2.2.1 rfl 0 0 rfl rfl rfl ?_
    refine J_get hK fo_RX6_93 qd1_135.2.2.2.2.2.1 rfl 1 0 rfl rfl rfl ?_
    refine J_iload_n hK qd1_135.2.2.2.2.2.2.1 rfl 1 rfl rfl ?_
    obtain ⟨v3, ev3, hf⟩ := bs hf
    refine J_iald hK qd1_135.2.2.2.2.2.2.2.1 rfl 1 2 rfl rfl ev3 ?_
    refine J_goto hK qd1_135.2.2.2.2.2.2.2.2.1 (n := 20) rfl ?_
    obtain rfl := Option.some.inj hf
    exact J_iret hK hR qd1_135.2.2.2.2.2.2.2.2.2.2.1 () rfl (by decide) (by decide)

def fX6_show_j30 (p1 : Int32) (p2 : Int32) (x0_refused : (Nat → Int32)) (x1_held : (Nat → Int32)) : Option (Int32 × (Nat → Int32) × (Nat → Int32)) :=
  if p2 = (-1) then ((wr 8 x1_held p1 (-1)).bind fun f7 => some (1, x0_refused, f7)) else ((wr 8 x1_held p1 (10 + p2)).bind fun f6 => some (1, x0_refused, f6))
def fX6_show (X0 : TwT) (X1 : ShT) (X2 : LdT) (p1 : Int32) (p2 : Int32) : Option (Int32 × (Nat → Int32) × (Nat → Int32)) :=
  u4 (fun (x0_refused : (Nat → Int32)) (x0_isKept : Int32) (x0_gone : Int32) (x0_spent : Int32) => u3 (fun (x1_elements : (Nat → Nat → Int64)) (x1_held : (Nat → Int32)) (x1_sizes : (Nat → Int32)) => u11 (fun (x2_lineCount : Int32) (x2_goodsCount : Int32) (x2_workCount : Int32) (x2_years : Int32) (x2_lines : (Nat → Int32)) (x2_goods : (Nat → Int32)) (x2_works : (Nat → Int32)) (x2_change : (Nat → Int32)) (x2_coin : (Nat → Int32)) (x2_knownFree : (Nat → Int32)) (x2_isKnown : Int32) => (fX2_has p1).bind (fun v1 => if v1 = 0 then ((fX6_refuse (x0_refused, x0_isKept, x0_gone, x0_spent) (-2)).bind (u2 fun v3 g4 => some (v3, g4, x1_held))) else (if p2 = (-1) then (fX6_show_j30 p1 p2 x0_refused x1_held) else ((fX1_hasWork (x2_lineCount, x2_goodsCount, x2_workCount, x2_years, x2_lines, x2_goods, x2_works, x2_change, x2_coin, x2_knownFree, x2_isKnown) p2).bind (fun v8 => if v8 = 0 then ((fX6_refuse (x0_refused, x0_isKept, x0_gone, x0_spent) (-2)).bind (u2 fun v10 g11 => some (v10, g11, x1_held))) else (fX6_show_j30 p1 p2 x0_refused x1_held)))))) X2) X1) X0
set_option maxHeartbeats 4000000 in
set_option maxRecDepth 100000 in
theorem kX6_show (l : Launch) (d : DT) (h0 : Nat → Nat) (a0_kept : Nat) (a0_tape : Nat) (a0_choice : Nat) (a0_traffic : Nat) (h1 : Nat → Nat) (r1_elements : Nat → Nat) (h2 : Nat → Nat) (x0_refused : (Nat → Int32)) (x0_isKept : Int32) (x0_gone : Int32) (x0_spent : Int32) (x1_elements : (Nat → Nat → Int64)) (x1_held : (Nat → Int32)) (x1_sizes : (Nat → Int32)) (x2_lineCount : Int32) (x2_goodsCount : Int32) (x2_workCount : Int32) (x2_years : Int32) (x2_lines : (Nat → Int32)) (x2_goods : (Nat → Int32)) (x2_works : (Nat → Int32)) (x2_change : (Nat → Int32)) (x2_coin : (Nat → Int32)) (x2_knownFree : (Nat → Int32)) (x2_isKnown : Int32) (p1 : Int32) (p2 : Int32)  {out : Int32 × (Nat → Int32) × (Nat → Int32)} (hf : fX6_show (x0_refused, x0_isKept, x0_gone, x0_spent) (x1_elements, x1_held, x1_sizes) (x2_lineCount, x2_goodsCount, x2_workCount, x2_years, x2_lines, x2_goods, x2_works, x2_change, x2_coin, x2_knownFree, x2_isKnown) p1 p2 = some out) : Ct l d yX6_show cX6_show 3 (some .int) { frames := 2, cells := 0, slots := 0, locals := 43 } [.ref (h0 0), .int p1, .int p2] [gTw d h0 (h2 0) a0_kept a0_tape (h1 0) a0_choice a0_traffic x0_refused x0_isKept x0_gone x0_spent, gSh d h1 r1_elements x1_held x1_sizes, gLd d h2 x2_lineCount x2_goodsCount x2_workCount x2_years x2_lines x2_goods x2_works x2_change x2_coin x2_knownFree x2_isKnown] (fun _ : Unit => (some (.int out.1), [gTw d h0 (h2 0) a0_kept a0_tape (h1 0) a0_choice a0_traffic (out.2.1) x0_isKept x0_gone x0_spent, gSh d h1 r1_elements (out.2.2) x1_sizes, gLd d h2 x2_lineCount x2_goodsCount x2_workCount x2_years x2_lines x2_goods x2_works x2_change x2_coin x2_knownFree x2_isKnown])) := by
  refine Ct.of (by decide) (Nat.le_of_ble_eq_true rfl) ?_
  intro Φ hl hK hR
  subst hl
  have hK : Ok d Φ RX6 "show" cX6_show 3 (some .int) { frames := 2, cells := 0, slots := 0, locals := 43 } := hK
  unfold fX6_show at hf
  have hf := un4 hf
  have hf := un3 hf
  have hf := un11 hf
  show J d Φ 3 [gTw d h0 (h2 0) a0_kept a0_tape (h1 0) a0_choice a0_traffic x0_refused x0_isKept x0_gone x0_spent, gSh d h1 r1_elements x1_held x1_sizes, gLd d h2 x2_lineCount x2_goodsCount x2_workCount x2_years x2_lines x2_goods x2_works x2_change x2_coin x2_knownFree x2_isKnown] 0 0 0 [(0, .ref (h0 0)), (1, .int p1), (2, .int p2)] []
  refine J_iload_n hK qd1_136.1 rfl 1 rfl rfl ?_
  obtain ⟨v1, e2, hf⟩ := bs hf
  refine J_callS (m := 3) (m' := 3) (ce' := 0) (sl' := 0) (gr := [gTw d h0 (h2 0) a0_kept a0_tape (h1 0) a0_choice a0_traffic x0_refused x0_isKept x0_gone x0_spent, gSh d h1 r1_elements x1_held x1_sizes, gLd d h2 x2_lineCount x2_goodsCount x2_workCount x2_years x2_lines x2_goods x2_works x2_change x2_coin x2_knownFree x2_isKnown]) (gs' := fun _ => [gTw d h0 (h2 0) a0_kept a0_tape (h1 0) a0_choice a0_traffic x0_refused x0_isKept x0_gone x0_spent, gSh d h1 r1_elements x1_held x1_sizes, gLd d h2 x2_lineCount x2_goodsCount x2_workCount x2_years x2_lines x2_goods x2_works x2_change x2_coin x2_knownFree x2_isKnown]) (st' := fun _ => [.int v1]) (st := []) hK qd1_136.2.1 cv_RX6_60 ws_yX2_has (As := [.int p1]) (kX2_has _ d p1 e2) rfl rfl (Nat.le_of_ble_eq_true rfl) (by decide) [] [0, 1, 2] rfl (by decide +kernel) rfl rfl [0, 1, 2] (by decide +kernel) (fun _ => rfl) (fun _ => rfl) rfl rfl rfl (fun _ => rfl) (fun _ => ?_)
  refine J_if_eq (tg := 23) hK qd1_136.2.2.1 rfl rfl (fun hc4 => ?_) (fun hc4 => ?_)
  · have hf := ip hc4 hf
    refine J_aload_n hK qd1_136.2.2.2.2.2.2.2.2.2.2.2.1 rfl 0 rfl rfl ?_
    refine J_bipush (v := (-2)) hK qd1_136.2.2.2.2.2.2.2.2.2.2.2.2.1 rfl (by decide) ?_
    obtain ⟨⟨v3, g4⟩, e5, hf⟩ := bs hf
    have hf := un2 hf
    refine J_callV (m := 3) (m' := 3) (ce' := 0) (sl' := 0) (gr := [gSh d h1 r1_elements x1_held x1_sizes, gLd d h2 x2_lineCount x2_goodsCount x2_workCount x2_years x2_lines x2_goods x2_works x2_change x2_coin x2_knownFree x2_isKnown]) (gs' := fun _ => [gTw d h0 (h2 0) a0_kept a0_tape (h1 0) a0_choice a0_traffic g4 x0_isKept x0_gone x0_spent, gSh d h1 r1_elements x1_held x1_sizes, gLd d h2 x2_lineCount x2_goodsCount x2_workCount x2_years x2_lines x2_goods x2_works x2_change x2_coin x2_knownFree x2_isKnown]) (st' := fun _ => [.int v3]) (st := []) hK qd1_136.2.2.2.2.2.2.2.2.2.2.2.2.2.1 cv_RX6_68 iv_yX6_refuse (As := [.int (-2)]) (kX6_refuse _ d h0 (h2 0) a0_kept a0_tape (h1 0) a0_choice a0_traffic x0_refused x0_isKept x0_gone x0_spent (-2) e5) rfl rfl (Nat.le_of_ble_eq_true rfl) (by decide) 0 0 rfl rfl rfl [0] [1, 2] rfl (by decide +kernel) rfl rfl [2, 0, 1] (by decide +kernel) (fun _ => rfl) (fun _ => rfl) rfl rfl rfl (fun _ => rfl) (fun _ => ?_)
    obtain rfl := Option.some.inj hf
    exact J_iret hK hR qd1_136.2.2.2.2.2.2.2.2.2.2.2.2.2.2.1 () rfl (by decide) (by decide)
  · have hf := iq hc4 hf
    refine J_iload_n hK qd1_136.2.2.2.1 rfl 2 rfl rfl ?_
    refine J_iconst (v := (-1)) hK qd1_136.2.2.2.2.1 rfl (by decide) ?_
    have j30 : fX6_show_j30 p1 p2 x0_refused x1_held = some out → J d Φ 3 [gTw d h0 (h2 0) a0_kept a0_tape (h1 0) a0_choice a0_traffic x0_refused x0_isKept x0_gone x0_spent, gSh d h1 r1_elements x1_held x1_sizes, gLd d h2 x2_lineCount x2_goodsCount x2_workCount x2_years x2_lines x2_goods x2_works x2_change x2_coin x2_knownFree x2_isKnown] 0 0 30 [(0, .ref (h0 0)), (1, .int p1), (2, .int p2)] [] := by
      intro  hf
      unfold fX6_show_j30 at hf
      refine J_aload_n hK qd1_136.2.2.2.2.2.2.2.2.2.2.2.2.2.2.2.1 rfl 0 rfl rfl ?_
      refine J_get hK fo_RX6_29 qd1_137.1 rfl 0 0 rfl rfl rfl ?_
      refine J_get hK fo_RX6_93 qd1_137.2.1 rfl 1 0 rfl rfl rfl ?_
      refine J_iload_n hK qd1_137.2.2.1 rfl 1 rfl rfl ?_
      refine J_iload_n hK qd1_137.2.2.2.1 rfl 2 rfl rfl ?_
      refine J_iconst (v := (-1)) hK qd1_137.2.2.2.2.1 rfl (by decide) ?_
      refine J_icmp_ne (tg := 47) hK qd1_137.2.2.2.2.2.1 rfl rfl (fun hc40 => ?_) (fun hc40 => ?_)
      · have hf := iq hc40 hf
        refine J_bipush (v := 10) hK qd1_137.2.2.2.2.2.2.2.2.1 rfl (by decide) ?_
        refine J_iload_n hK qd1_137.2.2.2.2.2.2.2.2.2.1 rfl 2 rfl rfl ?_
        refine J_iadd hK qd1_137.2.2.2.2.2.2.2.2.2.2.1 rfl ?_
        obtain ⟨f6, ef6, hf⟩ := bs hf
        refine J_iast (g' := gSh d h1 r1_elements f6 x1_sizes) (gs' := [gTw d h0 (h2 0) a0_kept a0_tape (h1 0) a0_choice a0_traffic x0_refused x0_isKept x0_gone x0_spent, gSh d h1 r1_elements f6 x1_sizes, gLd d h2 x2_lineCount x2_goodsCount x2_workCount x2_years x2_lines x2_goods x2_works x2_change x2_coin x2_knownFree x2_isKnown]) hK qd1_137.2.2.2.2.2.2.2.2.2.2.2.1 rfl 1 2 rfl rfl ef6 rfl rfl ?_
        refine J_iconst (v := 1) hK qd1_137.2.2.2.2.2.2.2.2.2.2.2.2.1 rfl (by decide) ?_
        obtain rfl := Option.some.inj hf
        exact J_iret hK hR qd1_137.2.2.2.2.2.2.2.2.2.2.2.2.2.1 () rfl (by decide) (by decide)
      · have hf := ip hc40 hf
        refine J_iconst (v := (-1)) hK qd1_137.2.2.2.2.2.2.1 rfl (by decide) ?_
        refine J_goto hK qd1_137.2.2.2.2.2.2.2.1 (n := 51) rfl ?_
        obtain ⟨f7, ef7, hf⟩ := bs hf
        refine J_iast (g' := gSh d h1 r1_elements f7 x1_sizes) (gs' := [gTw d h0 (h2 0) a0_kept a0_tape (h1 0) a0_choice a0_traffic x0_refused x0_isKept x0_gone x0_spent, gSh d h1 r1_elements f7 x1_sizes, gLd d h2 x2_lineCount x2_goodsCount x2_workCount x2_years x2_lines x2_goods x2_works x2_change x2_coin x2_knownFree x2_isKnown]) hK qd1_137.2.2.2.2.2.2.2.2.2.2.2.1 rfl 1 2 rfl rfl ef7 rfl rfl ?_
        refine J_iconst (v := 1) hK qd1_137.2.2.2.2.2.2.2.2.2.2.2.2.1 rfl (by decide) ?_
        obtain rfl := Option.some.inj hf
        exact J_iret hK hR qd1_137.2.2.2.2.2.2.2.2.2.2.2.2.2.1 () rfl (by decide) (by decide)
    refine J_icmp_eq (tg := 30) hK qd1_136.2.2.2.2.2.1 rfl rfl (fun hc9 => ?_) (fun hc9 => ?_)
    · have hf := ip hc9 hf
      exact (j30  hf)
    · have hf := iq hc9 hf
      refine J_aload_n hK qd1_136.2.2.2.2.2.2.1 rfl 0 rfl rfl ?_
      refine J_get hK fo_RX6_12 qd1_136.2.2.2.2.2.2.2.1 rfl 0 0 rfl rfl rfl ?_
      refine J_iload_n hK qd1_136.2.2.2.2.2.2.2.2.1 rfl 2 rfl rfl ?_
      obtain ⟨v8, e9, hf⟩ := bs hf
      refine J_callV (m := 3) (m' := 3) (ce' := 0) (sl' := 0) (gr := [gTw d h0 (h2 0) a0_kept a0_tape (h1 0) a0_choice a0_traffic x0_refused x0_isKept x0_gone x0_spent, gSh d h1 r1_elements x1_held x1_sizes]) (gs' := fun _ => [gTw d h0 (h2 0) a0_kept a0_tape (h1 0) a0_choice a0_traffic x0_refused x0_isKept x0_gone x0_spent, gSh d h1 r1_elements x1_held x1_sizes, gLd d h2 x2_lineCount x2_goodsCount x2_workCount x2_years x2_lines x2_goods x2_works x2_change x2_coin x2_knownFree x2_isKnown]) (st' := fun _ => [.int v8]) (st := []) hK qd1_136.2.2.2.2.2.2.2.2.2.1 cv_RX6_109 iv_yX1_hasWork (As := [.int p2]) (kX1_hasWork _ d h2 x2_lineCount x2_goodsCount x2_workCount x2_years x2_lines x2_goods x2_works x2_change x2_coin x2_knownFree x2_isKnown p2 e9) rfl rfl (Nat.le_of_ble_eq_true rfl) (by decide) 2 0 rfl rfl rfl [2] [0, 1] rfl (by decide +kernel) rfl rfl [0, 1, 2] (by decide +kernel) (fun _ => rfl) (fun _ => rfl) rfl rfl rfl (fun _ => rfl) (fun _ => ?_)
      refine J_if_ne (tg := 30) hK qd1_136.2.2.2.2.2.2.2.2.2.2.1 rfl rfl (fun hc20 => ?_) (fun hc20 => ?_)
      · have hf := iq hc20 hf
        exact (j30  hf)
      · have hf := ip hc20 hf
        refine J_aload_n hK qd1_136.2.2.2.2.2.2.2.2.2.2.2.1 rfl 0 rfl rfl ?_
        refine J_bipush (v := (-2)) hK qd1_136.2.2.2.2.2.2.2.2.2.2.2.2.1 rfl (by decide) ?_
        obtain ⟨⟨v10, g11⟩, e12, hf⟩ := bs hf
        have hf := un2 hf
        refine J_callV (m := 3) (m' := 3) (ce' := 0) (sl' := 0) (gr := [gSh d h1 r1_elements x1_held x1_sizes, gLd d h2 x2_lineCount x2_goodsCount x2_workCount x2_years x2_lines x2_goods x2_works x2_change x2_coin x2_knownFree x2_isKnown]) (gs' := fun _ => [gTw d h0 (h2 0) a0_kept a0_tape (h1 0) a0_choice a0_traffic g11 x0_isKept x0_gone x0_spent, gSh d h1 r1_elements x1_held x1_sizes, gLd d h2 x2_lineCount x2_goodsCount x2_workCount x2_years x2_lines x2_goods x2_works x2_change x2_coin x2_knownFree x2_isKnown]) (st' := fun _ => [.int v10]) (st := []) hK qd1_136.2.2.2.2.2.2.2.2.2.2.2.2.2.1 cv_RX6_68 iv_yX6_refuse (As := [.int (-2)]) (kX6_refuse _ d h0 (h2 0) a0_kept a0_tape (h1 0) a0_choice a0_traffic x0_refused x0_isKept x0_gone x0_spent (-2) e12) rfl rfl (Nat.le_of_ble_eq_true rfl) (by decide) 0 0 rfl rfl rfl [0] [1, 2] rfl (by decide +kernel) rfl rfl [2, 0, 1] (by decide +kernel) (fun _ => rfl) (fun _ => rfl) rfl rfl rfl (fun _ => rfl) (fun _ => ?_)
        obtain rfl := Option.some.inj hf
        exact J_iret hK hR qd1_136.2.2.2.2.2.2.2.2.2.2.2.2.2.2.1 () rfl (by decide) (by decide)

def fX6_says_j77 (p2 : Int32) (x0_refused : (Nat → Int32)) (x0_isKept : Int32) (x0_gone : Int32) (x0_spent : Int32) (x2_lineCount : Int32) (x2_goodsCount : Int32) (x2_workCount : Int32) (x2_years : Int32) (x2_lines : (Nat → Int32)) (x2_goods : (Nat → Int32)) (x2_works : (Nat → Int32)) (x2_change : (Nat → Int32)) (x2_coin : (Nat → Int32)) (x2_knownFree : (Nat → Int32)) (x2_isKnown : Int32) (v8 : Int32) : Option (Int32 × (Nat → Int32)) :=
  (fX1_hasWork (x2_lineCount, x2_goodsCount, x2_workCount, x2_years, x2_lines, x2_goods, x2_works, x2_change, x2_coin, x2_knownFree, x2_isKnown) v8).bind (fun v17 => if v17 = 0 then ((fX6_refuse (x0_refused, x0_isKept, x0_gone, x0_spent) (-4)).bind (u2 fun v31 g32 => some (v31, g32))) else (if p2 = 0 then ((fX1_ofWork (x2_lineCount, x2_goodsCount, x2_workCount, x2_years, x2_lines, x2_goods, x2_works, x2_change, x2_coin, x2_knownFree, x2_isKnown) v8 (3)).bind (fun v19 => some (v19, x0_refused))) else (if p2 = 4 then ((fX1_ofWork (x2_lineCount, x2_goodsCount, x2_workCount, x2_years, x2_lines, x2_goods, x2_works, x2_change, x2_coin, x2_knownFree, x2_isKnown) v8 (1)).bind (fun v21 => (fX1_ofWork (x2_lineCount, x2_goodsCount, x2_workCount, x2_years, x2_lines, x2_goods, x2_works, x2_change, x2_coin, x2_knownFree, x2_isKnown) v8 (2)).bind (fun v23 => some (((100 * v21) + v23), x0_refused)))) else (if p2 = 5 then ((fX1_ofWork (x2_lineCount, x2_goodsCount, x2_workCount, x2_years, x2_lines, x2_goods, x2_works, x2_change, x2_coin, x2_knownFree, x2_isKnown) v8 (1)).bind (fun v25 => (fX1_ofWork (x2_lineCount, x2_goodsCount, x2_workCount, x2_years, x2_lines, x2_goods, x2_works, x2_change, x2_coin, x2_knownFree, x2_isKnown) v8 (2)).bind (fun v27 => some (((100 * v25) + v27), x0_refused)))) else ((fX1_ofWork (x2_lineCount, x2_goodsCount, x2_workCount, x2_years, x2_lines, x2_goods, x2_works, x2_change, x2_coin, x2_knownFree, x2_isKnown) v8 (1)).bind (fun v29 => some (v29, x0_refused)))))))
def fX6_says (n : Nat) (X0 : TwT) (X1 : ShT) (X2 : LdT) (p1 : Int32) (p2 : Int32) : Option (Int32 × (Nat → Int32)) :=
  u4 (fun (x0_refused : (Nat → Int32)) (x0_isKept : Int32) (x0_gone : Int32) (x0_spent : Int32) => u3 (fun (x1_elements : (Nat → Nat → Int64)) (x1_held : (Nat → Int32)) (x1_sizes : (Nat → Int32)) => u11 (fun (x2_lineCount : Int32) (x2_goodsCount : Int32) (x2_workCount : Int32) (x2_years : Int32) (x2_lines : (Nat → Int32)) (x2_goods : (Nat → Int32)) (x2_works : (Nat → Int32)) (x2_change : (Nat → Int32)) (x2_coin : (Nat → Int32)) (x2_knownFree : (Nat → Int32)) (x2_isKnown : Int32) => (fX2_has p1).bind (fun v1 => if v1 = 0 then ((fX6_refuse (x0_refused, x0_isKept, x0_gone, x0_spent) (-2)).bind (u2 fun v3 g4 => some (v3, g4))) else ((fX6_within p2 (0) (5)).bind (fun v6 => if v6 = 0 then ((fX6_refuse (x0_refused, x0_isKept, x0_gone, x0_spent) (-2)).bind (u2 fun v41 g42 => some (v41, g42))) else ((fX2_workIn (x1_elements, x1_held, x1_sizes) p1).bind (fun v8 => (fX2_hasRow (x1_elements, x1_held, x1_sizes) p1).bind (fun v10 => if v10 = 0 then ((fX1_hasWork (x2_lineCount, x2_goodsCount, x2_workCount, x2_years, x2_lines, x2_goods, x2_works, x2_change, x2_coin, x2_knownFree, x2_isKnown) v8).bind (fun v15 => if v15 = 0 then (fX6_says_j77 p2 x0_refused x0_isKept x0_gone x0_spent x2_lineCount x2_goodsCount x2_workCount x2_years x2_lines x2_goods x2_works x2_change x2_coin x2_knownFree x2_isKnown v8) else ((fX1_ofWork (x2_lineCount, x2_goodsCount, x2_workCount, x2_years, x2_lines, x2_goods, x2_works, x2_change, x2_coin, x2_knownFree, x2_isKnown) v8 (0)).bind (fun v34 => (fX6_isUnder n v34 p2).bind (fun v36 => if v36 = 0 then ((fX6_refuse (x0_refused, x0_isKept, x0_gone, x0_spent) (-3)).bind (u2 fun v38 g39 => some (v38, g39))) else (fX6_says_j77 p2 x0_refused x0_isKept x0_gone x0_spent x2_lineCount x2_goodsCount x2_workCount x2_years x2_lines x2_goods x2_works x2_change x2_coin x2_knownFree x2_isKnown v8)))))) else ((fX6_refuse (x0_refused, x0_isKept, x0_gone, x0_spent) (-3)).bind (u2 fun v12 g13 => some (v12, g13)))))))))) X2) X1) X0
set_option maxHeartbeats 4000000 in
set_option maxRecDepth 100000 in
theorem kX6_says (l : Launch) (d : DT) (h0 : Nat → Nat) (a0_kept : Nat) (a0_tape : Nat) (a0_choice : Nat) (a0_traffic : Nat) (h1 : Nat → Nat) (r1_elements : Nat → Nat) (h2 : Nat → Nat) (n : Nat) (x0_refused : (Nat → Int32)) (x0_isKept : Int32) (x0_gone : Int32) (x0_spent : Int32) (x1_elements : (Nat → Nat → Int64)) (x1_held : (Nat → Int32)) (x1_sizes : (Nat → Int32)) (x2_lineCount : Int32) (x2_goodsCount : Int32) (x2_workCount : Int32) (x2_years : Int32) (x2_lines : (Nat → Int32)) (x2_goods : (Nat → Int32)) (x2_works : (Nat → Int32)) (x2_change : (Nat → Int32)) (x2_coin : (Nat → Int32)) (x2_knownFree : (Nat → Int32)) (x2_isKnown : Int32) (p1 : Int32) (p2 : Int32)  {out : Int32 × (Nat → Int32)} (hf : fX6_says n (x0_refused, x0_isKept, x0_gone, x0_spent) (x1_elements, x1_held, x1_sizes) (x2_lineCount, x2_goodsCount, x2_workCount, x2_years, x2_lines, x2_goods, x2_works, x2_change, x2_coin, x2_knownFree, x2_isKnown) p1 p2 = some out) : Ct l d yX6_says cX6_says 4 (some .int) { frames := 2, cells := 0, slots := 0, locals := 45 } [.ref (h0 0), .int p1, .int p2] [gTw d h0 (h2 0) a0_kept a0_tape (h1 0) a0_choice a0_traffic x0_refused x0_isKept x0_gone x0_spent, gSh d h1 r1_elements x1_held x1_sizes, gLd d h2 x2_lineCount x2_goodsCount x2_workCount x2_years x2_lines x2_goods x2_works x2_change x2_coin x2_knownFree x2_isKnown] (fun _ : Unit => (some (.int out.1), [gTw d h0 (h2 0) a0_kept a0_tape (h1 0) a0_choice a0_traffic (out.2) x0_isKept x0_gone x0_spent, gSh d h1 r1_elements x1_held x1_sizes, gLd d h2 x2_lineCount x2_goodsCount x2_workCount x2_years x2_lines x2_goods x2_works x2_change x2_coin x2_knownFree x2_isKnown])) := by
  refine Ct.of (by decide) (Nat.le_of_ble_eq_true rfl) ?_
  intro Φ hl hK hR
  subst hl
  have hK : Ok d Φ RX6 "says" cX6_says 4 (some .int) { frames := 2, cells := 0, slots := 0, locals := 45 } := hK
  unfold fX6_says at hf
  have hf := un4 hf
  have hf := un3 hf
  have hf := un11 hf
  show J d Φ 4 [gTw d h0 (h2 0) a0_kept a0_tape (h1 0) a0_choice a0_traffic x0_refused x0_isKept x0_gone x0_spent, gSh d h1 r1_elements x1_held x1_sizes, gLd d h2 x2_lineCount x2_goodsCount x2_workCount x2_years x2_lines x2_goods x2_works x2_change x2_coin x2_knownFree x2_isKnown] 0 0 0 [(0, .ref (h0 0)), (1, .int p1), (2, .int p2)] []
  refine J_iload_n hK qd1_138.1 rfl 1 rfl rfl ?_
  obtain ⟨v1, e2, hf⟩ := bs hf
  refine J_callS (m := 3) (m' := 3) (ce' := 0) (sl' := 0) (gr := [gTw d h0 (h2 0) a0_kept a0_tape (h1 0) a0_choice a0_traffic x0_refused x0_isKept x0_gone x0_spent, gSh d h1 r1_elements x1_held x1_sizes, gLd d h2 x2_lineCount x2_goodsCount x2_workCount x2_years x2_lines x2_goods x2_works x2_change x2_coin x2_knownFree x2_isKnown]) (gs' := fun _ => [gTw d h0 (h2 0) a0_kept a0_tape (h1 0) a0_choice a0_traffic x0_refused x0_isKept x0_gone x0_spent, gSh d h1 r1_elements x1_held x1_sizes, gLd d h2 x2_lineCount x2_goodsCount x2_workCount x2_years x2_lines x2_goods x2_works x2_change x2_coin x2_knownFree x2_isKnown]) (st' := fun _ => [.int v1]) (st := []) hK qd1_138.2.1 cv_RX6_60 ws_yX2_has (As := [.int p1]) (kX2_has _ d p1 e2) rfl rfl (Nat.le_of_ble_eq_true rfl) (by decide) [] [0, 1, 2] rfl (by decide +kernel) rfl rfl [0, 1, 2] (by decide +kernel) (fun _ => rfl) (fun _ => rfl) rfl rfl rfl (fun _ => rfl) (fun _ => ?_)
  refine J_if_eq (tg := 16) hK qd1_138.2.2.1 rfl rfl (fun hc4 => ?_) (fun hc4 => ?_)
  · have hf := ip hc4 hf
    refine J_aload_n hK qd1_138.2.2.2.2.2.2.2.2.1 rfl 0 rfl rfl ?_
    refine J_bipush (v := (-2)) hK qd1_138.2.2.2.2.2.2.2.2.2.1 rfl (by decide) ?_
    obtain ⟨⟨v3, g4⟩, e5, hf⟩ := bs hf
    have hf := un2 hf
    refine J_callV (m := 3) (m' := 3) (ce' := 0) (sl' := 0) (gr := [gSh d h1 r1_elements x1_held x1_sizes, gLd d h2 x2_lineCount x2_goodsCount x2_workCount x2_years x2_lines x2_goods x2_works x2_change x2_coin x2_knownFree x2_isKnown]) (gs' := fun _ => [gTw d h0 (h2 0) a0_kept a0_tape (h1 0) a0_choice a0_traffic g4 x0_isKept x0_gone x0_spent, gSh d h1 r1_elements x1_held x1_sizes, gLd d h2 x2_lineCount x2_goodsCount x2_workCount x2_years x2_lines x2_goods x2_works x2_change x2_coin x2_knownFree x2_isKnown]) (st' := fun _ => [.int v3]) (st := []) hK qd1_138.2.2.2.2.2.2.2.2.2.2.1 cv_RX6_68 iv_yX6_refuse (As := [.int (-2)]) (kX6_refuse _ d h0 (h2 0) a0_kept a0_tape (h1 0) a0_choice a0_traffic x0_refused x0_isKept x0_gone x0_spent (-2) e5) rfl rfl (Nat.le_of_ble_eq_true rfl) (by decide) 0 0 rfl rfl rfl [0] [1, 2] rfl (by decide +kernel) rfl rfl [2, 0, 1] (by decide +kernel) (fun _ => rfl) (fun _ => rfl) rfl rfl rfl (fun _ => rfl) (fun _ => ?_)
    obtain rfl := Option.some.inj hf
    exact J_iret hK hR qd1_138.2.2.2.2.2.2.2.2.2.2.2.1 () rfl (by decide) (by decide)
  · have hf := iq hc4 hf
    refine J_iload_n hK qd1_138.2.2.2.1 rfl 2 rfl rfl ?_
    refine J_iconst (v := 0) hK qd1_138.2.2.2.2.1 rfl (by decide) ?_
    refine J_iconst (v := 5) hK qd1_138.2.2.2.2.2.1 rfl (by decide) ?_
    obtain ⟨v6, e7, hf⟩ := bs hf
    refine J_callS (m := 3) (m' := 3) (ce' := 0) (sl' := 0) (gr := [gTw d h0 (h2 0) a0_kept a0_tape (h1 0) a0_choice a0_traffic x0_refused x0_isKept x0_gone x0_spent, gSh d h1 r1_elements x1_held x1_sizes, gLd d h2 x2_lineCount x2_goodsCount x2_workCount x2_years x2_lines x2_goods x2_works x2_change x2_coin x2_knownFree x2_isKnown]) (gs' := fun _ => [gTw d h0 (h2 0) a0_kept a0_tape (h1 0) a0_choice a0_traffic x0_refused x0_isKept x0_gone x0_spent, gSh d h1 r1_elements x1_held x1_sizes, gLd d h2 x2_lineCount x2_goodsCount x2_workCount x2_years x2_lines x2_goods x2_works x2_change x2_coin x2_knownFree x2_isKnown]) (st' := fun _ => [.int v6]) (st := []) hK qd1_138.2.2.2.2.2.2.1 cv_RX6_64 ws_yX6_within (As := [.int p2, .int (0), .int (5)]) (kX6_within _ d p2 (0) (5) e7) rfl rfl (Nat.le_of_ble_eq_true rfl) (by decide) [] [0, 1, 2] rfl (by decide +kernel) rfl rfl [0, 1, 2] (by decide +kernel) (fun _ => rfl) (fun _ => rfl) rfl rfl rfl (fun _ => rfl) (fun _ => ?_)
    refine J_if_ne (tg := 23) hK qd1_138.2.2.2.2.2.2.2.1 rfl rfl (fun hc13 => ?_) (fun hc13 => ?_)
    · have hf := iq hc13 hf
      refine J_aload_n hK qd1_138.2.2.2.2.2.2.2.2.2.2.2.2.1 rfl 0 rfl rfl ?_
      refine J_get hK fo_RX6_29 qd1_138.2.2.2.2.2.2.2.2.2.2.2.2.2.1 rfl 0 0 rfl rfl rfl ?_
      refine J_iload_n hK qd1_138.2.2.2.2.2.2.2.2.2.2.2.2.2.2.1 rfl 1 rfl rfl ?_
      obtain ⟨v8, e9, hf⟩ := bs hf
      refine J_callV (m := 3) (m' := 3) (ce' := 0) (sl' := 0) (gr := [gTw d h0 (h2 0) a0_kept a0_tape (h1 0) a0_choice a0_traffic x0_refused x0_isKept x0_gone x0_spent, gLd d h2 x2_lineCount x2_goodsCount x2_workCount x2_years x2_lines x2_goods x2_works x2_change x2_coin x2_knownFree x2_isKnown]) (gs' := fun _ => [gTw d h0 (h2 0) a0_kept a0_tape (h1 0) a0_choice a0_traffic x0_refused x0_isKept x0_gone x0_spent, gSh d h1 r1_elements x1_held x1_sizes, gLd d h2 x2_lineCount x2_goodsCount x2_workCount x2_years x2_lines x2_goods x2_works x2_change x2_coin x2_knownFree x2_isKnown]) (st' := fun _ => [.int v8]) (st := []) hK qd1_138.2.2.2.2.2.2.2.2.2.2.2.2.2.2.2.1 cv_RX6_110 iv_yX2_workIn (As := [.int p1]) (kX2_workIn _ d h1 r1_elements x1_elements x1_held x1_sizes p1 e9) rfl rfl (Nat.le_of_ble_eq_true rfl) (by decide) 1 0 rfl rfl rfl [1] [0, 2] rfl (by decide +kernel) rfl rfl [0, 2, 1] (by decide +kernel) (fun _ => rfl) (fun _ => rfl) rfl rfl rfl (fun _ => rfl) (fun _ => ?_)
      refine J_istore_n (L' := [(3, .int v8), (0, .ref (h0 0)), (1, .int p1), (2, .int p2)]) hK qd1_139.1 rfl rfl (by decide) rfl ?_
      refine J_aload_n hK qd1_139.2.1 rfl 1 rfl rfl ?_
      refine J_get hK fo_RX6_29 qd1_139.2.2.1 rfl 0 0 rfl rfl rfl ?_
      refine J_iload_n hK qd1_139.2.2.2.1 rfl 2 rfl rfl ?_
      obtain ⟨v10, e11, hf⟩ := bs hf
      refine J_callV (m := 3) (m' := 3) (ce' := 0) (sl' := 0) (gr := [gTw d h0 (h2 0) a0_kept a0_tape (h1 0) a0_choice a0_traffic x0_refused x0_isKept x0_gone x0_spent, gLd d h2 x2_lineCount x2_goodsCount x2_workCount x2_years x2_lines x2_goods x2_works x2_change x2_coin x2_knownFree x2_isKnown]) (gs' := fun _ => [gTw d h0 (h2 0) a0_kept a0_tape (h1 0) a0_choice a0_traffic x0_refused x0_isKept x0_gone x0_spent, gSh d h1 r1_elements x1_held x1_sizes, gLd d h2 x2_lineCount x2_goodsCount x2_workCount x2_years x2_lines x2_goods x2_works x2_change x2_coin x2_knownFree x2_isKnown]) (st' := fun _ => [.int v10]) (st := []) hK qd1_139.2.2.2.2.1 cv_RX6_106 iv_yX2_hasRow (As := [.int p1]) (kX2_hasRow _ d h1 r1_elements x1_elements x1_held x1_sizes p1 e11) rfl rfl (Nat.le_of_ble_eq_true rfl) (by decide) 1 0 rfl rfl rfl [1] [0, 2] rfl (by decide +kernel) rfl rfl [0, 2, 1] (by decide +kernel) (fun _ => rfl) (fun _ => rfl) rfl rfl rfl (fun _ => rfl) (fun _ => ?_)
      refine J_if_ne (tg := 70) hK qd1_139.2.2.2.2.2.1 rfl rfl (fun hc40 => ?_) (fun hc40 => ?_)
      · have hf := iq hc40 hf
        refine J_aload_n hK qd1_140.2.2.2.1 rfl 1 rfl rfl ?_
        refine J_bipush (v := (-3)) hK qd1_140.2.2.2.2.1 rfl (by decide) ?_
        obtain ⟨⟨v12, g13⟩, e14, hf⟩ := bs hf
        have hf := un2 hf
        refine J_callV (m := 3) (m' := 3) (ce' := 0) (sl' := 0) (gr := [gSh d h1 r1_elements x1_held x1_sizes, gLd d h2 x2_lineCount x2_goodsCount x2_workCount x2_years x2_lines x2_goods x2_works x2_change x2_coin x2_knownFree x2_isKnown]) (gs' := fun _ => [gTw d h0 (h2 0) a0_kept a0_tape (h1 0) a0_choice a0_traffic g13 x0_isKept x0_gone x0_spent, gSh d h1 r1_elements x1_held x1_sizes, gLd d h2 x2_lineCount x2_goodsCount x2_workCount x2_years x2_lines x2_goods x2_works x2_change x2_coin x2_knownFree x2_isKnown]) (st' := fun _ => [.int v12]) (st := []) hK qd1_140.2.2.2.2.2.1 cv_RX6_68 iv_yX6_refuse (As := [.int (-3)]) (kX6_refuse _ d h0 (h2 0) a0_kept a0_tape (h1 0) a0_choice a0_traffic x0_refused x0_isKept x0_gone x0_spent (-3) e14) rfl rfl (Nat.le_of_ble_eq_true rfl) (by decide) 0 0 rfl rfl rfl [0] [1, 2] rfl (by decide +kernel) rfl rfl [2, 0, 1] (by decide +kernel) (fun _ => rfl) (fun _ => rfl) rfl rfl rfl (fun _ => rfl) (fun _ => ?_)
        obtain rfl := Option.some.inj hf
        exact J_iret hK hR qd1_140.2.2.2.2.2.2.1 () rfl (by decide) (by decide)
      · have hf := ip hc40 hf
        refine J_aload_n hK qd1_139.2.2.2.2.2.2.1 rfl 1 rfl rfl ?_
        refine J_get hK fo_RX6_12 qd1_139.2.2.2.2.2.2.2.1 rfl 0 0 rfl rfl rfl ?_
        refine J_iload_n hK qd1_139.2.2.2.2.2.2.2.2.1 rfl 0 rfl rfl ?_
        obtain ⟨v15, e16, hf⟩ := bs hf
        refine J_callV (m := 3) (m' := 3) (ce' := 0) (sl' := 0) (gr := [gTw d h0 (h2 0) a0_kept a0_tape (h1 0) a0_choice a0_traffic x0_refused x0_isKept x0_gone x0_spent, gSh d h1 r1_elements x1_held x1_sizes]) (gs' := fun _ => [gTw d h0 (h2 0) a0_kept a0_tape (h1 0) a0_choice a0_traffic x0_refused x0_isKept x0_gone x0_spent, gSh d h1 r1_elements x1_held x1_sizes, gLd d h2 x2_lineCount x2_goodsCount x2_workCount x2_years x2_lines x2_goods x2_works x2_change x2_coin x2_knownFree x2_isKnown]) (st' := fun _ => [.int v15]) (st := []) hK qd1_139.2.2.2.2.2.2.2.2.2.1 cv_RX6_109 iv_yX1_hasWork (As := [.int v8]) (kX1_hasWork _ d h2 x2_lineCount x2_goodsCount x2_workCount x2_years x2_lines x2_goods x2_works x2_change x2_coin x2_knownFree x2_isKnown v8 e16) rfl rfl (Nat.le_of_ble_eq_true rfl) (by decide) 2 0 rfl rfl rfl [2] [0, 1] rfl (by decide +kernel) rfl rfl [0, 1, 2] (by decide +kernel) (fun _ => rfl) (fun _ => rfl) rfl rfl rfl (fun _ => rfl) (fun _ => ?_)
        have j77 : fX6_says_j77 p2 x0_refused x0_isKept x0_gone x0_spent x2_lineCount x2_goodsCount x2_workCount x2_years x2_lines x2_goods x2_works x2_change x2_coin x2_knownFree x2_isKnown v8 = some out → J d Φ 4 [gTw d h0 (h2 0) a0_kept a0_tape (h1 0) a0_choice a0_traffic x0_refused x0_isKept x0_gone x0_spent, gSh d h1 r1_elements x1_held x1_sizes, gLd d h2 x2_lineCount x2_goodsCount x2_workCount x2_years x2_lines x2_goods x2_works x2_change x2_coin x2_knownFree x2_isKnown] 0 0 77 [(0, .ref (h0 0)), (2, .int p2), (3, .int v8)] [] := by
          intro  hf
          unfold fX6_says_j77 at hf
          refine J_aload_n hK qd1_140.2.2.2.2.2.2.2.1 rfl 0 rfl rfl ?_
          refine J_get hK fo_RX6_12 qd1_140.2.2.2.2.2.2.2.2.1 rfl 0 0 rfl rfl rfl ?_
          refine J_iload_n hK qd1_140.2.2.2.2.2.2.2.2.2.1 rfl 2 rfl rfl ?_
          obtain ⟨v17, e18, hf⟩ := bs hf
          refine J_callV (m := 3) (m' := 3) (ce' := 0) (sl' := 0) (gr := [gTw d h0 (h2 0) a0_kept a0_tape (h1 0) a0_choice a0_traffic x0_refused x0_isKept x0_gone x0_spent, gSh d h1 r1_elements x1_held x1_sizes]) (gs' := fun _ => [gTw d h0 (h2 0) a0_kept a0_tape (h1 0) a0_choice a0_traffic x0_refused x0_isKept x0_gone x0_spent, gSh d h1 r1_elements x1_held x1_sizes, gLd d h2 x2_lineCount x2_goodsCount x2_workCount x2_years x2_lines x2_goods x2_works x2_change x2_coin x2_knownFree x2_isKnown]) (st' := fun _ => [.int v17]) (st := []) hK qd1_140.2.2.2.2.2.2.2.2.2.2.1 cv_RX6_109 iv_yX1_hasWork (As := [.int v8]) (kX1_hasWork _ d h2 x2_lineCount x2_goodsCount x2_workCount x2_years x2_lines x2_goods x2_works x2_change x2_coin x2_knownFree x2_isKnown v8 e18) rfl rfl (Nat.le_of_ble_eq_true rfl) (by decide) 2 0 rfl rfl rfl [2] [0, 1] rfl (by decide +kernel) rfl rfl [0, 1, 2] (by decide +kernel) (fun _ => rfl) (fun _ => rfl) rfl rfl rfl (fun _ => rfl) (fun _ => ?_)
          refine J_if_ne (tg := 95) hK qd1_140.2.2.2.2.2.2.2.2.2.2.2.1 rfl rfl (fun hc85 => ?_) (fun hc85 => ?_)
          · have hf := iq hc85 hf
            refine J_iload_n hK qd1_141.1 rfl 1 rfl rfl ?_
            by_cases hc96_0 : p2 = 0
            · have hf := ip hc96_0 hf
              refine J_lk (off := 36) (tg := 132) hK dX6_says_96 rfl (by rw [hc96_0]; decide) rfl ?_
              refine J_aload_n hK qd1_142.1 rfl 0 rfl rfl ?_
              refine J_get hK fo_RX6_12 qd1_142.2.1 rfl 0 0 rfl rfl rfl ?_
              refine J_iload_n hK qd1_142.2.2.1 rfl 2 rfl rfl ?_
              refine J_iconst (v := 3) hK qd1_142.2.2.2.1 rfl (by decide) ?_
              obtain ⟨v19, e20, hf⟩ := bs hf
              refine J_callV (m := 3) (m' := 3) (ce' := 0) (sl' := 0) (gr := [gTw d h0 (h2 0) a0_kept a0_tape (h1 0) a0_choice a0_traffic x0_refused x0_isKept x0_gone x0_spent, gSh d h1 r1_elements x1_held x1_sizes]) (gs' := fun _ => [gTw d h0 (h2 0) a0_kept a0_tape (h1 0) a0_choice a0_traffic x0_refused x0_isKept x0_gone x0_spent, gSh d h1 r1_elements x1_held x1_sizes, gLd d h2 x2_lineCount x2_goodsCount x2_workCount x2_years x2_lines x2_goods x2_works x2_change x2_coin x2_knownFree x2_isKnown]) (st' := fun _ => [.int v19]) (st := []) hK qd1_142.2.2.2.2.1 cv_RX6_113 iv_yX1_ofWork (As := [.int v8, .int (3)]) (kX1_ofWork _ d h2 x2_lineCount x2_goodsCount x2_workCount x2_years x2_lines x2_goods x2_works x2_change x2_coin x2_knownFree x2_isKnown v8 (3) e20) rfl rfl (Nat.le_of_ble_eq_true rfl) (by decide) 2 0 rfl rfl rfl [2] [0, 1] rfl (by decide +kernel) rfl rfl [0, 1, 2] (by decide +kernel) (fun _ => rfl) (fun _ => rfl) rfl rfl rfl (fun _ => rfl) (fun _ => ?_)
              obtain rfl := Option.some.inj hf
              exact J_iret hK hR qd1_142.2.2.2.2.2.1 () rfl (by decide) (by decide)
            have hf := iq hc96_0 hf
            by_cases hc96_4 : p2 = 4
            · have hf := ip hc96_4 hf
              refine J_lk (off := 46) (tg := 142) hK dX6_says_96 rfl (by rw [hc96_4]; decide) rfl ?_
              refine J_bipush (v := 100) hK qd1_142.2.2.2.2.2.2.1 rfl (by decide) ?_
              refine J_aload_n hK qd1_142.2.2.2.2.2.2.2.1 rfl 0 rfl rfl ?_
              refine J_get hK fo_RX6_12 qd1_142.2.2.2.2.2.2.2.2.1 rfl 0 0 rfl rfl rfl ?_
              refine J_iload_n hK qd1_142.2.2.2.2.2.2.2.2.2.1 rfl 2 rfl rfl ?_
              refine J_iconst (v := 1) hK qd1_142.2.2.2.2.2.2.2.2.2.2.1 rfl (by decide) ?_
              obtain ⟨v21, e22, hf⟩ := bs hf
              refine J_callV (m := 3) (m' := 3) (ce' := 0) (sl' := 0) (gr := [gTw d h0 (h2 0) a0_kept a0_tape (h1 0) a0_choice a0_traffic x0_refused x0_isKept x0_gone x0_spent, gSh d h1 r1_elements x1_held x1_sizes]) (gs' := fun _ => [gTw d h0 (h2 0) a0_kept a0_tape (h1 0) a0_choice a0_traffic x0_refused x0_isKept x0_gone x0_spent, gSh d h1 r1_elements x1_held x1_sizes, gLd d h2 x2_lineCount x2_goodsCount x2_workCount x2_years x2_lines x2_goods x2_works x2_change x2_coin x2_knownFree x2_isKnown]) (st' := fun _ => [.int v21, .int (100)]) (st := [.int (100)]) hK qd1_142.2.2.2.2.2.2.2.2.2.2.2.1 cv_RX6_113 iv_yX1_ofWork (As := [.int v8, .int (1)]) (kX1_ofWork _ d h2 x2_lineCount x2_goodsCount x2_workCount x2_years x2_lines x2_goods x2_works x2_change x2_coin x2_knownFree x2_isKnown v8 (1) e22) rfl rfl (Nat.le_of_ble_eq_true rfl) (by decide) 2 0 rfl rfl rfl [2] [0, 1] rfl (by decide +kernel) rfl rfl [0, 1, 2] (by decide +kernel) (fun _ => rfl) (fun _ => rfl) rfl rfl rfl (fun _ => rfl) (fun _ => ?_)
              refine J_imul hK qd1_142.2.2.2.2.2.2.2.2.2.2.2.2.1 rfl ?_
              refine J_aload_n hK qd1_142.2.2.2.2.2.2.2.2.2.2.2.2.2.1 rfl 0 rfl rfl ?_
              refine J_get hK fo_RX6_12 qd1_142.2.2.2.2.2.2.2.2.2.2.2.2.2.2.1 rfl 0 0 rfl rfl rfl ?_
              refine J_iload_n hK qd1_142.2.2.2.2.2.2.2.2.2.2.2.2.2.2.2.1 rfl 2 rfl rfl ?_
              refine J_iconst (v := 2) hK qd1_143.1 rfl (by decide) ?_
              obtain ⟨v23, e24, hf⟩ := bs hf
              refine J_callV (m := 3) (m' := 3) (ce' := 0) (sl' := 0) (gr := [gTw d h0 (h2 0) a0_kept a0_tape (h1 0) a0_choice a0_traffic x0_refused x0_isKept x0_gone x0_spent, gSh d h1 r1_elements x1_held x1_sizes]) (gs' := fun _ => [gTw d h0 (h2 0) a0_kept a0_tape (h1 0) a0_choice a0_traffic x0_refused x0_isKept x0_gone x0_spent, gSh d h1 r1_elements x1_held x1_sizes, gLd d h2 x2_lineCount x2_goodsCount x2_workCount x2_years x2_lines x2_goods x2_works x2_change x2_coin x2_knownFree x2_isKnown]) (st' := fun _ => [.int v23, .int (100 * v21)]) (st := [.int (100 * v21)]) hK qd1_143.2.1 cv_RX6_113 iv_yX1_ofWork (As := [.int v8, .int (2)]) (kX1_ofWork _ d h2 x2_lineCount x2_goodsCount x2_workCount x2_years x2_lines x2_goods x2_works x2_change x2_coin x2_knownFree x2_isKnown v8 (2) e24) rfl rfl (Nat.le_of_ble_eq_true rfl) (by decide) 2 0 rfl rfl rfl [2] [0, 1] rfl (by decide +kernel) rfl rfl [0, 1, 2] (by decide +kernel) (fun _ => rfl) (fun _ => rfl) rfl rfl rfl (fun _ => rfl) (fun _ => ?_)
              refine J_iadd hK qd1_143.2.2.1 rfl ?_
              obtain rfl := Option.some.inj hf
              exact J_iret hK hR qd1_143.2.2.2.1 () rfl (by decide) (by decide)
            have hf := iq hc96_4 hf
            by_cases hc96_5 : p2 = 5
            · have hf := ip hc96_5 hf
              refine J_lk (off := 46) (tg := 142) hK dX6_says_96 rfl (by rw [hc96_5]; decide) rfl ?_
              refine J_bipush (v := 100) hK qd1_142.2.2.2.2.2.2.1 rfl (by decide) ?_
              refine J_aload_n hK qd1_142.2.2.2.2.2.2.2.1 rfl 0 rfl rfl ?_
              refine J_get hK fo_RX6_12 qd1_142.2.2.2.2.2.2.2.2.1 rfl 0 0 rfl rfl rfl ?_
              refine J_iload_n hK qd1_142.2.2.2.2.2.2.2.2.2.1 rfl 2 rfl rfl ?_
              refine J_iconst (v := 1) hK qd1_142.2.2.2.2.2.2.2.2.2.2.1 rfl (by decide) ?_
              obtain ⟨v25, e26, hf⟩ := bs hf
              refine J_callV (m := 3) (m' := 3) (ce' := 0) (sl' := 0) (gr := [gTw d h0 (h2 0) a0_kept a0_tape (h1 0) a0_choice a0_traffic x0_refused x0_isKept x0_gone x0_spent, gSh d h1 r1_elements x1_held x1_sizes]) (gs' := fun _ => [gTw d h0 (h2 0) a0_kept a0_tape (h1 0) a0_choice a0_traffic x0_refused x0_isKept x0_gone x0_spent, gSh d h1 r1_elements x1_held x1_sizes, gLd d h2 x2_lineCount x2_goodsCount x2_workCount x2_years x2_lines x2_goods x2_works x2_change x2_coin x2_knownFree x2_isKnown]) (st' := fun _ => [.int v25, .int (100)]) (st := [.int (100)]) hK qd1_142.2.2.2.2.2.2.2.2.2.2.2.1 cv_RX6_113 iv_yX1_ofWork (As := [.int v8, .int (1)]) (kX1_ofWork _ d h2 x2_lineCount x2_goodsCount x2_workCount x2_years x2_lines x2_goods x2_works x2_change x2_coin x2_knownFree x2_isKnown v8 (1) e26) rfl rfl (Nat.le_of_ble_eq_true rfl) (by decide) 2 0 rfl rfl rfl [2] [0, 1] rfl (by decide +kernel) rfl rfl [0, 1, 2] (by decide +kernel) (fun _ => rfl) (fun _ => rfl) rfl rfl rfl (fun _ => rfl) (fun _ => ?_)
              refine J_imul hK qd1_142.2.2.2.2.2.2.2.2.2.2.2.2.1 rfl ?_
              refine J_aload_n hK qd1_142.2.2.2.2.2.2.2.2.2.2.2.2.2.1 rfl 0 rfl rfl ?_
              refine J_get hK fo_RX6_12 qd1_142.2.2.2.2.2.2.2.2.2.2.2.2.2.2.1 rfl 0 0 rfl rfl rfl ?_
              refine J_iload_n hK qd1_142.2.2.2.2.2.2.2.2.2.2.2.2.2.2.2.1 rfl 2 rfl rfl ?_
              refine J_iconst (v := 2) hK qd1_143.1 rfl (by decide) ?_
              obtain ⟨v27, e28, hf⟩ := bs hf
              refine J_callV (m := 3) (m' := 3) (ce' := 0) (sl' := 0) (gr := [gTw d h0 (h2 0) a0_kept a0_tape (h1 0) a0_choice a0_traffic x0_refused x0_isKept x0_gone x0_spent, gSh d h1 r1_elements x1_held x1_sizes]) (gs' := fun _ => [gTw d h0 (h2 0) a0_kept a0_tape (h1 0) a0_choice a0_traffic x0_refused x0_isKept x0_gone x0_spent, gSh d h1 r1_elements x1_held x1_sizes, gLd d h2 x2_lineCount x2_goodsCount x2_workCount x2_years x2_lines x2_goods x2_works x2_change x2_coin x2_knownFree x2_isKnown]) (st' := fun _ => [.int v27, .int (100 * v25)]) (st := [.int (100 * v25)]) hK qd1_143.2.1 cv_RX6_113 iv_yX1_ofWork (As := [.int v8, .int (2)]) (kX1_ofWork _ d h2 x2_lineCount x2_goodsCount x2_workCount x2_years x2_lines x2_goods x2_works x2_change x2_coin x2_knownFree x2_isKnown v8 (2) e28) rfl rfl (Nat.le_of_ble_eq_true rfl) (by decide) 2 0 rfl rfl rfl [2] [0, 1] rfl (by decide +kernel) rfl rfl [0, 1, 2] (by decide +kernel) (fun _ => rfl) (fun _ => rfl) rfl rfl rfl (fun _ => rfl) (fun _ => ?_)
              refine J_iadd hK qd1_143.2.2.1 rfl ?_
              obtain rfl := Option.some.inj hf
              exact J_iret hK hR qd1_143.2.2.2.1 () rfl (by decide) (by decide)
            have hf := iq hc96_5 hf
            refine J_lk (off := 69) (tg := 165) hK dX6_says_96 rfl (by have q0 : ¬ p2.toInt = 0 := fun h => hc96_0 (Int32.toInt_inj.mp (h.trans (by decide))); have q4 : ¬ p2.toInt = 4 := fun h => hc96_4 (Int32.toInt_inj.mp (h.trans (by decide))); have q5 : ¬ p2.toInt = 5 := fun h => hc96_5 (Int32.toInt_inj.mp (h.trans (by decide))); simp [Op.lookupswitch.offset, Ne.symm q0, Ne.symm q4, Ne.symm q5]) rfl ?_
            refine J_aload_n hK qd1_143.2.2.2.2.1 rfl 0 rfl rfl ?_
            refine J_get hK fo_RX6_12 qd1_143.2.2.2.2.2.1 rfl 0 0 rfl rfl rfl ?_
            refine J_iload_n hK qd1_143.2.2.2.2.2.2.1 rfl 2 rfl rfl ?_
            refine J_iconst (v := 1) hK qd1_143.2.2.2.2.2.2.2.1 rfl (by decide) ?_
            obtain ⟨v29, e30, hf⟩ := bs hf
            refine J_callV (m := 3) (m' := 3) (ce' := 0) (sl' := 0) (gr := [gTw d h0 (h2 0) a0_kept a0_tape (h1 0) a0_choice a0_traffic x0_refused x0_isKept x0_gone x0_spent, gSh d h1 r1_elements x1_held x1_sizes]) (gs' := fun _ => [gTw d h0 (h2 0) a0_kept a0_tape (h1 0) a0_choice a0_traffic x0_refused x0_isKept x0_gone x0_spent, gSh d h1 r1_elements x1_held x1_sizes, gLd d h2 x2_lineCount x2_goodsCount x2_workCount x2_years x2_lines x2_goods x2_works x2_change x2_coin x2_knownFree x2_isKnown]) (st' := fun _ => [.int v29]) (st := []) hK qd1_143.2.2.2.2.2.2.2.2.1 cv_RX6_113 iv_yX1_ofWork (As := [.int v8, .int (1)]) (kX1_ofWork _ d h2 x2_lineCount x2_goodsCount x2_workCount x2_years x2_lines x2_goods x2_works x2_change x2_coin x2_knownFree x2_isKnown v8 (1) e30) rfl rfl (Nat.le_of_ble_eq_true rfl) (by decide) 2 0 rfl rfl rfl [2] [0, 1] rfl (by decide +kernel) rfl rfl [0, 1, 2] (by decide +kernel) (fun _ => rfl) (fun _ => rfl) rfl rfl rfl (fun _ => rfl) (fun _ => ?_)
            obtain rfl := Option.some.inj hf
            exact J_iret hK hR qd1_143.2.2.2.2.2.2.2.2.2.1 () rfl (by decide) (by decide)
          · have hf := ip hc85 hf
            refine J_aload_n hK qd1_140.2.2.2.2.2.2.2.2.2.2.2.2.1 rfl 0 rfl rfl ?_
            refine J_bipush (v := (-4)) hK qd1_140.2.2.2.2.2.2.2.2.2.2.2.2.2.1 rfl (by decide) ?_
            obtain ⟨⟨v31, g32⟩, e33, hf⟩ := bs hf
            have hf := un2 hf
            refine J_callV (m := 3) (m' := 3) (ce' := 0) (sl' := 0) (gr := [gSh d h1 r1_elements x1_held x1_sizes, gLd d h2 x2_lineCount x2_goodsCount x2_workCount x2_years x2_lines x2_goods x2_works x2_change x2_coin x2_knownFree x2_isKnown]) (gs' := fun _ => [gTw d h0 (h2 0) a0_kept a0_tape (h1 0) a0_choice a0_traffic g32 x0_isKept x0_gone x0_spent, gSh d h1 r1_elements x1_held x1_sizes, gLd d h2 x2_lineCount x2_goodsCount x2_workCount x2_years x2_lines x2_goods x2_works x2_change x2_coin x2_knownFree x2_isKnown]) (st' := fun _ => [.int v31]) (st := []) hK qd1_140.2.2.2.2.2.2.2.2.2.2.2.2.2.2.1 cv_RX6_68 iv_yX6_refuse (As := [.int (-4)]) (kX6_refuse _ d h0 (h2 0) a0_kept a0_tape (h1 0) a0_choice a0_traffic x0_refused x0_isKept x0_gone x0_spent (-4) e33) rfl rfl (Nat.le_of_ble_eq_true rfl) (by decide) 0 0 rfl rfl rfl [0] [1, 2] rfl (by decide +kernel) rfl rfl [2, 0, 1] (by decide +kernel) (fun _ => rfl) (fun _ => rfl) rfl rfl rfl (fun _ => rfl) (fun _ => ?_)
            obtain rfl := Option.some.inj hf
            exact J_iret hK hR qd1_140.2.2.2.2.2.2.2.2.2.2.2.2.2.2.2.1 () rfl (by decide) (by decide)
        refine J_if_eq (tg := 77) hK qd1_139.2.2.2.2.2.2.2.2.2.2.1 rfl rfl (fun hc51 => ?_) (fun hc51 => ?_)
        · have hf := ip hc51 hf
          exact J_loc [1, 3, 0] rfl (j77  hf)
        · have hf := iq hc51 hf
          refine J_aload_n hK qd1_139.2.2.2.2.2.2.2.2.2.2.2.1 rfl 1 rfl rfl ?_
          refine J_get hK fo_RX6_12 qd1_139.2.2.2.2.2.2.2.2.2.2.2.2.1 rfl 0 0 rfl rfl rfl ?_
          refine J_iload_n hK qd1_139.2.2.2.2.2.2.2.2.2.2.2.2.2.1 rfl 0 rfl rfl ?_
          refine J_iconst (v := 0) hK qd1_139.2.2.2.2.2.2.2.2.2.2.2.2.2.2.1 rfl (by decide) ?_
          obtain ⟨v34, e35, hf⟩ := bs hf
          refine J_callV (m := 3) (m' := 3) (ce' := 0) (sl' := 0) (gr := [gTw d h0 (h2 0) a0_kept a0_tape (h1 0) a0_choice a0_traffic x0_refused x0_isKept x0_gone x0_spent, gSh d h1 r1_elements x1_held x1_sizes]) (gs' := fun _ => [gTw d h0 (h2 0) a0_kept a0_tape (h1 0) a0_choice a0_traffic x0_refused x0_isKept x0_gone x0_spent, gSh d h1 r1_elements x1_held x1_sizes, gLd d h2 x2_lineCount x2_goodsCount x2_workCount x2_years x2_lines x2_goods x2_works x2_change x2_coin x2_knownFree x2_isKnown]) (st' := fun _ => [.int v34]) (st := []) hK qd1_139.2.2.2.2.2.2.2.2.2.2.2.2.2.2.2.1 cv_RX6_113 iv_yX1_ofWork (As := [.int v8, .int (0)]) (kX1_ofWork _ d h2 x2_lineCount x2_goodsCount x2_workCount x2_years x2_lines x2_goods x2_works x2_change x2_coin x2_knownFree x2_isKnown v8 (0) e35) rfl rfl (Nat.le_of_ble_eq_true rfl) (by decide) 2 0 rfl rfl rfl [2] [0, 1] rfl (by decide +kernel) rfl rfl [0, 1, 2] (by decide +kernel) (fun _ => rfl) (fun _ => rfl) rfl rfl rfl (fun _ => rfl) (fun _ => ?_)
          refine J_iload_n hK qd1_140.1 rfl 3 rfl rfl ?_
          obtain ⟨v36, e37, hf⟩ := bs hf
          refine J_callS (m := 3) (m' := 3) (ce' := 0) (sl' := 0) (gr := [gTw d h0 (h2 0) a0_kept a0_tape (h1 0) a0_choice a0_traffic x0_refused x0_isKept x0_gone x0_spent, gSh d h1 r1_elements x1_held x1_sizes, gLd d h2 x2_lineCount x2_goodsCount x2_workCount x2_years x2_lines x2_goods x2_works x2_change x2_coin x2_knownFree x2_isKnown]) (gs' := fun _ => [gTw d h0 (h2 0) a0_kept a0_tape (h1 0) a0_choice a0_traffic x0_refused x0_isKept x0_gone x0_spent, gSh d h1 r1_elements x1_held x1_sizes, gLd d h2 x2_lineCount x2_goodsCount x2_workCount x2_years x2_lines x2_goods x2_works x2_change x2_coin x2_knownFree x2_isKnown]) (st' := fun _ => [.int v36]) (st := []) hK qd1_140.2.1 cv_RX6_117 ws_yX6_isUnder (As := [.int v34, .int p2]) (kX6_isUnder _ d n v34 p2 e37) rfl rfl (Nat.le_of_ble_eq_true rfl) (by decide) [] [0, 1, 2] rfl (by decide +kernel) rfl rfl [0, 1, 2] (by decide +kernel) (fun _ => rfl) (fun _ => rfl) rfl rfl rfl (fun _ => rfl) (fun _ => ?_)
          refine J_if_ne (tg := 77) hK qd1_140.2.2.1 rfl rfl (fun hc67 => ?_) (fun hc67 => ?_)
          · have hf := iq hc67 hf
            exact J_loc [1, 3, 0] rfl (j77  hf)
          · have hf := ip hc67 hf
            refine J_aload_n hK qd1_140.2.2.2.1 rfl 1 rfl rfl ?_
            refine J_bipush (v := (-3)) hK qd1_140.2.2.2.2.1 rfl (by decide) ?_
            obtain ⟨⟨v38, g39⟩, e40, hf⟩ := bs hf
            have hf := un2 hf
            refine J_callV (m := 3) (m' := 3) (ce' := 0) (sl' := 0) (gr := [gSh d h1 r1_elements x1_held x1_sizes, gLd d h2 x2_lineCount x2_goodsCount x2_workCount x2_years x2_lines x2_goods x2_works x2_change x2_coin x2_knownFree x2_isKnown]) (gs' := fun _ => [gTw d h0 (h2 0) a0_kept a0_tape (h1 0) a0_choice a0_traffic g39 x0_isKept x0_gone x0_spent, gSh d h1 r1_elements x1_held x1_sizes, gLd d h2 x2_lineCount x2_goodsCount x2_workCount x2_years x2_lines x2_goods x2_works x2_change x2_coin x2_knownFree x2_isKnown]) (st' := fun _ => [.int v38]) (st := []) hK qd1_140.2.2.2.2.2.1 cv_RX6_68 iv_yX6_refuse (As := [.int (-3)]) (kX6_refuse _ d h0 (h2 0) a0_kept a0_tape (h1 0) a0_choice a0_traffic x0_refused x0_isKept x0_gone x0_spent (-3) e40) rfl rfl (Nat.le_of_ble_eq_true rfl) (by decide) 0 0 rfl rfl rfl [0] [1, 2] rfl (by decide +kernel) rfl rfl [2, 0, 1] (by decide +kernel) (fun _ => rfl) (fun _ => rfl) rfl rfl rfl (fun _ => rfl) (fun _ => ?_)
            obtain rfl := Option.some.inj hf
            exact J_iret hK hR qd1_140.2.2.2.2.2.2.1 () rfl (by decide) (by decide)
    · have hf := ip hc13 hf
      refine J_aload_n hK qd1_138.2.2.2.2.2.2.2.2.1 rfl 0 rfl rfl ?_
      refine J_bipush (v := (-2)) hK qd1_138.2.2.2.2.2.2.2.2.2.1 rfl (by decide) ?_
      obtain ⟨⟨v41, g42⟩, e43, hf⟩ := bs hf
      have hf := un2 hf
      refine J_callV (m := 3) (m' := 3) (ce' := 0) (sl' := 0) (gr := [gSh d h1 r1_elements x1_held x1_sizes, gLd d h2 x2_lineCount x2_goodsCount x2_workCount x2_years x2_lines x2_goods x2_works x2_change x2_coin x2_knownFree x2_isKnown]) (gs' := fun _ => [gTw d h0 (h2 0) a0_kept a0_tape (h1 0) a0_choice a0_traffic g42 x0_isKept x0_gone x0_spent, gSh d h1 r1_elements x1_held x1_sizes, gLd d h2 x2_lineCount x2_goodsCount x2_workCount x2_years x2_lines x2_goods x2_works x2_change x2_coin x2_knownFree x2_isKnown]) (st' := fun _ => [.int v41]) (st := []) hK qd1_138.2.2.2.2.2.2.2.2.2.2.1 cv_RX6_68 iv_yX6_refuse (As := [.int (-2)]) (kX6_refuse _ d h0 (h2 0) a0_kept a0_tape (h1 0) a0_choice a0_traffic x0_refused x0_isKept x0_gone x0_spent (-2) e43) rfl rfl (Nat.le_of_ble_eq_true rfl) (by decide) 0 0 rfl rfl rfl [0] [1, 2] rfl (by decide +kernel) rfl rfl [2, 0, 1] (by decide +kernel) (fun _ => rfl) (fun _ => rfl) rfl rfl rfl (fun _ => rfl) (fun _ => ?_)
      obtain rfl := Option.some.inj hf
      exact J_iret hK hR qd1_138.2.2.2.2.2.2.2.2.2.2.2.1 () rfl (by decide) (by decide)

def fX6_isPlace (p0 : Int32) : Option (Int32) :=
  (fX6_within p0 (0) (11)).bind (fun v1 => (zb v1).bind fun v3 => some v3)
set_option maxHeartbeats 4000000 in
set_option maxRecDepth 100000 in
theorem kX6_isPlace (l : Launch) (d : DT)  (p0 : Int32)  {out : Int32} (hf : fX6_isPlace p0 = some out) : Ct l d yX6_isPlace cX6_isPlace 1 (some .boolean) { frames := 1, cells := 0, slots := 0, locals := 22 } [.int p0] [] (fun _ : Unit => (some (.int out), [])) := by
  refine Ct.of (by decide) (Nat.le_of_ble_eq_true rfl) ?_
  intro Φ hl hK hR
  subst hl
  have hK : Ok d Φ RX6 "isPlace" cX6_isPlace 1 (some .boolean) { frames := 1, cells := 0, slots := 0, locals := 22 } := hK
  unfold fX6_isPlace at hf
  show J d Φ 1 [] 0 0 0 [(0, .int p0)] []
  refine J_iload_n hK qd2_92.1 rfl 0 rfl rfl ?_
  refine J_iconst (v := 0) hK qd2_92.2.1 rfl (by decide) ?_
  refine J_bipush (v := 11) hK qd2_92.2.2.1 rfl (by decide) ?_
  obtain ⟨v1, e2, hf⟩ := bs hf
  refine J_callS (m := 0) (m' := 0) (ce' := 0) (sl' := 0) (gr := []) (gs' := fun _ => []) (st' := fun _ => [.int v1]) (st := []) hK qd2_92.2.2.2.1 cv_RX6_64 ws_yX6_within (As := [.int p0, .int (0), .int (11)]) (kX6_within _ d p0 (0) (11) e2) rfl rfl (Nat.le_of_ble_eq_true rfl) (by decide) [] [] rfl (by decide +kernel) rfl rfl [] (by decide +kernel) (fun _ => rfl) (fun _ => rfl) rfl rfl rfl (fun _ => rfl) (fun _ => ?_)
  obtain ⟨v3, ev3, hf⟩ := bs hf
  obtain rfl := Option.some.inj hf
  exact J_zret hK hR qd2_92.2.2.2.2.1 () (zb_ok ev3).2 (by rw [(zb_ok ev3).1]) (by decide) (by decide)

def fX6_line (X0 : TwT) (X1 : LdT) (p1 : Int32) (p2 : Int32) (p3 : Int32) (p4 : Int32) (p5 : Int32) (p6 : Int32) : Option (Int32 × (Nat → Int32) × Int32 × (Nat → Int32) × Int32) :=
  u4 (fun (x0_refused : (Nat → Int32)) (x0_isKept : Int32) (x0_gone : Int32) (x0_spent : Int32) => u11 (fun (x1_lineCount : Int32) (x1_goodsCount : Int32) (x1_workCount : Int32) (x1_years : Int32) (x1_lines : (Nat → Int32)) (x1_goods : (Nat → Int32)) (x1_works : (Nat → Int32)) (x1_change : (Nat → Int32)) (x1_coin : (Nat → Int32)) (x1_knownFree : (Nat → Int32)) (x1_isKnown : Int32) => (fX6_isPlace p1).bind (fun v1 => if v1 = 0 then ((fX6_refuse (x0_refused, x0_isKept, x0_gone, x0_spent) (-2)).bind (u2 fun v3 g4 => some (v3, g4, x1_lineCount, x1_lines, x1_isKnown))) else ((fX6_isPlace p2).bind (fun v6 => if v6 = 0 then ((fX6_refuse (x0_refused, x0_isKept, x0_gone, x0_spent) (-2)).bind (u2 fun v8 g9 => some (v8, g9, x1_lineCount, x1_lines, x1_isKnown))) else (if p1 = p2 then ((fX6_refuse (x0_refused, x0_isKept, x0_gone, x0_spent) (-2)).bind (u2 fun v11 g12 => some (v11, g12, x1_lineCount, x1_lines, x1_isKnown))) else ((fX6_within p3 (1) (7)).bind (fun v14 => if v14 = 0 then ((fX6_refuse (x0_refused, x0_isKept, x0_gone, x0_spent) (-2)).bind (u2 fun v16 g17 => some (v16, g17, x1_lineCount, x1_lines, x1_isKnown))) else ((fX6_within p4 (1) (60)).bind (fun v19 => if v19 = 0 then ((fX6_refuse (x0_refused, x0_isKept, x0_gone, x0_spent) (-2)).bind (u2 fun v21 g22 => some (v21, g22, x1_lineCount, x1_lines, x1_isKnown))) else ((fX6_within p5 (1) (999)).bind (fun v24 => if v24 = 0 then ((fX6_refuse (x0_refused, x0_isKept, x0_gone, x0_spent) (-2)).bind (u2 fun v26 g27 => some (v26, g27, x1_lineCount, x1_lines, x1_isKnown))) else ((fX6_within p6 (0) (5)).bind (fun v29 => if v29 = 0 then ((fX6_refuse (x0_refused, x0_isKept, x0_gone, x0_spent) (-2)).bind (u2 fun v38 g39 => some (v38, g39, x1_lineCount, x1_lines, x1_isKnown))) else (if x1_lineCount < 20 then ((fX1_addLine (x1_lineCount, x1_goodsCount, x1_workCount, x1_years, x1_lines, x1_goods, x1_works, x1_change, x1_coin, x1_knownFree, x1_isKnown) p1 p2 p3 p4 p5 p6).bind (u3 fun g31 g32 g33 => some ((g31 - 1), x0_refused, g31, g32, g33))) else ((fX6_refuse (x0_refused, x0_isKept, x0_gone, x0_spent) (-6)).bind (u2 fun v35 g36 => some (v35, g36, x1_lineCount, x1_lines, x1_isKnown))))))))))))))))) X1) X0
set_option maxHeartbeats 4000000 in
set_option maxRecDepth 100000 in
theorem kX6_line (l : Launch) (d : DT) (h0 : Nat → Nat) (a0_kept : Nat) (a0_tape : Nat) (a0_shelves : Nat) (a0_choice : Nat) (a0_traffic : Nat) (h1 : Nat → Nat) (x0_refused : (Nat → Int32)) (x0_isKept : Int32) (x0_gone : Int32) (x0_spent : Int32) (x1_lineCount : Int32) (x1_goodsCount : Int32) (x1_workCount : Int32) (x1_years : Int32) (x1_lines : (Nat → Int32)) (x1_goods : (Nat → Int32)) (x1_works : (Nat → Int32)) (x1_change : (Nat → Int32)) (x1_coin : (Nat → Int32)) (x1_knownFree : (Nat → Int32)) (x1_isKnown : Int32) (p1 : Int32) (p2 : Int32) (p3 : Int32) (p4 : Int32) (p5 : Int32) (p6 : Int32)  {out : Int32 × (Nat → Int32) × Int32 × (Nat → Int32) × Int32} (hf : fX6_line (x0_refused, x0_isKept, x0_gone, x0_spent) (x1_lineCount, x1_goodsCount, x1_workCount, x1_years, x1_lines, x1_goods, x1_works, x1_change, x1_coin, x1_knownFree, x1_isKnown) p1 p2 p3 p4 p5 p6 = some out) : Ct l d yX6_line cX6_line 7 (some .int) { frames := 2, cells := 0, slots := 0, locals := 43 } [.ref (h0 0), .int p1, .int p2, .int p3, .int p4, .int p5, .int p6] [gTw d h0 (h1 0) a0_kept a0_tape a0_shelves a0_choice a0_traffic x0_refused x0_isKept x0_gone x0_spent, gLd d h1 x1_lineCount x1_goodsCount x1_workCount x1_years x1_lines x1_goods x1_works x1_change x1_coin x1_knownFree x1_isKnown] (fun _ : Unit => (some (.int out.1), [gTw d h0 (h1 0) a0_kept a0_tape a0_shelves a0_choice a0_traffic (out.2.1) x0_isKept x0_gone x0_spent, gLd d h1 (out.2.2.1) x1_goodsCount x1_workCount x1_years (out.2.2.2.1) x1_goods x1_works x1_change x1_coin x1_knownFree (out.2.2.2.2)])) := by
  refine Ct.of (by decide) (Nat.le_of_ble_eq_true rfl) ?_
  intro Φ hl hK hR
  subst hl
  have hK : Ok d Φ RX6 "line" cX6_line 7 (some .int) { frames := 2, cells := 0, slots := 0, locals := 43 } := hK
  unfold fX6_line at hf
  have hf := un4 hf
  have hf := un11 hf
  show J d Φ 7 [gTw d h0 (h1 0) a0_kept a0_tape a0_shelves a0_choice a0_traffic x0_refused x0_isKept x0_gone x0_spent, gLd d h1 x1_lineCount x1_goodsCount x1_workCount x1_years x1_lines x1_goods x1_works x1_change x1_coin x1_knownFree x1_isKnown] 0 0 0 [(0, .ref (h0 0)), (1, .int p1), (2, .int p2), (3, .int p3), (4, .int p4), (5, .int p5), (6, .int p6)] []
  refine J_iload_n hK qd1_144.1 rfl 1 rfl rfl ?_
  obtain ⟨v1, e2, hf⟩ := bs hf
  refine J_callS (m := 2) (m' := 2) (ce' := 0) (sl' := 0) (gr := [gTw d h0 (h1 0) a0_kept a0_tape a0_shelves a0_choice a0_traffic x0_refused x0_isKept x0_gone x0_spent, gLd d h1 x1_lineCount x1_goodsCount x1_workCount x1_years x1_lines x1_goods x1_works x1_change x1_coin x1_knownFree x1_isKnown]) (gs' := fun _ => [gTw d h0 (h1 0) a0_kept a0_tape a0_shelves a0_choice a0_traffic x0_refused x0_isKept x0_gone x0_spent, gLd d h1 x1_lineCount x1_goodsCount x1_workCount x1_years x1_lines x1_goods x1_works x1_change x1_coin x1_knownFree x1_isKnown]) (st' := fun _ => [.int v1]) (st := []) hK qd1_144.2.1 cv_RX6_120 ws_yX6_isPlace (As := [.int p1]) (kX6_isPlace _ d p1 e2) rfl rfl (Nat.le_of_ble_eq_true rfl) (by decide) [] [0, 1] rfl (by decide +kernel) rfl rfl [0, 1] (by decide +kernel) (fun _ => rfl) (fun _ => rfl) rfl rfl rfl (fun _ => rfl) (fun _ => ?_)
  refine J_if_eq (tg := 62) hK qd1_144.2.2.1 rfl rfl (fun hc4 => ?_) (fun hc4 => ?_)
  · have hf := ip hc4 hf
    refine J_aload_n hK qd1_145.2.2.2.2.2.2.2.2.2.2.2.2.2.1 rfl 0 rfl rfl ?_
    refine J_bipush (v := (-2)) hK qd1_145.2.2.2.2.2.2.2.2.2.2.2.2.2.2.1 rfl (by decide) ?_
    obtain ⟨⟨v3, g4⟩, e5, hf⟩ := bs hf
    have hf := un2 hf
    refine J_callV (m := 2) (m' := 2) (ce' := 0) (sl' := 0) (gr := [gLd d h1 x1_lineCount x1_goodsCount x1_workCount x1_years x1_lines x1_goods x1_works x1_change x1_coin x1_knownFree x1_isKnown]) (gs' := fun _ => [gTw d h0 (h1 0) a0_kept a0_tape a0_shelves a0_choice a0_traffic g4 x0_isKept x0_gone x0_spent, gLd d h1 x1_lineCount x1_goodsCount x1_workCount x1_years x1_lines x1_goods x1_works x1_change x1_coin x1_knownFree x1_isKnown]) (st' := fun _ => [.int v3]) (st := []) hK qd1_145.2.2.2.2.2.2.2.2.2.2.2.2.2.2.2.1 cv_RX6_68 iv_yX6_refuse (As := [.int (-2)]) (kX6_refuse _ d h0 (h1 0) a0_kept a0_tape a0_shelves a0_choice a0_traffic x0_refused x0_isKept x0_gone x0_spent (-2) e5) rfl rfl (Nat.le_of_ble_eq_true rfl) (by decide) 0 0 rfl rfl rfl [0] [1] rfl (by decide +kernel) rfl rfl [1, 0] (by decide +kernel) (fun _ => rfl) (fun _ => rfl) rfl rfl rfl (fun _ => rfl) (fun _ => ?_)
    obtain rfl := Option.some.inj hf
    exact J_iret hK hR qd1_146.1 () rfl (by decide) (by decide)
  · have hf := iq hc4 hf
    refine J_iload_n hK qd1_144.2.2.2.1 rfl 2 rfl rfl ?_
    obtain ⟨v6, e7, hf⟩ := bs hf
    refine J_callS (m := 2) (m' := 2) (ce' := 0) (sl' := 0) (gr := [gTw d h0 (h1 0) a0_kept a0_tape a0_shelves a0_choice a0_traffic x0_refused x0_isKept x0_gone x0_spent, gLd d h1 x1_lineCount x1_goodsCount x1_workCount x1_years x1_lines x1_goods x1_works x1_change x1_coin x1_knownFree x1_isKnown]) (gs' := fun _ => [gTw d h0 (h1 0) a0_kept a0_tape a0_shelves a0_choice a0_traffic x0_refused x0_isKept x0_gone x0_spent, gLd d h1 x1_lineCount x1_goodsCount x1_workCount x1_years x1_lines x1_goods x1_works x1_change x1_coin x1_knownFree x1_isKnown]) (st' := fun _ => [.int v6]) (st := []) hK qd1_144.2.2.2.2.1 cv_RX6_120 ws_yX6_isPlace (As := [.int p2]) (kX6_isPlace _ d p2 e7) rfl rfl (Nat.le_of_ble_eq_true rfl) (by decide) [] [0, 1] rfl (by decide +kernel) rfl rfl [0, 1] (by decide +kernel) (fun _ => rfl) (fun _ => rfl) rfl rfl rfl (fun _ => rfl) (fun _ => ?_)
    refine J_if_eq (tg := 62) hK qd1_144.2.2.2.2.2.1 rfl rfl (fun hc11 => ?_) (fun hc11 => ?_)
    · have hf := ip hc11 hf
      refine J_aload_n hK qd1_145.2.2.2.2.2.2.2.2.2.2.2.2.2.1 rfl 0 rfl rfl ?_
      refine J_bipush (v := (-2)) hK qd1_145.2.2.2.2.2.2.2.2.2.2.2.2.2.2.1 rfl (by decide) ?_
      obtain ⟨⟨v8, g9⟩, e10, hf⟩ := bs hf
      have hf := un2 hf
      refine J_callV (m := 2) (m' := 2) (ce' := 0) (sl' := 0) (gr := [gLd d h1 x1_lineCount x1_goodsCount x1_workCount x1_years x1_lines x1_goods x1_works x1_change x1_coin x1_knownFree x1_isKnown]) (gs' := fun _ => [gTw d h0 (h1 0) a0_kept a0_tape a0_shelves a0_choice a0_traffic g9 x0_isKept x0_gone x0_spent, gLd d h1 x1_lineCount x1_goodsCount x1_workCount x1_years x1_lines x1_goods x1_works x1_change x1_coin x1_knownFree x1_isKnown]) (st' := fun _ => [.int v8]) (st := []) hK qd1_145.2.2.2.2.2.2.2.2.2.2.2.2.2.2.2.1 cv_RX6_68 iv_yX6_refuse (As := [.int (-2)]) (kX6_refuse _ d h0 (h1 0) a0_kept a0_tape a0_shelves a0_choice a0_traffic x0_refused x0_isKept x0_gone x0_spent (-2) e10) rfl rfl (Nat.le_of_ble_eq_true rfl) (by decide) 0 0 rfl rfl rfl [0] [1] rfl (by decide +kernel) rfl rfl [1, 0] (by decide +kernel) (fun _ => rfl) (fun _ => rfl) rfl rfl rfl (fun _ => rfl) (fun _ => ?_)
      obtain rfl := Option.some.inj hf
      exact J_iret hK hR qd1_146.1 () rfl (by decide) (by decide)
    · have hf := iq hc11 hf
      refine J_iload_n hK qd1_144.2.2.2.2.2.2.1 rfl 1 rfl rfl ?_
      refine J_iload_n hK qd1_144.2.2.2.2.2.2.2.1 rfl 2 rfl rfl ?_
      refine J_icmp_eq (tg := 62) hK qd1_144.2.2.2.2.2.2.2.2.1 rfl rfl (fun hc16 => ?_) (fun hc16 => ?_)
      · have hf := ip hc16 hf
        refine J_aload_n hK qd1_145.2.2.2.2.2.2.2.2.2.2.2.2.2.1 rfl 0 rfl rfl ?_
        refine J_bipush (v := (-2)) hK qd1_145.2.2.2.2.2.2.2.2.2.2.2.2.2.2.1 rfl (by decide) ?_
        obtain ⟨⟨v11, g12⟩, e13, hf⟩ := bs hf
        have hf := un2 hf
        refine J_callV (m := 2) (m' := 2) (ce' := 0) (sl' := 0) (gr := [gLd d h1 x1_lineCount x1_goodsCount x1_workCount x1_years x1_lines x1_goods x1_works x1_change x1_coin x1_knownFree x1_isKnown]) (gs' := fun _ => [gTw d h0 (h1 0) a0_kept a0_tape a0_shelves a0_choice a0_traffic g12 x0_isKept x0_gone x0_spent, gLd d h1 x1_lineCount x1_goodsCount x1_workCount x1_years x1_lines x1_goods x1_works x1_change x1_coin x1_knownFree x1_isKnown]) (st' := fun _ => [.int v11]) (st := []) hK qd1_145.2.2.2.2.2.2.2.2.2.2.2.2.2.2.2.1 cv_RX6_68 iv_yX6_refuse (As := [.int (-2)]) (kX6_refuse _ d h0 (h1 0) a0_kept a0_tape a0_shelves a0_choice a0_traffic x0_refused x0_isKept x0_gone x0_spent (-2) e13) rfl rfl (Nat.le_of_ble_eq_true rfl) (by decide) 0 0 rfl rfl rfl [0] [1] rfl (by decide +kernel) rfl rfl [1, 0] (by decide +kernel) (fun _ => rfl) (fun _ => rfl) rfl rfl rfl (fun _ => rfl) (fun _ => ?_)
        obtain rfl := Option.some.inj hf
        exact J_iret hK hR qd1_146.1 () rfl (by decide) (by decide)
      · have hf := iq hc16 hf
        refine J_iload_n hK qd1_144.2.2.2.2.2.2.2.2.2.1 rfl 3 rfl rfl ?_
        refine J_iconst (v := 1) hK qd1_144.2.2.2.2.2.2.2.2.2.2.1 rfl (by decide) ?_
        refine J_bipush (v := 7) hK qd1_144.2.2.2.2.2.2.2.2.2.2.2.1 rfl (by decide) ?_
        obtain ⟨v14, e15, hf⟩ := bs hf
        refine J_callS (m := 2) (m' := 2) (ce' := 0) (sl' := 0) (gr := [gTw d h0 (h1 0) a0_kept a0_tape a0_shelves a0_choice a0_traffic x0_refused x0_isKept x0_gone x0_spent, gLd d h1 x1_lineCount x1_goodsCount x1_workCount x1_years x1_lines x1_goods x1_works x1_change x1_coin x1_knownFree x1_isKnown]) (gs' := fun _ => [gTw d h0 (h1 0) a0_kept a0_tape a0_shelves a0_choice a0_traffic x0_refused x0_isKept x0_gone x0_spent, gLd d h1 x1_lineCount x1_goodsCount x1_workCount x1_years x1_lines x1_goods x1_works x1_change x1_coin x1_knownFree x1_isKnown]) (st' := fun _ => [.int v14]) (st := []) hK qd1_144.2.2.2.2.2.2.2.2.2.2.2.2.1 cv_RX6_64 ws_yX6_within (As := [.int p3, .int (1), .int (7)]) (kX6_within _ d p3 (1) (7) e15) rfl rfl (Nat.le_of_ble_eq_true rfl) (by decide) [] [0, 1] rfl (by decide +kernel) rfl rfl [0, 1] (by decide +kernel) (fun _ => rfl) (fun _ => rfl) rfl rfl rfl (fun _ => rfl) (fun _ => ?_)
        refine J_if_eq (tg := 62) hK qd1_144.2.2.2.2.2.2.2.2.2.2.2.2.2.1 rfl rfl (fun hc26 => ?_) (fun hc26 => ?_)
        · have hf := ip hc26 hf
          refine J_aload_n hK qd1_145.2.2.2.2.2.2.2.2.2.2.2.2.2.1 rfl 0 rfl rfl ?_
          refine J_bipush (v := (-2)) hK qd1_145.2.2.2.2.2.2.2.2.2.2.2.2.2.2.1 rfl (by decide) ?_
          obtain ⟨⟨v16, g17⟩, e18, hf⟩ := bs hf
          have hf := un2 hf
          refine J_callV (m := 2) (m' := 2) (ce' := 0) (sl' := 0) (gr := [gLd d h1 x1_lineCount x1_goodsCount x1_workCount x1_years x1_lines x1_goods x1_works x1_change x1_coin x1_knownFree x1_isKnown]) (gs' := fun _ => [gTw d h0 (h1 0) a0_kept a0_tape a0_shelves a0_choice a0_traffic g17 x0_isKept x0_gone x0_spent, gLd d h1 x1_lineCount x1_goodsCount x1_workCount x1_years x1_lines x1_goods x1_works x1_change x1_coin x1_knownFree x1_isKnown]) (st' := fun _ => [.int v16]) (st := []) hK qd1_145.2.2.2.2.2.2.2.2.2.2.2.2.2.2.2.1 cv_RX6_68 iv_yX6_refuse (As := [.int (-2)]) (kX6_refuse _ d h0 (h1 0) a0_kept a0_tape a0_shelves a0_choice a0_traffic x0_refused x0_isKept x0_gone x0_spent (-2) e18) rfl rfl (Nat.le_of_ble_eq_true rfl) (by decide) 0 0 rfl rfl rfl [0] [1] rfl (by decide +kernel) rfl rfl [1, 0] (by decide +kernel) (fun _ => rfl) (fun _ => rfl) rfl rfl rfl (fun _ => rfl) (fun _ => ?_)
          obtain rfl := Option.some.inj hf
          exact J_iret hK hR qd1_146.1 () rfl (by decide) (by decide)
        · have hf := iq hc26 hf
          refine J_iload hK qd1_144.2.2.2.2.2.2.2.2.2.2.2.2.2.2.1 rfl 4 rfl ?_
          refine J_iconst (v := 1) hK qd1_144.2.2.2.2.2.2.2.2.2.2.2.2.2.2.2.1 rfl (by decide) ?_
          refine J_bipush (v := 60) hK qd1_145.1 rfl (by decide) ?_
          obtain ⟨v19, e20, hf⟩ := bs hf
          refine J_callS (m := 2) (m' := 2) (ce' := 0) (sl' := 0) (gr := [gTw d h0 (h1 0) a0_kept a0_tape a0_shelves a0_choice a0_traffic x0_refused x0_isKept x0_gone x0_spent, gLd d h1 x1_lineCount x1_goodsCount x1_workCount x1_years x1_lines x1_goods x1_works x1_change x1_coin x1_knownFree x1_isKnown]) (gs' := fun _ => [gTw d h0 (h1 0) a0_kept a0_tape a0_shelves a0_choice a0_traffic x0_refused x0_isKept x0_gone x0_spent, gLd d h1 x1_lineCount x1_goodsCount x1_workCount x1_years x1_lines x1_goods x1_works x1_change x1_coin x1_knownFree x1_isKnown]) (st' := fun _ => [.int v19]) (st := []) hK qd1_145.2.1 cv_RX6_64 ws_yX6_within (As := [.int p4, .int (1), .int (60)]) (kX6_within _ d p4 (1) (60) e20) rfl rfl (Nat.le_of_ble_eq_true rfl) (by decide) [] [0, 1] rfl (by decide +kernel) rfl rfl [0, 1] (by decide +kernel) (fun _ => rfl) (fun _ => rfl) rfl rfl rfl (fun _ => rfl) (fun _ => ?_)
          refine J_if_eq (tg := 62) hK qd1_145.2.2.1 rfl rfl (fun hc37 => ?_) (fun hc37 => ?_)
          · have hf := ip hc37 hf
            refine J_aload_n hK qd1_145.2.2.2.2.2.2.2.2.2.2.2.2.2.1 rfl 0 rfl rfl ?_
            refine J_bipush (v := (-2)) hK qd1_145.2.2.2.2.2.2.2.2.2.2.2.2.2.2.1 rfl (by decide) ?_
            obtain ⟨⟨v21, g22⟩, e23, hf⟩ := bs hf
            have hf := un2 hf
            refine J_callV (m := 2) (m' := 2) (ce' := 0) (sl' := 0) (gr := [gLd d h1 x1_lineCount x1_goodsCount x1_workCount x1_years x1_lines x1_goods x1_works x1_change x1_coin x1_knownFree x1_isKnown]) (gs' := fun _ => [gTw d h0 (h1 0) a0_kept a0_tape a0_shelves a0_choice a0_traffic g22 x0_isKept x0_gone x0_spent, gLd d h1 x1_lineCount x1_goodsCount x1_workCount x1_years x1_lines x1_goods x1_works x1_change x1_coin x1_knownFree x1_isKnown]) (st' := fun _ => [.int v21]) (st := []) hK qd1_145.2.2.2.2.2.2.2.2.2.2.2.2.2.2.2.1 cv_RX6_68 iv_yX6_refuse (As := [.int (-2)]) (kX6_refuse _ d h0 (h1 0) a0_kept a0_tape a0_shelves a0_choice a0_traffic x0_refused x0_isKept x0_gone x0_spent (-2) e23) rfl rfl (Nat.le_of_ble_eq_true rfl) (by decide) 0 0 rfl rfl rfl [0] [1] rfl (by decide +kernel) rfl rfl [1, 0] (by decide +kernel) (fun _ => rfl) (fun _ => rfl) rfl rfl rfl (fun _ => rfl) (fun _ => ?_)
            obtain rfl := Option.some.inj hf
            exact J_iret hK hR qd1_146.1 () rfl (by decide) (by decide)
          · have hf := iq hc37 hf
            refine J_iload hK qd1_145.2.2.2.1 rfl 5 rfl ?_
            refine J_iconst (v := 1) hK qd1_145.2.2.2.2.1 rfl (by decide) ?_
            refine J_sipush (v := 999) hK qd1_145.2.2.2.2.2.1 rfl (by decide) ?_
            obtain ⟨v24, e25, hf⟩ := bs hf
            refine J_callS (m := 2) (m' := 2) (ce' := 0) (sl' := 0) (gr := [gTw d h0 (h1 0) a0_kept a0_tape a0_shelves a0_choice a0_traffic x0_refused x0_isKept x0_gone x0_spent, gLd d h1 x1_lineCount x1_goodsCount x1_workCount x1_years x1_lines x1_goods x1_works x1_change x1_coin x1_knownFree x1_isKnown]) (gs' := fun _ => [gTw d h0 (h1 0) a0_kept a0_tape a0_shelves a0_choice a0_traffic x0_refused x0_isKept x0_gone x0_spent, gLd d h1 x1_lineCount x1_goodsCount x1_workCount x1_years x1_lines x1_goods x1_works x1_change x1_coin x1_knownFree x1_isKnown]) (st' := fun _ => [.int v24]) (st := []) hK qd1_145.2.2.2.2.2.2.1 cv_RX6_64 ws_yX6_within (As := [.int p5, .int (1), .int (999)]) (kX6_within _ d p5 (1) (999) e25) rfl rfl (Nat.le_of_ble_eq_true rfl) (by decide) [] [0, 1] rfl (by decide +kernel) rfl rfl [0, 1] (by decide +kernel) (fun _ => rfl) (fun _ => rfl) rfl rfl rfl (fun _ => rfl) (fun _ => ?_)
            refine J_if_eq (tg := 62) hK qd1_145.2.2.2.2.2.2.2.1 rfl rfl (fun hc49 => ?_) (fun hc49 => ?_)
            · have hf := ip hc49 hf
              refine J_aload_n hK qd1_145.2.2.2.2.2.2.2.2.2.2.2.2.2.1 rfl 0 rfl rfl ?_
              refine J_bipush (v := (-2)) hK qd1_145.2.2.2.2.2.2.2.2.2.2.2.2.2.2.1 rfl (by decide) ?_
              obtain ⟨⟨v26, g27⟩, e28, hf⟩ := bs hf
              have hf := un2 hf
              refine J_callV (m := 2) (m' := 2) (ce' := 0) (sl' := 0) (gr := [gLd d h1 x1_lineCount x1_goodsCount x1_workCount x1_years x1_lines x1_goods x1_works x1_change x1_coin x1_knownFree x1_isKnown]) (gs' := fun _ => [gTw d h0 (h1 0) a0_kept a0_tape a0_shelves a0_choice a0_traffic g27 x0_isKept x0_gone x0_spent, gLd d h1 x1_lineCount x1_goodsCount x1_workCount x1_years x1_lines x1_goods x1_works x1_change x1_coin x1_knownFree x1_isKnown]) (st' := fun _ => [.int v26]) (st := []) hK qd1_145.2.2.2.2.2.2.2.2.2.2.2.2.2.2.2.1 cv_RX6_68 iv_yX6_refuse (As := [.int (-2)]) (kX6_refuse _ d h0 (h1 0) a0_kept a0_tape a0_shelves a0_choice a0_traffic x0_refused x0_isKept x0_gone x0_spent (-2) e28) rfl rfl (Nat.le_of_ble_eq_true rfl) (by decide) 0 0 rfl rfl rfl [0] [1] rfl (by decide +kernel) rfl rfl [1, 0] (by decide +kernel) (fun _ => rfl) (fun _ => rfl) rfl rfl rfl (fun _ => rfl) (fun _ => ?_)
              obtain rfl := Option.some.inj hf
              exact J_iret hK hR qd1_146.1 () rfl (by decide) (by decide)
            · have hf := iq hc49 hf
              refine J_iload hK qd1_145.2.2.2.2.2.2.2.2.1 rfl 6 rfl ?_
              refine J_iconst (v := 0) hK qd1_145.2.2.2.2.2.2.2.2.2.1 rfl (by decide) ?_
              refine J_iconst (v := 5) hK qd1_145.2.2.2.2.2.2.2.2.2.2.1 rfl (by decide) ?_
              obtain ⟨v29, e30, hf⟩ := bs hf
              refine J_callS (m := 2) (m' := 2) (ce' := 0) (sl' := 0) (gr := [gTw d h0 (h1 0) a0_kept a0_tape a0_shelves a0_choice a0_traffic x0_refused x0_isKept x0_gone x0_spent, gLd d h1 x1_lineCount x1_goodsCount x1_workCount x1_years x1_lines x1_goods x1_works x1_change x1_coin x1_knownFree x1_isKnown]) (gs' := fun _ => [gTw d h0 (h1 0) a0_kept a0_tape a0_shelves a0_choice a0_traffic x0_refused x0_isKept x0_gone x0_spent, gLd d h1 x1_lineCount x1_goodsCount x1_workCount x1_years x1_lines x1_goods x1_works x1_change x1_coin x1_knownFree x1_isKnown]) (st' := fun _ => [.int v29]) (st := []) hK qd1_145.2.2.2.2.2.2.2.2.2.2.2.1 cv_RX6_64 ws_yX6_within (As := [.int p6, .int (0), .int (5)]) (kX6_within _ d p6 (0) (5) e30) rfl rfl (Nat.le_of_ble_eq_true rfl) (by decide) [] [0, 1] rfl (by decide +kernel) rfl rfl [0, 1] (by decide +kernel) (fun _ => rfl) (fun _ => rfl) rfl rfl rfl (fun _ => rfl) (fun _ => ?_)
              refine J_if_ne (tg := 69) hK qd1_145.2.2.2.2.2.2.2.2.2.2.2.2.1 rfl rfl (fun hc59 => ?_) (fun hc59 => ?_)
              · have hf := iq hc59 hf
                refine J_aload_n hK qd1_146.2.1 rfl 0 rfl rfl ?_
                refine J_get hK fo_RX6_12 qd1_146.2.2.1 rfl 0 0 rfl rfl rfl ?_
                refine J_get hK fo_RX6_123 qd1_146.2.2.2.1 rfl 1 0 rfl rfl rfl ?_
                refine J_bipush (v := 20) hK qd1_146.2.2.2.2.1 rfl (by decide) ?_
                refine J_icmp_lt (tg := 88) hK qd1_146.2.2.2.2.2.1 rfl rfl (fun hc78 => ?_) (fun hc78 => ?_)
                · have hf := ip hc78 hf
                  refine J_aload_n hK qd1_146.2.2.2.2.2.2.2.2.2.2.1 rfl 0 rfl rfl ?_
                  refine J_get hK fo_RX6_12 qd1_146.2.2.2.2.2.2.2.2.2.2.2.1 rfl 0 0 rfl rfl rfl ?_
                  refine J_iload_n hK qd1_146.2.2.2.2.2.2.2.2.2.2.2.2.1 rfl 1 rfl rfl ?_
                  refine J_iload_n hK qd1_146.2.2.2.2.2.2.2.2.2.2.2.2.2.1 rfl 2 rfl rfl ?_
                  refine J_iload_n hK qd1_146.2.2.2.2.2.2.2.2.2.2.2.2.2.2.1 rfl 3 rfl rfl ?_
                  refine J_iload hK qd1_146.2.2.2.2.2.2.2.2.2.2.2.2.2.2.2.1 rfl 4 rfl ?_
                  refine J_iload hK qd1_147.1 rfl 5 rfl ?_
                  refine J_iload hK qd1_147.2.1 rfl 6 rfl ?_
                  obtain ⟨⟨g31, g32, g33⟩, e34, hf⟩ := bs hf
                  have hf := un3 hf
                  refine J_callV (m := 2) (m' := 2) (ce' := 0) (sl' := 0) (gr := [gTw d h0 (h1 0) a0_kept a0_tape a0_shelves a0_choice a0_traffic x0_refused x0_isKept x0_gone x0_spent]) (gs' := fun _ => [gTw d h0 (h1 0) a0_kept a0_tape a0_shelves a0_choice a0_traffic x0_refused x0_isKept x0_gone x0_spent, gLd d h1 g31 x1_goodsCount x1_workCount x1_years g32 x1_goods x1_works x1_change x1_coin x1_knownFree g33]) (st' := fun _ => []) (st := []) hK qd1_147.2.2.1 cv_RX6_126 iv_yX1_addLine (As := [.int p1, .int p2, .int p3, .int p4, .int p5, .int p6]) (kX1_addLine _ d h1 x1_lineCount x1_goodsCount x1_workCount x1_years x1_lines x1_goods x1_works x1_change x1_coin x1_knownFree x1_isKnown p1 p2 p3 p4 p5 p6 e34) rfl rfl (Nat.le_of_ble_eq_true rfl) (by decide) 1 0 rfl rfl rfl [1] [0] rfl (by decide +kernel) rfl rfl [0, 1] (by decide +kernel) (fun _ => rfl) (fun _ => rfl) rfl rfl rfl (fun _ => rfl) (fun _ => ?_)
                  refine J_aload_n hK qd1_147.2.2.2.1 rfl 0 rfl rfl ?_
                  refine J_get hK fo_RX6_12 qd1_147.2.2.2.2.1 rfl 0 0 rfl rfl rfl ?_
                  refine J_get hK fo_RX6_123 qd1_147.2.2.2.2.2.1 rfl 1 0 rfl rfl rfl ?_
                  refine J_iconst (v := 1) hK qd1_147.2.2.2.2.2.2.1 rfl (by decide) ?_
                  refine J_isub hK qd1_147.2.2.2.2.2.2.2.1 rfl ?_
                  obtain rfl := Option.some.inj hf
                  exact J_iret hK hR qd1_147.2.2.2.2.2.2.2.2.1 () rfl (by decide) (by decide)
                · have hf := iq hc78 hf
                  refine J_aload_n hK qd1_146.2.2.2.2.2.2.1 rfl 0 rfl rfl ?_
                  refine J_bipush (v := (-6)) hK qd1_146.2.2.2.2.2.2.2.1 rfl (by decide) ?_
                  obtain ⟨⟨v35, g36⟩, e37, hf⟩ := bs hf
                  have hf := un2 hf
                  refine J_callV (m := 2) (m' := 2) (ce' := 0) (sl' := 0) (gr := [gLd d h1 x1_lineCount x1_goodsCount x1_workCount x1_years x1_lines x1_goods x1_works x1_change x1_coin x1_knownFree x1_isKnown]) (gs' := fun _ => [gTw d h0 (h1 0) a0_kept a0_tape a0_shelves a0_choice a0_traffic g36 x0_isKept x0_gone x0_spent, gLd d h1 x1_lineCount x1_goodsCount x1_workCount x1_years x1_lines x1_goods x1_works x1_change x1_coin x1_knownFree x1_isKnown]) (st' := fun _ => [.int v35]) (st := []) hK qd1_146.2.2.2.2.2.2.2.2.1 cv_RX6_68 iv_yX6_refuse (As := [.int (-6)]) (kX6_refuse _ d h0 (h1 0) a0_kept a0_tape a0_shelves a0_choice a0_traffic x0_refused x0_isKept x0_gone x0_spent (-6) e37) rfl rfl (Nat.le_of_ble_eq_true rfl) (by decide) 0 0 rfl rfl rfl [0] [1] rfl (by decide +kernel) rfl rfl [1, 0] (by decide +kernel) (fun _ => rfl) (fun _ => rfl) rfl rfl rfl (fun _ => rfl) (fun _ => ?_)
                  obtain rfl := Option.some.inj hf
                  exact J_iret hK hR qd1_146.2.2.2.2.2.2.2.2.2.1 () rfl (by decide) (by decide)
              · have hf := ip hc59 hf
                refine J_aload_n hK qd1_145.2.2.2.2.2.2.2.2.2.2.2.2.2.1 rfl 0 rfl rfl ?_
                refine J_bipush (v := (-2)) hK qd1_145.2.2.2.2.2.2.2.2.2.2.2.2.2.2.1 rfl (by decide) ?_
                obtain ⟨⟨v38, g39⟩, e40, hf⟩ := bs hf
                have hf := un2 hf
                refine J_callV (m := 2) (m' := 2) (ce' := 0) (sl' := 0) (gr := [gLd d h1 x1_lineCount x1_goodsCount x1_workCount x1_years x1_lines x1_goods x1_works x1_change x1_coin x1_knownFree x1_isKnown]) (gs' := fun _ => [gTw d h0 (h1 0) a0_kept a0_tape a0_shelves a0_choice a0_traffic g39 x0_isKept x0_gone x0_spent, gLd d h1 x1_lineCount x1_goodsCount x1_workCount x1_years x1_lines x1_goods x1_works x1_change x1_coin x1_knownFree x1_isKnown]) (st' := fun _ => [.int v38]) (st := []) hK qd1_145.2.2.2.2.2.2.2.2.2.2.2.2.2.2.2.1 cv_RX6_68 iv_yX6_refuse (As := [.int (-2)]) (kX6_refuse _ d h0 (h1 0) a0_kept a0_tape a0_shelves a0_choice a0_traffic x0_refused x0_isKept x0_gone x0_spent (-2) e40) rfl rfl (Nat.le_of_ble_eq_true rfl) (by decide) 0 0 rfl rfl rfl [0] [1] rfl (by decide +kernel) rfl rfl [1, 0] (by decide +kernel) (fun _ => rfl) (fun _ => rfl) rfl rfl rfl (fun _ => rfl) (fun _ => ?_)
                obtain rfl := Option.some.inj hf
                exact J_iret hK hR qd1_146.1 () rfl (by decide) (by decide)

def fX6_goods (X0 : TwT) (X1 : LdT) (p1 : Int32) (p2 : Int32) (p3 : Int32) : Option (Int32 × (Nat → Int32) × Int32 × (Nat → Int32) × Int32) :=
  u4 (fun (x0_refused : (Nat → Int32)) (x0_isKept : Int32) (x0_gone : Int32) (x0_spent : Int32) => u11 (fun (x1_lineCount : Int32) (x1_goodsCount : Int32) (x1_workCount : Int32) (x1_years : Int32) (x1_lines : (Nat → Int32)) (x1_goods : (Nat → Int32)) (x1_works : (Nat → Int32)) (x1_change : (Nat → Int32)) (x1_coin : (Nat → Int32)) (x1_knownFree : (Nat → Int32)) (x1_isKnown : Int32) => (fX6_isPlace p1).bind (fun v1 => if v1 = 0 then ((fX6_refuse (x0_refused, x0_isKept, x0_gone, x0_spent) (-2)).bind (u2 fun v3 g4 => some (v3, g4, x1_goodsCount, x1_goods, x1_isKnown))) else ((fX6_isPlace p2).bind (fun v6 => if v6 = 0 then ((fX6_refuse (x0_refused, x0_isKept, x0_gone, x0_spent) (-2)).bind (u2 fun v8 g9 => some (v8, g9, x1_goodsCount, x1_goods, x1_isKnown))) else (if p1 = p2 then ((fX6_refuse (x0_refused, x0_isKept, x0_gone, x0_spent) (-2)).bind (u2 fun v11 g12 => some (v11, g12, x1_goodsCount, x1_goods, x1_isKnown))) else ((fX6_within p3 (1) (99)).bind (fun v14 => if v14 = 0 then ((fX6_refuse (x0_refused, x0_isKept, x0_gone, x0_spent) (-2)).bind (u2 fun v23 g24 => some (v23, g24, x1_goodsCount, x1_goods, x1_isKnown))) else (if x1_goodsCount < 8 then ((fX1_addGoods (x1_lineCount, x1_goodsCount, x1_workCount, x1_years, x1_lines, x1_goods, x1_works, x1_change, x1_coin, x1_knownFree, x1_isKnown) p1 p2 p3).bind (u3 fun g16 g17 g18 => some ((g16 - 1), x0_refused, g16, g17, g18))) else ((fX6_refuse (x0_refused, x0_isKept, x0_gone, x0_spent) (-6)).bind (u2 fun v20 g21 => some (v20, g21, x1_goodsCount, x1_goods, x1_isKnown))))))))))) X1) X0
set_option maxHeartbeats 4000000 in
set_option maxRecDepth 100000 in
theorem kX6_goods (l : Launch) (d : DT) (h0 : Nat → Nat) (a0_kept : Nat) (a0_tape : Nat) (a0_shelves : Nat) (a0_choice : Nat) (a0_traffic : Nat) (h1 : Nat → Nat) (x0_refused : (Nat → Int32)) (x0_isKept : Int32) (x0_gone : Int32) (x0_spent : Int32) (x1_lineCount : Int32) (x1_goodsCount : Int32) (x1_workCount : Int32) (x1_years : Int32) (x1_lines : (Nat → Int32)) (x1_goods : (Nat → Int32)) (x1_works : (Nat → Int32)) (x1_change : (Nat → Int32)) (x1_coin : (Nat → Int32)) (x1_knownFree : (Nat → Int32)) (x1_isKnown : Int32) (p1 : Int32) (p2 : Int32) (p3 : Int32)  {out : Int32 × (Nat → Int32) × Int32 × (Nat → Int32) × Int32} (hf : fX6_goods (x0_refused, x0_isKept, x0_gone, x0_spent) (x1_lineCount, x1_goodsCount, x1_workCount, x1_years, x1_lines, x1_goods, x1_works, x1_change, x1_coin, x1_knownFree, x1_isKnown) p1 p2 p3 = some out) : Ct l d yX6_goods cX6_goods 4 (some .int) { frames := 2, cells := 0, slots := 0, locals := 43 } [.ref (h0 0), .int p1, .int p2, .int p3] [gTw d h0 (h1 0) a0_kept a0_tape a0_shelves a0_choice a0_traffic x0_refused x0_isKept x0_gone x0_spent, gLd d h1 x1_lineCount x1_goodsCount x1_workCount x1_years x1_lines x1_goods x1_works x1_change x1_coin x1_knownFree x1_isKnown] (fun _ : Unit => (some (.int out.1), [gTw d h0 (h1 0) a0_kept a0_tape a0_shelves a0_choice a0_traffic (out.2.1) x0_isKept x0_gone x0_spent, gLd d h1 x1_lineCount (out.2.2.1) x1_workCount x1_years x1_lines (out.2.2.2.1) x1_works x1_change x1_coin x1_knownFree (out.2.2.2.2)])) := by
  refine Ct.of (by decide) (Nat.le_of_ble_eq_true rfl) ?_
  intro Φ hl hK hR
  subst hl
  have hK : Ok d Φ RX6 "goods" cX6_goods 4 (some .int) { frames := 2, cells := 0, slots := 0, locals := 43 } := hK
  unfold fX6_goods at hf
  have hf := un4 hf
  have hf := un11 hf
  show J d Φ 4 [gTw d h0 (h1 0) a0_kept a0_tape a0_shelves a0_choice a0_traffic x0_refused x0_isKept x0_gone x0_spent, gLd d h1 x1_lineCount x1_goodsCount x1_workCount x1_years x1_lines x1_goods x1_works x1_change x1_coin x1_knownFree x1_isKnown] 0 0 0 [(0, .ref (h0 0)), (1, .int p1), (2, .int p2), (3, .int p3)] []
  refine J_iload_n hK qd2_0.1 rfl 1 rfl rfl ?_
  obtain ⟨v1, e2, hf⟩ := bs hf
  refine J_callS (m := 2) (m' := 2) (ce' := 0) (sl' := 0) (gr := [gTw d h0 (h1 0) a0_kept a0_tape a0_shelves a0_choice a0_traffic x0_refused x0_isKept x0_gone x0_spent, gLd d h1 x1_lineCount x1_goodsCount x1_workCount x1_years x1_lines x1_goods x1_works x1_change x1_coin x1_knownFree x1_isKnown]) (gs' := fun _ => [gTw d h0 (h1 0) a0_kept a0_tape a0_shelves a0_choice a0_traffic x0_refused x0_isKept x0_gone x0_spent, gLd d h1 x1_lineCount x1_goodsCount x1_workCount x1_years x1_lines x1_goods x1_works x1_change x1_coin x1_knownFree x1_isKnown]) (st' := fun _ => [.int v1]) (st := []) hK qd2_0.2.1 cv_RX6_120 ws_yX6_isPlace (As := [.int p1]) (kX6_isPlace _ d p1 e2) rfl rfl (Nat.le_of_ble_eq_true rfl) (by decide) [] [0, 1] rfl (by decide +kernel) rfl rfl [0, 1] (by decide +kernel) (fun _ => rfl) (fun _ => rfl) rfl rfl rfl (fun _ => rfl) (fun _ => ?_)
  refine J_if_eq (tg := 29) hK qd2_0.2.2.1 rfl rfl (fun hc4 => ?_) (fun hc4 => ?_)
  · have hf := ip hc4 hf
    refine J_aload_n hK qd2_0.2.2.2.2.2.2.2.2.2.2.2.2.2.2.1 rfl 0 rfl rfl ?_
    refine J_bipush (v := (-2)) hK qd2_0.2.2.2.2.2.2.2.2.2.2.2.2.2.2.2.1 rfl (by decide) ?_
    obtain ⟨⟨v3, g4⟩, e5, hf⟩ := bs hf
    have hf := un2 hf
    refine J_callV (m := 2) (m' := 2) (ce' := 0) (sl' := 0) (gr := [gLd d h1 x1_lineCount x1_goodsCount x1_workCount x1_years x1_lines x1_goods x1_works x1_change x1_coin x1_knownFree x1_isKnown]) (gs' := fun _ => [gTw d h0 (h1 0) a0_kept a0_tape a0_shelves a0_choice a0_traffic g4 x0_isKept x0_gone x0_spent, gLd d h1 x1_lineCount x1_goodsCount x1_workCount x1_years x1_lines x1_goods x1_works x1_change x1_coin x1_knownFree x1_isKnown]) (st' := fun _ => [.int v3]) (st := []) hK qd2_1.1 cv_RX6_68 iv_yX6_refuse (As := [.int (-2)]) (kX6_refuse _ d h0 (h1 0) a0_kept a0_tape a0_shelves a0_choice a0_traffic x0_refused x0_isKept x0_gone x0_spent (-2) e5) rfl rfl (Nat.le_of_ble_eq_true rfl) (by decide) 0 0 rfl rfl rfl [0] [1] rfl (by decide +kernel) rfl rfl [1, 0] (by decide +kernel) (fun _ => rfl) (fun _ => rfl) rfl rfl rfl (fun _ => rfl) (fun _ => ?_)
    obtain rfl := Option.some.inj hf
    exact J_iret hK hR qd2_1.2.1 () rfl (by decide) (by decide)
  · have hf := iq hc4 hf
    refine J_iload_n hK qd2_0.2.2.2.1 rfl 2 rfl rfl ?_
    obtain ⟨v6, e7, hf⟩ := bs hf
    refine J_callS (m := 2) (m' := 2) (ce' := 0) (sl' := 0) (gr := [gTw d h0 (h1 0) a0_kept a0_tape a0_shelves a0_choice a0_traffic x0_refused x0_isKept x0_gone x0_spent, gLd d h1 x1_lineCount x1_goodsCount x1_workCount x1_years x1_lines x1_goods x1_works x1_change x1_coin x1_knownFree x1_isKnown]) (gs' := fun _ => [gTw d h0 (h1 0) a0_kept a0_tape a0_shelves a0_choice a0_traffic x0_refused x0_isKept x0_gone x0_spent, gLd d h1 x1_lineCount x1_goodsCount x1_workCount x1_years x1_lines x1_goods x1_works x1_change x1_coin x1_knownFree x1_isKnown]) (st' := fun _ => [.int v6]) (st := []) hK qd2_0.2.2.2.2.1 cv_RX6_120 ws_yX6_isPlace (As := [.int p2]) (kX6_isPlace _ d p2 e7) rfl rfl (Nat.le_of_ble_eq_true rfl) (by decide) [] [0, 1] rfl (by decide +kernel) rfl rfl [0, 1] (by decide +kernel) (fun _ => rfl) (fun _ => rfl) rfl rfl rfl (fun _ => rfl) (fun _ => ?_)
    refine J_if_eq (tg := 29) hK qd2_0.2.2.2.2.2.1 rfl rfl (fun hc11 => ?_) (fun hc11 => ?_)
    · have hf := ip hc11 hf
      refine J_aload_n hK qd2_0.2.2.2.2.2.2.2.2.2.2.2.2.2.2.1 rfl 0 rfl rfl ?_
      refine J_bipush (v := (-2)) hK qd2_0.2.2.2.2.2.2.2.2.2.2.2.2.2.2.2.1 rfl (by decide) ?_
      obtain ⟨⟨v8, g9⟩, e10, hf⟩ := bs hf
      have hf := un2 hf
      refine J_callV (m := 2) (m' := 2) (ce' := 0) (sl' := 0) (gr := [gLd d h1 x1_lineCount x1_goodsCount x1_workCount x1_years x1_lines x1_goods x1_works x1_change x1_coin x1_knownFree x1_isKnown]) (gs' := fun _ => [gTw d h0 (h1 0) a0_kept a0_tape a0_shelves a0_choice a0_traffic g9 x0_isKept x0_gone x0_spent, gLd d h1 x1_lineCount x1_goodsCount x1_workCount x1_years x1_lines x1_goods x1_works x1_change x1_coin x1_knownFree x1_isKnown]) (st' := fun _ => [.int v8]) (st := []) hK qd2_1.1 cv_RX6_68 iv_yX6_refuse (As := [.int (-2)]) (kX6_refuse _ d h0 (h1 0) a0_kept a0_tape a0_shelves a0_choice a0_traffic x0_refused x0_isKept x0_gone x0_spent (-2) e10) rfl rfl (Nat.le_of_ble_eq_true rfl) (by decide) 0 0 rfl rfl rfl [0] [1] rfl (by decide +kernel) rfl rfl [1, 0] (by decide +kernel) (fun _ => rfl) (fun _ => rfl) rfl rfl rfl (fun _ => rfl) (fun _ => ?_)
      obtain rfl := Option.some.inj hf
      exact J_iret hK hR qd2_1.2.1 () rfl (by decide) (by decide)
    · have hf := iq hc11 hf
      refine J_iload_n hK qd2_0.2.2.2.2.2.2.1 rfl 1 rfl rfl ?_
      refine J_iload_n hK qd2_0.2.2.2.2.2.2.2.1 rfl 2 rfl rfl ?_
      refine J_icmp_eq (tg := 29) hK qd2_0.2.2.2.2.2.2.2.2.1 rfl rfl (fun hc16 => ?_) (fun hc16 => ?_)
      · have hf := ip hc16 hf
        refine J_aload_n hK qd2_0.2.2.2.2.2.2.2.2.2.2.2.2.2.2.1 rfl 0 rfl rfl ?_
        refine J_bipush (v := (-2)) hK qd2_0.2.2.2.2.2.2.2.2.2.2.2.2.2.2.2.1 rfl (by decide) ?_
        obtain ⟨⟨v11, g12⟩, e13, hf⟩ := bs hf
        have hf := un2 hf
        refine J_callV (m := 2) (m' := 2) (ce' := 0) (sl' := 0) (gr := [gLd d h1 x1_lineCount x1_goodsCount x1_workCount x1_years x1_lines x1_goods x1_works x1_change x1_coin x1_knownFree x1_isKnown]) (gs' := fun _ => [gTw d h0 (h1 0) a0_kept a0_tape a0_shelves a0_choice a0_traffic g12 x0_isKept x0_gone x0_spent, gLd d h1 x1_lineCount x1_goodsCount x1_workCount x1_years x1_lines x1_goods x1_works x1_change x1_coin x1_knownFree x1_isKnown]) (st' := fun _ => [.int v11]) (st := []) hK qd2_1.1 cv_RX6_68 iv_yX6_refuse (As := [.int (-2)]) (kX6_refuse _ d h0 (h1 0) a0_kept a0_tape a0_shelves a0_choice a0_traffic x0_refused x0_isKept x0_gone x0_spent (-2) e13) rfl rfl (Nat.le_of_ble_eq_true rfl) (by decide) 0 0 rfl rfl rfl [0] [1] rfl (by decide +kernel) rfl rfl [1, 0] (by decide +kernel) (fun _ => rfl) (fun _ => rfl) rfl rfl rfl (fun _ => rfl) (fun _ => ?_)
        obtain rfl := Option.some.inj hf
        exact J_iret hK hR qd2_1.2.1 () rfl (by decide) (by decide)
      · have hf := iq hc16 hf
        refine J_iload_n hK qd2_0.2.2.2.2.2.2.2.2.2.1 rfl 3 rfl rfl ?_
        refine J_iconst (v := 1) hK qd2_0.2.2.2.2.2.2.2.2.2.2.1 rfl (by decide) ?_
        refine J_bipush (v := 99) hK qd2_0.2.2.2.2.2.2.2.2.2.2.2.1 rfl (by decide) ?_
        obtain ⟨v14, e15, hf⟩ := bs hf
        refine J_callS (m := 2) (m' := 2) (ce' := 0) (sl' := 0) (gr := [gTw d h0 (h1 0) a0_kept a0_tape a0_shelves a0_choice a0_traffic x0_refused x0_isKept x0_gone x0_spent, gLd d h1 x1_lineCount x1_goodsCount x1_workCount x1_years x1_lines x1_goods x1_works x1_change x1_coin x1_knownFree x1_isKnown]) (gs' := fun _ => [gTw d h0 (h1 0) a0_kept a0_tape a0_shelves a0_choice a0_traffic x0_refused x0_isKept x0_gone x0_spent, gLd d h1 x1_lineCount x1_goodsCount x1_workCount x1_years x1_lines x1_goods x1_works x1_change x1_coin x1_knownFree x1_isKnown]) (st' := fun _ => [.int v14]) (st := []) hK qd2_0.2.2.2.2.2.2.2.2.2.2.2.2.1 cv_RX6_64 ws_yX6_within (As := [.int p3, .int (1), .int (99)]) (kX6_within _ d p3 (1) (99) e15) rfl rfl (Nat.le_of_ble_eq_true rfl) (by decide) [] [0, 1] rfl (by decide +kernel) rfl rfl [0, 1] (by decide +kernel) (fun _ => rfl) (fun _ => rfl) rfl rfl rfl (fun _ => rfl) (fun _ => ?_)
        refine J_if_ne (tg := 36) hK qd2_0.2.2.2.2.2.2.2.2.2.2.2.2.2.1 rfl rfl (fun hc26 => ?_) (fun hc26 => ?_)
        · have hf := iq hc26 hf
          refine J_aload_n hK qd2_1.2.2.1 rfl 0 rfl rfl ?_
          refine J_get hK fo_RX6_12 qd2_1.2.2.2.1 rfl 0 0 rfl rfl rfl ?_
          refine J_get hK fo_RX6_130 qd2_1.2.2.2.2.1 rfl 1 0 rfl rfl rfl ?_
          refine J_bipush (v := 8) hK qd2_1.2.2.2.2.2.1 rfl (by decide) ?_
          refine J_icmp_lt (tg := 55) hK qd2_1.2.2.2.2.2.2.1 rfl rfl (fun hc45 => ?_) (fun hc45 => ?_)
          · have hf := ip hc45 hf
            refine J_aload_n hK qd2_1.2.2.2.2.2.2.2.2.2.2.2.1 rfl 0 rfl rfl ?_
            refine J_get hK fo_RX6_12 qd2_1.2.2.2.2.2.2.2.2.2.2.2.2.1 rfl 0 0 rfl rfl rfl ?_
            refine J_iload_n hK qd2_1.2.2.2.2.2.2.2.2.2.2.2.2.2.1 rfl 1 rfl rfl ?_
            refine J_iload_n hK qd2_1.2.2.2.2.2.2.2.2.2.2.2.2.2.2.1 rfl 2 rfl rfl ?_
            refine J_iload_n hK qd2_1.2.2.2.2.2.2.2.2.2.2.2.2.2.2.2.1 rfl 3 rfl rfl ?_
            obtain ⟨⟨g16, g17, g18⟩, e19, hf⟩ := bs hf
            have hf := un3 hf
            refine J_callV (m := 2) (m' := 2) (ce' := 0) (sl' := 0) (gr := [gTw d h0 (h1 0) a0_kept a0_tape a0_shelves a0_choice a0_traffic x0_refused x0_isKept x0_gone x0_spent]) (gs' := fun _ => [gTw d h0 (h1 0) a0_kept a0_tape a0_shelves a0_choice a0_traffic x0_refused x0_isKept x0_gone x0_spent, gLd d h1 x1_lineCount g16 x1_workCount x1_years x1_lines g17 x1_works x1_change x1_coin x1_knownFree g18]) (st' := fun _ => []) (st := []) hK qd2_2.1 cv_RX6_133 iv_yX1_addGoods (As := [.int p1, .int p2, .int p3]) (kX1_addGoods _ d h1 x1_lineCount x1_goodsCount x1_workCount x1_years x1_lines x1_goods x1_works x1_change x1_coin x1_knownFree x1_isKnown p1 p2 p3 e19) rfl rfl (Nat.le_of_ble_eq_true rfl) (by decide) 1 0 rfl rfl rfl [1] [0] rfl (by decide +kernel) rfl rfl [0, 1] (by decide +kernel) (fun _ => rfl) (fun _ => rfl) rfl rfl rfl (fun _ => rfl) (fun _ => ?_)
            refine J_aload_n hK qd2_2.2.1 rfl 0 rfl rfl ?_
            refine J_get hK fo_RX6_12 qd2_2.2.2.1 rfl 0 0 rfl rfl rfl ?_
            refine J_get hK fo_RX6_130 qd2_2.2.2.2.1 rfl 1 0 rfl rfl rfl ?_
            refine J_iconst (v := 1) hK qd2_2.2.2.2.2.1 rfl (by decide) ?_
            refine J_isub hK qd2_2.2.2.2.2.2.1 rfl ?_
            obtain rfl := Option.some.inj hf
            exact J_iret hK hR qd2_2.2.2.2.2.2.2.1 () rfl (by decide) (by decide)
          · have hf := iq hc45 hf
            refine J_aload_n hK qd2_1.2.2.2.2.2.2.2.1 rfl 0 rfl rfl ?_
            refine J_bipush (v := (-6)) hK qd2_1.2.2.2.2.2.2.2.2.1 rfl (by decide) ?_
            obtain ⟨⟨v20, g21⟩, e22, hf⟩ := bs hf
            have hf := un2 hf
            refine J_callV (m := 2) (m' := 2) (ce' := 0) (sl' := 0) (gr := [gLd d h1 x1_lineCount x1_goodsCount x1_workCount x1_years x1_lines x1_goods x1_works x1_change x1_coin x1_knownFree x1_isKnown]) (gs' := fun _ => [gTw d h0 (h1 0) a0_kept a0_tape a0_shelves a0_choice a0_traffic g21 x0_isKept x0_gone x0_spent, gLd d h1 x1_lineCount x1_goodsCount x1_workCount x1_years x1_lines x1_goods x1_works x1_change x1_coin x1_knownFree x1_isKnown]) (st' := fun _ => [.int v20]) (st := []) hK qd2_1.2.2.2.2.2.2.2.2.2.1 cv_RX6_68 iv_yX6_refuse (As := [.int (-6)]) (kX6_refuse _ d h0 (h1 0) a0_kept a0_tape a0_shelves a0_choice a0_traffic x0_refused x0_isKept x0_gone x0_spent (-6) e22) rfl rfl (Nat.le_of_ble_eq_true rfl) (by decide) 0 0 rfl rfl rfl [0] [1] rfl (by decide +kernel) rfl rfl [1, 0] (by decide +kernel) (fun _ => rfl) (fun _ => rfl) rfl rfl rfl (fun _ => rfl) (fun _ => ?_)
            obtain rfl := Option.some.inj hf
            exact J_iret hK hR qd2_1.2.2.2.2.2.2.2.2.2.2.1 () rfl (by decide) (by decide)
        · have hf := ip hc26 hf
          refine J_aload_n hK qd2_0.2.2.2.2.2.2.2.2.2.2.2.2.2.2.1 rfl 0 rfl rfl ?_
          refine J_bipush (v := (-2)) hK qd2_0.2.2.2.2.2.2.2.2.2.2.2.2.2.2.2.1 rfl (by decide) ?_
          obtain ⟨⟨v23, g24⟩, e25, hf⟩ := bs hf
          have hf := un2 hf
          refine J_callV (m := 2) (m' := 2) (ce' := 0) (sl' := 0) (gr := [gLd d h1 x1_lineCount x1_goodsCount x1_workCount x1_years x1_lines x1_goods x1_works x1_change x1_coin x1_knownFree x1_isKnown]) (gs' := fun _ => [gTw d h0 (h1 0) a0_kept a0_tape a0_shelves a0_choice a0_traffic g24 x0_isKept x0_gone x0_spent, gLd d h1 x1_lineCount x1_goodsCount x1_workCount x1_years x1_lines x1_goods x1_works x1_change x1_coin x1_knownFree x1_isKnown]) (st' := fun _ => [.int v23]) (st := []) hK qd2_1.1 cv_RX6_68 iv_yX6_refuse (As := [.int (-2)]) (kX6_refuse _ d h0 (h1 0) a0_kept a0_tape a0_shelves a0_choice a0_traffic x0_refused x0_isKept x0_gone x0_spent (-2) e25) rfl rfl (Nat.le_of_ble_eq_true rfl) (by decide) 0 0 rfl rfl rfl [0] [1] rfl (by decide +kernel) rfl rfl [1, 0] (by decide +kernel) (fun _ => rfl) (fun _ => rfl) rfl rfl rfl (fun _ => rfl) (fun _ => ?_)
          obtain rfl := Option.some.inj hf
          exact J_iret hK hR qd2_1.2.1 () rfl (by decide) (by decide)

def fX6_work (n : Nat) (X0 : TwT) (X1 : LdT) (p1 : Int32) (p2 : Int32) (p3 : Int32) (p4 : Int32) : Option (Int32 × (Nat → Int32) × Int32 × (Nat → Int32) × Int32) :=
  u4 (fun (x0_refused : (Nat → Int32)) (x0_isKept : Int32) (x0_gone : Int32) (x0_spent : Int32) => u11 (fun (x1_lineCount : Int32) (x1_goodsCount : Int32) (x1_workCount : Int32) (x1_years : Int32) (x1_lines : (Nat → Int32)) (x1_goods : (Nat → Int32)) (x1_works : (Nat → Int32)) (x1_change : (Nat → Int32)) (x1_coin : (Nat → Int32)) (x1_knownFree : (Nat → Int32)) (x1_isKnown : Int32) => (fX1_allowsWork n (x1_lineCount, x1_goodsCount, x1_workCount, x1_years, x1_lines, x1_goods, x1_works, x1_change, x1_coin, x1_knownFree, x1_isKnown) p1 p2 p3).bind (fun v1 => if v1 = 0 then ((fX6_refuse (x0_refused, x0_isKept, x0_gone, x0_spent) (-2)).bind (u2 fun v3 g4 => some (v3, g4, x1_workCount, x1_works, x1_isKnown))) else ((fX6_within p4 (0) (9999)).bind (fun v6 => if v6 = 0 then ((fX6_refuse (x0_refused, x0_isKept, x0_gone, x0_spent) (-2)).bind (u2 fun v15 g16 => some (v15, g16, x1_workCount, x1_works, x1_isKnown))) else (if x1_workCount < 7 then ((fX1_addWork (x1_lineCount, x1_goodsCount, x1_workCount, x1_years, x1_lines, x1_goods, x1_works, x1_change, x1_coin, x1_knownFree, x1_isKnown) p1 p2 p3 p4).bind (u3 fun g8 g9 g10 => some ((g8 - 1), x0_refused, g8, g9, g10))) else ((fX6_refuse (x0_refused, x0_isKept, x0_gone, x0_spent) (-6)).bind (u2 fun v12 g13 => some (v12, g13, x1_workCount, x1_works, x1_isKnown)))))))) X1) X0
set_option maxHeartbeats 4000000 in
set_option maxRecDepth 100000 in
theorem kX6_work (l : Launch) (d : DT) (h0 : Nat → Nat) (a0_kept : Nat) (a0_tape : Nat) (a0_shelves : Nat) (a0_choice : Nat) (a0_traffic : Nat) (h1 : Nat → Nat) (n : Nat) (x0_refused : (Nat → Int32)) (x0_isKept : Int32) (x0_gone : Int32) (x0_spent : Int32) (x1_lineCount : Int32) (x1_goodsCount : Int32) (x1_workCount : Int32) (x1_years : Int32) (x1_lines : (Nat → Int32)) (x1_goods : (Nat → Int32)) (x1_works : (Nat → Int32)) (x1_change : (Nat → Int32)) (x1_coin : (Nat → Int32)) (x1_knownFree : (Nat → Int32)) (x1_isKnown : Int32) (p1 : Int32) (p2 : Int32) (p3 : Int32) (p4 : Int32)  {out : Int32 × (Nat → Int32) × Int32 × (Nat → Int32) × Int32} (hf : fX6_work n (x0_refused, x0_isKept, x0_gone, x0_spent) (x1_lineCount, x1_goodsCount, x1_workCount, x1_years, x1_lines, x1_goods, x1_works, x1_change, x1_coin, x1_knownFree, x1_isKnown) p1 p2 p3 p4 = some out) : Ct l d yX6_work cX6_work 5 (some .int) { frames := 3, cells := 0, slots := 0, locals := 68 } [.ref (h0 0), .int p1, .int p2, .int p3, .int p4] [gTw d h0 (h1 0) a0_kept a0_tape a0_shelves a0_choice a0_traffic x0_refused x0_isKept x0_gone x0_spent, gLd d h1 x1_lineCount x1_goodsCount x1_workCount x1_years x1_lines x1_goods x1_works x1_change x1_coin x1_knownFree x1_isKnown] (fun _ : Unit => (some (.int out.1), [gTw d h0 (h1 0) a0_kept a0_tape a0_shelves a0_choice a0_traffic (out.2.1) x0_isKept x0_gone x0_spent, gLd d h1 x1_lineCount x1_goodsCount (out.2.2.1) x1_years x1_lines x1_goods (out.2.2.2.1) x1_change x1_coin x1_knownFree (out.2.2.2.2)])) := by
  refine Ct.of (by decide) (Nat.le_of_ble_eq_true rfl) ?_
  intro Φ hl hK hR
  subst hl
  have hK : Ok d Φ RX6 "work" cX6_work 5 (some .int) { frames := 3, cells := 0, slots := 0, locals := 68 } := hK
  unfold fX6_work at hf
  have hf := un4 hf
  have hf := un11 hf
  show J d Φ 5 [gTw d h0 (h1 0) a0_kept a0_tape a0_shelves a0_choice a0_traffic x0_refused x0_isKept x0_gone x0_spent, gLd d h1 x1_lineCount x1_goodsCount x1_workCount x1_years x1_lines x1_goods x1_works x1_change x1_coin x1_knownFree x1_isKnown] 0 0 0 [(0, .ref (h0 0)), (1, .int p1), (2, .int p2), (3, .int p3), (4, .int p4)] []
  refine J_aload_n hK qd2_3.1 rfl 0 rfl rfl ?_
  refine J_get hK fo_RX6_12 qd2_3.2.1 rfl 0 0 rfl rfl rfl ?_
  refine J_iload_n hK qd2_3.2.2.1 rfl 1 rfl rfl ?_
  refine J_iload_n hK qd2_3.2.2.2.1 rfl 2 rfl rfl ?_
  refine J_iload_n hK qd2_3.2.2.2.2.1 rfl 3 rfl rfl ?_
  obtain ⟨v1, e2, hf⟩ := bs hf
  refine J_callV (m := 2) (m' := 2) (ce' := 0) (sl' := 0) (gr := [gTw d h0 (h1 0) a0_kept a0_tape a0_shelves a0_choice a0_traffic x0_refused x0_isKept x0_gone x0_spent]) (gs' := fun _ => [gTw d h0 (h1 0) a0_kept a0_tape a0_shelves a0_choice a0_traffic x0_refused x0_isKept x0_gone x0_spent, gLd d h1 x1_lineCount x1_goodsCount x1_workCount x1_years x1_lines x1_goods x1_works x1_change x1_coin x1_knownFree x1_isKnown]) (st' := fun _ => [.int v1]) (st := []) hK qd2_3.2.2.2.2.2.1 cv_RX6_136 iv_yX1_allowsWork (As := [.int p1, .int p2, .int p3]) (kX1_allowsWork _ d h1 n x1_lineCount x1_goodsCount x1_workCount x1_years x1_lines x1_goods x1_works x1_change x1_coin x1_knownFree x1_isKnown p1 p2 p3 e2) rfl rfl (Nat.le_of_ble_eq_true rfl) (by decide) 1 0 rfl rfl rfl [1] [0] rfl (by decide +kernel) rfl rfl [0, 1] (by decide +kernel) (fun _ => rfl) (fun _ => rfl) rfl rfl rfl (fun _ => rfl) (fun _ => ?_)
  refine J_if_eq (tg := 25) hK qd2_3.2.2.2.2.2.2.1 rfl rfl (fun hc10 => ?_) (fun hc10 => ?_)
  · have hf := ip hc10 hf
    refine J_aload_n hK qd2_3.2.2.2.2.2.2.2.2.2.2.2.2.1 rfl 0 rfl rfl ?_
    refine J_bipush (v := (-2)) hK qd2_3.2.2.2.2.2.2.2.2.2.2.2.2.2.1 rfl (by decide) ?_
    obtain ⟨⟨v3, g4⟩, e5, hf⟩ := bs hf
    have hf := un2 hf
    refine J_callV (m := 2) (m' := 2) (ce' := 0) (sl' := 0) (gr := [gLd d h1 x1_lineCount x1_goodsCount x1_workCount x1_years x1_lines x1_goods x1_works x1_change x1_coin x1_knownFree x1_isKnown]) (gs' := fun _ => [gTw d h0 (h1 0) a0_kept a0_tape a0_shelves a0_choice a0_traffic g4 x0_isKept x0_gone x0_spent, gLd d h1 x1_lineCount x1_goodsCount x1_workCount x1_years x1_lines x1_goods x1_works x1_change x1_coin x1_knownFree x1_isKnown]) (st' := fun _ => [.int v3]) (st := []) hK qd2_3.2.2.2.2.2.2.2.2.2.2.2.2.2.2.1 cv_RX6_68 iv_yX6_refuse (As := [.int (-2)]) (kX6_refuse _ d h0 (h1 0) a0_kept a0_tape a0_shelves a0_choice a0_traffic x0_refused x0_isKept x0_gone x0_spent (-2) e5) rfl rfl (Nat.le_of_ble_eq_true rfl) (by decide) 0 0 rfl rfl rfl [0] [1] rfl (by decide +kernel) rfl rfl [1, 0] (by decide +kernel) (fun _ => rfl) (fun _ => rfl) rfl rfl rfl (fun _ => rfl) (fun _ => ?_)
    obtain rfl := Option.some.inj hf
    exact J_iret hK hR qd2_3.2.2.2.2.2.2.2.2.2.2.2.2.2.2.2.1 () rfl (by decide) (by decide)
  · have hf := iq hc10 hf
    refine J_iload hK qd2_3.2.2.2.2.2.2.2.1 rfl 4 rfl ?_
    refine J_iconst (v := 0) hK qd2_3.2.2.2.2.2.2.2.2.1 rfl (by decide) ?_
    refine J_sipush (v := 9999) hK qd2_3.2.2.2.2.2.2.2.2.2.1 rfl (by decide) ?_
    obtain ⟨v6, e7, hf⟩ := bs hf
    refine J_callS (m := 2) (m' := 2) (ce' := 0) (sl' := 0) (gr := [gTw d h0 (h1 0) a0_kept a0_tape a0_shelves a0_choice a0_traffic x0_refused x0_isKept x0_gone x0_spent, gLd d h1 x1_lineCount x1_goodsCount x1_workCount x1_years x1_lines x1_goods x1_works x1_change x1_coin x1_knownFree x1_isKnown]) (gs' := fun _ => [gTw d h0 (h1 0) a0_kept a0_tape a0_shelves a0_choice a0_traffic x0_refused x0_isKept x0_gone x0_spent, gLd d h1 x1_lineCount x1_goodsCount x1_workCount x1_years x1_lines x1_goods x1_works x1_change x1_coin x1_knownFree x1_isKnown]) (st' := fun _ => [.int v6]) (st := []) hK qd2_3.2.2.2.2.2.2.2.2.2.2.1 cv_RX6_64 ws_yX6_within (As := [.int p4, .int (0), .int (9999)]) (kX6_within _ d p4 (0) (9999) e7) rfl rfl (Nat.le_of_ble_eq_true rfl) (by decide) [] [0, 1] rfl (by decide +kernel) rfl rfl [0, 1] (by decide +kernel) (fun _ => rfl) (fun _ => rfl) rfl rfl rfl (fun _ => rfl) (fun _ => ?_)
    refine J_if_ne (tg := 32) hK qd2_3.2.2.2.2.2.2.2.2.2.2.2.1 rfl rfl (fun hc22 => ?_) (fun hc22 => ?_)
    · have hf := iq hc22 hf
      refine J_aload_n hK qd2_4.1 rfl 0 rfl rfl ?_
      refine J_get hK fo_RX6_12 qd2_4.2.1 rfl 0 0 rfl rfl rfl ?_
      refine J_get hK fo_RX6_139 qd2_4.2.2.1 rfl 1 0 rfl rfl rfl ?_
      refine J_bipush (v := 7) hK qd2_4.2.2.2.1 rfl (by decide) ?_
      refine J_icmp_lt (tg := 51) hK qd2_4.2.2.2.2.1 rfl rfl (fun hc41 => ?_) (fun hc41 => ?_)
      · have hf := ip hc41 hf
        refine J_aload_n hK qd2_4.2.2.2.2.2.2.2.2.2.1 rfl 0 rfl rfl ?_
        refine J_get hK fo_RX6_12 qd2_4.2.2.2.2.2.2.2.2.2.2.1 rfl 0 0 rfl rfl rfl ?_
        refine J_iload_n hK qd2_4.2.2.2.2.2.2.2.2.2.2.2.1 rfl 1 rfl rfl ?_
        refine J_iload_n hK qd2_4.2.2.2.2.2.2.2.2.2.2.2.2.1 rfl 2 rfl rfl ?_
        refine J_iload_n hK qd2_4.2.2.2.2.2.2.2.2.2.2.2.2.2.1 rfl 3 rfl rfl ?_
        refine J_iload hK qd2_4.2.2.2.2.2.2.2.2.2.2.2.2.2.2.1 rfl 4 rfl ?_
        obtain ⟨⟨g8, g9, g10⟩, e11, hf⟩ := bs hf
        have hf := un3 hf
        refine J_callV (m := 2) (m' := 2) (ce' := 0) (sl' := 0) (gr := [gTw d h0 (h1 0) a0_kept a0_tape a0_shelves a0_choice a0_traffic x0_refused x0_isKept x0_gone x0_spent]) (gs' := fun _ => [gTw d h0 (h1 0) a0_kept a0_tape a0_shelves a0_choice a0_traffic x0_refused x0_isKept x0_gone x0_spent, gLd d h1 x1_lineCount x1_goodsCount g8 x1_years x1_lines x1_goods g9 x1_change x1_coin x1_knownFree g10]) (st' := fun _ => []) (st := []) hK qd2_4.2.2.2.2.2.2.2.2.2.2.2.2.2.2.2.1 cv_RX6_142 iv_yX1_addWork (As := [.int p1, .int p2, .int p3, .int p4]) (kX1_addWork _ d h1 x1_lineCount x1_goodsCount x1_workCount x1_years x1_lines x1_goods x1_works x1_change x1_coin x1_knownFree x1_isKnown p1 p2 p3 p4 e11) rfl rfl (Nat.le_of_ble_eq_true rfl) (by decide) 1 0 rfl rfl rfl [1] [0] rfl (by decide +kernel) rfl rfl [0, 1] (by decide +kernel) (fun _ => rfl) (fun _ => rfl) rfl rfl rfl (fun _ => rfl) (fun _ => ?_)
        refine J_aload_n hK qd2_5.1 rfl 0 rfl rfl ?_
        refine J_get hK fo_RX6_12 qd2_5.2.1 rfl 0 0 rfl rfl rfl ?_
        refine J_get hK fo_RX6_139 qd2_5.2.2.1 rfl 1 0 rfl rfl rfl ?_
        refine J_iconst (v := 1) hK qd2_5.2.2.2.1 rfl (by decide) ?_
        refine J_isub hK qd2_5.2.2.2.2.1 rfl ?_
        obtain rfl := Option.some.inj hf
        exact J_iret hK hR qd2_5.2.2.2.2.2.1 () rfl (by decide) (by decide)
      · have hf := iq hc41 hf
        refine J_aload_n hK qd2_4.2.2.2.2.2.1 rfl 0 rfl rfl ?_
        refine J_bipush (v := (-6)) hK qd2_4.2.2.2.2.2.2.1 rfl (by decide) ?_
        obtain ⟨⟨v12, g13⟩, e14, hf⟩ := bs hf
        have hf := un2 hf
        refine J_callV (m := 2) (m' := 2) (ce' := 0) (sl' := 0) (gr := [gLd d h1 x1_lineCount x1_goodsCount x1_workCount x1_years x1_lines x1_goods x1_works x1_change x1_coin x1_knownFree x1_isKnown]) (gs' := fun _ => [gTw d h0 (h1 0) a0_kept a0_tape a0_shelves a0_choice a0_traffic g13 x0_isKept x0_gone x0_spent, gLd d h1 x1_lineCount x1_goodsCount x1_workCount x1_years x1_lines x1_goods x1_works x1_change x1_coin x1_knownFree x1_isKnown]) (st' := fun _ => [.int v12]) (st := []) hK qd2_4.2.2.2.2.2.2.2.1 cv_RX6_68 iv_yX6_refuse (As := [.int (-6)]) (kX6_refuse _ d h0 (h1 0) a0_kept a0_tape a0_shelves a0_choice a0_traffic x0_refused x0_isKept x0_gone x0_spent (-6) e14) rfl rfl (Nat.le_of_ble_eq_true rfl) (by decide) 0 0 rfl rfl rfl [0] [1] rfl (by decide +kernel) rfl rfl [1, 0] (by decide +kernel) (fun _ => rfl) (fun _ => rfl) rfl rfl rfl (fun _ => rfl) (fun _ => ?_)
        obtain rfl := Option.some.inj hf
        exact J_iret hK hR qd2_4.2.2.2.2.2.2.2.2.1 () rfl (by decide) (by decide)
    · have hf := ip hc22 hf
      refine J_aload_n hK qd2_3.2.2.2.2.2.2.2.2.2.2.2.2.1 rfl 0 rfl rfl ?_
      refine J_bipush (v := (-2)) hK qd2_3.2.2.2.2.2.2.2.2.2.2.2.2.2.1 rfl (by decide) ?_
      obtain ⟨⟨v15, g16⟩, e17, hf⟩ := bs hf
      have hf := un2 hf
      refine J_callV (m := 2) (m' := 2) (ce' := 0) (sl' := 0) (gr := [gLd d h1 x1_lineCount x1_goodsCount x1_workCount x1_years x1_lines x1_goods x1_works x1_change x1_coin x1_knownFree x1_isKnown]) (gs' := fun _ => [gTw d h0 (h1 0) a0_kept a0_tape a0_shelves a0_choice a0_traffic g16 x0_isKept x0_gone x0_spent, gLd d h1 x1_lineCount x1_goodsCount x1_workCount x1_years x1_lines x1_goods x1_works x1_change x1_coin x1_knownFree x1_isKnown]) (st' := fun _ => [.int v15]) (st := []) hK qd2_3.2.2.2.2.2.2.2.2.2.2.2.2.2.2.1 cv_RX6_68 iv_yX6_refuse (As := [.int (-2)]) (kX6_refuse _ d h0 (h1 0) a0_kept a0_tape a0_shelves a0_choice a0_traffic x0_refused x0_isKept x0_gone x0_spent (-2) e17) rfl rfl (Nat.le_of_ble_eq_true rfl) (by decide) 0 0 rfl rfl rfl [0] [1] rfl (by decide +kernel) rfl rfl [1, 0] (by decide +kernel) (fun _ => rfl) (fun _ => rfl) rfl rfl rfl (fun _ => rfl) (fun _ => ?_)
      obtain rfl := Option.some.inj hf
      exact J_iret hK hR qd2_3.2.2.2.2.2.2.2.2.2.2.2.2.2.2.2.1 () rfl (by decide) (by decide)

def fX6_change (X0 : TwT) (X1 : LdT) (p1 : Int32) (p2 : Int32) : Option (Int32 × (Nat → Int32) × (Nat → Int32) × Int32) :=
  u4 (fun (x0_refused : (Nat → Int32)) (x0_isKept : Int32) (x0_gone : Int32) (x0_spent : Int32) => u11 (fun (x1_lineCount : Int32) (x1_goodsCount : Int32) (x1_workCount : Int32) (x1_years : Int32) (x1_lines : (Nat → Int32)) (x1_goods : (Nat → Int32)) (x1_works : (Nat → Int32)) (x1_change : (Nat → Int32)) (x1_coin : (Nat → Int32)) (x1_knownFree : (Nat → Int32)) (x1_isKnown : Int32) => (fX6_isPlace p1).bind (fun v1 => if v1 = 0 then ((fX6_refuse (x0_refused, x0_isKept, x0_gone, x0_spent) (-2)).bind (u2 fun v3 g4 => some (v3, g4, x1_change, x1_isKnown))) else ((fX6_within p2 (0) (99)).bind (fun v6 => if v6 = 0 then ((fX6_refuse (x0_refused, x0_isKept, x0_gone, x0_spent) (-2)).bind (u2 fun v12 g13 => some (v12, g13, x1_change, x1_isKnown))) else ((rd 12 x1_change p1).bind fun v8 => (fX1_putChange (x1_lineCount, x1_goodsCount, x1_workCount, x1_years, x1_lines, x1_goods, x1_works, x1_change, x1_coin, x1_knownFree, x1_isKnown) p1 p2).bind (u2 fun g9 g10 => some (v8, x0_refused, g9, g10))))))) X1) X0
set_option maxHeartbeats 4000000 in
set_option maxRecDepth 100000 in
theorem kX6_change (l : Launch) (d : DT) (h0 : Nat → Nat) (a0_kept : Nat) (a0_tape : Nat) (a0_shelves : Nat) (a0_choice : Nat) (a0_traffic : Nat) (h1 : Nat → Nat) (x0_refused : (Nat → Int32)) (x0_isKept : Int32) (x0_gone : Int32) (x0_spent : Int32) (x1_lineCount : Int32) (x1_goodsCount : Int32) (x1_workCount : Int32) (x1_years : Int32) (x1_lines : (Nat → Int32)) (x1_goods : (Nat → Int32)) (x1_works : (Nat → Int32)) (x1_change : (Nat → Int32)) (x1_coin : (Nat → Int32)) (x1_knownFree : (Nat → Int32)) (x1_isKnown : Int32) (p1 : Int32) (p2 : Int32)  {out : Int32 × (Nat → Int32) × (Nat → Int32) × Int32} (hf : fX6_change (x0_refused, x0_isKept, x0_gone, x0_spent) (x1_lineCount, x1_goodsCount, x1_workCount, x1_years, x1_lines, x1_goods, x1_works, x1_change, x1_coin, x1_knownFree, x1_isKnown) p1 p2 = some out) : Ct l d yX6_change cX6_change 4 (some .int) { frames := 2, cells := 0, slots := 0, locals := 43 } [.ref (h0 0), .int p1, .int p2] [gTw d h0 (h1 0) a0_kept a0_tape a0_shelves a0_choice a0_traffic x0_refused x0_isKept x0_gone x0_spent, gLd d h1 x1_lineCount x1_goodsCount x1_workCount x1_years x1_lines x1_goods x1_works x1_change x1_coin x1_knownFree x1_isKnown] (fun _ : Unit => (some (.int out.1), [gTw d h0 (h1 0) a0_kept a0_tape a0_shelves a0_choice a0_traffic (out.2.1) x0_isKept x0_gone x0_spent, gLd d h1 x1_lineCount x1_goodsCount x1_workCount x1_years x1_lines x1_goods x1_works (out.2.2.1) x1_coin x1_knownFree (out.2.2.2)])) := by
  refine Ct.of (by decide) (Nat.le_of_ble_eq_true rfl) ?_
  intro Φ hl hK hR
  subst hl
  have hK : Ok d Φ RX6 "change" cX6_change 4 (some .int) { frames := 2, cells := 0, slots := 0, locals := 43 } := hK
  unfold fX6_change at hf
  have hf := un4 hf
  have hf := un11 hf
  show J d Φ 4 [gTw d h0 (h1 0) a0_kept a0_tape a0_shelves a0_choice a0_traffic x0_refused x0_isKept x0_gone x0_spent, gLd d h1 x1_lineCount x1_goodsCount x1_workCount x1_years x1_lines x1_goods x1_works x1_change x1_coin x1_knownFree x1_isKnown] 0 0 0 [(0, .ref (h0 0)), (1, .int p1), (2, .int p2)] []
  refine J_iload_n hK qd2_6.1 rfl 1 rfl rfl ?_
  obtain ⟨v1, e2, hf⟩ := bs hf
  refine J_callS (m := 2) (m' := 2) (ce' := 0) (sl' := 0) (gr := [gTw d h0 (h1 0) a0_kept a0_tape a0_shelves a0_choice a0_traffic x0_refused x0_isKept x0_gone x0_spent, gLd d h1 x1_lineCount x1_goodsCount x1_workCount x1_years x1_lines x1_goods x1_works x1_change x1_coin x1_knownFree x1_isKnown]) (gs' := fun _ => [gTw d h0 (h1 0) a0_kept a0_tape a0_shelves a0_choice a0_traffic x0_refused x0_isKept x0_gone x0_spent, gLd d h1 x1_lineCount x1_goodsCount x1_workCount x1_years x1_lines x1_goods x1_works x1_change x1_coin x1_knownFree x1_isKnown]) (st' := fun _ => [.int v1]) (st := []) hK qd2_6.2.1 cv_RX6_120 ws_yX6_isPlace (As := [.int p1]) (kX6_isPlace _ d p1 e2) rfl rfl (Nat.le_of_ble_eq_true rfl) (by decide) [] [0, 1] rfl (by decide +kernel) rfl rfl [0, 1] (by decide +kernel) (fun _ => rfl) (fun _ => rfl) rfl rfl rfl (fun _ => rfl) (fun _ => ?_)
  refine J_if_eq (tg := 17) hK qd2_6.2.2.1 rfl rfl (fun hc4 => ?_) (fun hc4 => ?_)
  · have hf := ip hc4 hf
    refine J_aload_n hK qd2_6.2.2.2.2.2.2.2.2.1 rfl 0 rfl rfl ?_
    refine J_bipush (v := (-2)) hK qd2_6.2.2.2.2.2.2.2.2.2.1 rfl (by decide) ?_
    obtain ⟨⟨v3, g4⟩, e5, hf⟩ := bs hf
    have hf := un2 hf
    refine J_callV (m := 2) (m' := 2) (ce' := 0) (sl' := 0) (gr := [gLd d h1 x1_lineCount x1_goodsCount x1_workCount x1_years x1_lines x1_goods x1_works x1_change x1_coin x1_knownFree x1_isKnown]) (gs' := fun _ => [gTw d h0 (h1 0) a0_kept a0_tape a0_shelves a0_choice a0_traffic g4 x0_isKept x0_gone x0_spent, gLd d h1 x1_lineCount x1_goodsCount x1_workCount x1_years x1_lines x1_goods x1_works x1_change x1_coin x1_knownFree x1_isKnown]) (st' := fun _ => [.int v3]) (st := []) hK qd2_6.2.2.2.2.2.2.2.2.2.2.1 cv_RX6_68 iv_yX6_refuse (As := [.int (-2)]) (kX6_refuse _ d h0 (h1 0) a0_kept a0_tape a0_shelves a0_choice a0_traffic x0_refused x0_isKept x0_gone x0_spent (-2) e5) rfl rfl (Nat.le_of_ble_eq_true rfl) (by decide) 0 0 rfl rfl rfl [0] [1] rfl (by decide +kernel) rfl rfl [1, 0] (by decide +kernel) (fun _ => rfl) (fun _ => rfl) rfl rfl rfl (fun _ => rfl) (fun _ => ?_)
    obtain rfl := Option.some.inj hf
    exact J_iret hK hR qd2_6.2.2.2.2.2.2.2.2.2.2.2.1 () rfl (by decide) (by decide)
  · have hf := iq hc4 hf
    refine J_iload_n hK qd2_6.2.2.2.1 rfl 2 rfl rfl ?_
    refine J_iconst (v := 0) hK qd2_6.2.2.2.2.1 rfl (by decide) ?_
    refine J_bipush (v := 99) hK qd2_6.2.2.2.2.2.1 rfl (by decide) ?_
    obtain ⟨v6, e7, hf⟩ := bs hf
    refine J_callS (m := 2) (m' := 2) (ce' := 0) (sl' := 0) (gr := [gTw d h0 (h1 0) a0_kept a0_tape a0_shelves a0_choice a0_traffic x0_refused x0_isKept x0_gone x0_spent, gLd d h1 x1_lineCount x1_goodsCount x1_workCount x1_years x1_lines x1_goods x1_works x1_change x1_coin x1_knownFree x1_isKnown]) (gs' := fun _ => [gTw d h0 (h1 0) a0_kept a0_tape a0_shelves a0_choice a0_traffic x0_refused x0_isKept x0_gone x0_spent, gLd d h1 x1_lineCount x1_goodsCount x1_workCount x1_years x1_lines x1_goods x1_works x1_change x1_coin x1_knownFree x1_isKnown]) (st' := fun _ => [.int v6]) (st := []) hK qd2_6.2.2.2.2.2.2.1 cv_RX6_64 ws_yX6_within (As := [.int p2, .int (0), .int (99)]) (kX6_within _ d p2 (0) (99) e7) rfl rfl (Nat.le_of_ble_eq_true rfl) (by decide) [] [0, 1] rfl (by decide +kernel) rfl rfl [0, 1] (by decide +kernel) (fun _ => rfl) (fun _ => rfl) rfl rfl rfl (fun _ => rfl) (fun _ => ?_)
    refine J_if_ne (tg := 24) hK qd2_6.2.2.2.2.2.2.2.1 rfl rfl (fun hc14 => ?_) (fun hc14 => ?_)
    · have hf := iq hc14 hf
      refine J_aload_n hK qd2_6.2.2.2.2.2.2.2.2.2.2.2.2.1 rfl 0 rfl rfl ?_
      refine J_get hK fo_RX6_12 qd2_6.2.2.2.2.2.2.2.2.2.2.2.2.2.1 rfl 0 0 rfl rfl rfl ?_
      refine J_get hK fo_RX6_146 qd2_6.2.2.2.2.2.2.2.2.2.2.2.2.2.2.1 rfl 1 0 rfl rfl rfl ?_
      refine J_iload_n hK qd2_6.2.2.2.2.2.2.2.2.2.2.2.2.2.2.2.1 rfl 1 rfl rfl ?_
      obtain ⟨v8, ev8, hf⟩ := bs hf
      refine J_iald hK qd2_7.1 rfl 1 4 rfl rfl ev8 ?_
      refine J_istore_n (L' := [(3, .int v8), (0, .ref (h0 0)), (1, .int p1), (2, .int p2)]) hK qd2_7.2.1 rfl rfl (by decide) rfl ?_
      refine J_aload_n hK qd2_7.2.2.1 rfl 1 rfl rfl ?_
      refine J_get hK fo_RX6_12 qd2_7.2.2.2.1 rfl 0 0 rfl rfl rfl ?_
      refine J_iload_n hK qd2_7.2.2.2.2.1 rfl 2 rfl rfl ?_
      refine J_iload_n hK qd2_7.2.2.2.2.2.1 rfl 3 rfl rfl ?_
      obtain ⟨⟨g9, g10⟩, e11, hf⟩ := bs hf
      have hf := un2 hf
      refine J_callV (m := 2) (m' := 2) (ce' := 0) (sl' := 0) (gr := [gTw d h0 (h1 0) a0_kept a0_tape a0_shelves a0_choice a0_traffic x0_refused x0_isKept x0_gone x0_spent]) (gs' := fun _ => [gTw d h0 (h1 0) a0_kept a0_tape a0_shelves a0_choice a0_traffic x0_refused x0_isKept x0_gone x0_spent, gLd d h1 x1_lineCount x1_goodsCount x1_workCount x1_years x1_lines x1_goods x1_works g9 x1_coin x1_knownFree g10]) (st' := fun _ => []) (st := []) hK qd2_7.2.2.2.2.2.2.1 cv_RX6_149 iv_yX1_putChange (As := [.int p1, .int p2]) (kX1_putChange _ d h1 x1_lineCount x1_goodsCount x1_workCount x1_years x1_lines x1_goods x1_works x1_change x1_coin x1_knownFree x1_isKnown p1 p2 e11) rfl rfl (Nat.le_of_ble_eq_true rfl) (by decide) 1 0 rfl rfl rfl [1] [0] rfl (by decide +kernel) rfl rfl [0, 1] (by decide +kernel) (fun _ => rfl) (fun _ => rfl) rfl rfl rfl (fun _ => rfl) (fun _ => ?_)
      refine J_iload_n hK qd2_7.2.2.2.2.2.2.2.1 rfl 0 rfl rfl ?_
      obtain rfl := Option.some.inj hf
      exact J_iret hK hR qd2_7.2.2.2.2.2.2.2.2.1 () rfl (by decide) (by decide)
    · have hf := ip hc14 hf
      refine J_aload_n hK qd2_6.2.2.2.2.2.2.2.2.1 rfl 0 rfl rfl ?_
      refine J_bipush (v := (-2)) hK qd2_6.2.2.2.2.2.2.2.2.2.1 rfl (by decide) ?_
      obtain ⟨⟨v12, g13⟩, e14, hf⟩ := bs hf
      have hf := un2 hf
      refine J_callV (m := 2) (m' := 2) (ce' := 0) (sl' := 0) (gr := [gLd d h1 x1_lineCount x1_goodsCount x1_workCount x1_years x1_lines x1_goods x1_works x1_change x1_coin x1_knownFree x1_isKnown]) (gs' := fun _ => [gTw d h0 (h1 0) a0_kept a0_tape a0_shelves a0_choice a0_traffic g13 x0_isKept x0_gone x0_spent, gLd d h1 x1_lineCount x1_goodsCount x1_workCount x1_years x1_lines x1_goods x1_works x1_change x1_coin x1_knownFree x1_isKnown]) (st' := fun _ => [.int v12]) (st := []) hK qd2_6.2.2.2.2.2.2.2.2.2.2.1 cv_RX6_68 iv_yX6_refuse (As := [.int (-2)]) (kX6_refuse _ d h0 (h1 0) a0_kept a0_tape a0_shelves a0_choice a0_traffic x0_refused x0_isKept x0_gone x0_spent (-2) e14) rfl rfl (Nat.le_of_ble_eq_true rfl) (by decide) 0 0 rfl rfl rfl [0] [1] rfl (by decide +kernel) rfl rfl [1, 0] (by decide +kernel) (fun _ => rfl) (fun _ => rfl) rfl rfl rfl (fun _ => rfl) (fun _ => ?_)
      obtain rfl := Option.some.inj hf
      exact J_iret hK hR qd2_6.2.2.2.2.2.2.2.2.2.2.2.1 () rfl (by decide) (by decide)

def fX6_coin (X0 : TwT) (X1 : LdT) (p1 : Int32) (p2 : Int32) : Option (Int32 × (Nat → Int32) × (Nat → Int32) × Int32) :=
  u4 (fun (x0_refused : (Nat → Int32)) (x0_isKept : Int32) (x0_gone : Int32) (x0_spent : Int32) => u11 (fun (x1_lineCount : Int32) (x1_goodsCount : Int32) (x1_workCount : Int32) (x1_years : Int32) (x1_lines : (Nat → Int32)) (x1_goods : (Nat → Int32)) (x1_works : (Nat → Int32)) (x1_change : (Nat → Int32)) (x1_coin : (Nat → Int32)) (x1_knownFree : (Nat → Int32)) (x1_isKnown : Int32) => (fX6_within p1 (0) (2)).bind (fun v1 => if v1 = 0 then ((fX6_refuse (x0_refused, x0_isKept, x0_gone, x0_spent) (-2)).bind (u2 fun v3 g4 => some (v3, g4, x1_coin, x1_isKnown))) else ((fX6_within p2 (0) (9)).bind (fun v6 => if v6 = 0 then ((fX6_refuse (x0_refused, x0_isKept, x0_gone, x0_spent) (-2)).bind (u2 fun v12 g13 => some (v12, g13, x1_coin, x1_isKnown))) else ((rd 3 x1_coin p1).bind fun v8 => (fX1_putCoin (x1_lineCount, x1_goodsCount, x1_workCount, x1_years, x1_lines, x1_goods, x1_works, x1_change, x1_coin, x1_knownFree, x1_isKnown) p1 p2).bind (u2 fun g9 g10 => some (v8, x0_refused, g9, g10))))))) X1) X0
set_option maxHeartbeats 4000000 in
set_option maxRecDepth 100000 in
theorem kX6_coin (l : Launch) (d : DT) (h0 : Nat → Nat) (a0_kept : Nat) (a0_tape : Nat) (a0_shelves : Nat) (a0_choice : Nat) (a0_traffic : Nat) (h1 : Nat → Nat) (x0_refused : (Nat → Int32)) (x0_isKept : Int32) (x0_gone : Int32) (x0_spent : Int32) (x1_lineCount : Int32) (x1_goodsCount : Int32) (x1_workCount : Int32) (x1_years : Int32) (x1_lines : (Nat → Int32)) (x1_goods : (Nat → Int32)) (x1_works : (Nat → Int32)) (x1_change : (Nat → Int32)) (x1_coin : (Nat → Int32)) (x1_knownFree : (Nat → Int32)) (x1_isKnown : Int32) (p1 : Int32) (p2 : Int32)  {out : Int32 × (Nat → Int32) × (Nat → Int32) × Int32} (hf : fX6_coin (x0_refused, x0_isKept, x0_gone, x0_spent) (x1_lineCount, x1_goodsCount, x1_workCount, x1_years, x1_lines, x1_goods, x1_works, x1_change, x1_coin, x1_knownFree, x1_isKnown) p1 p2 = some out) : Ct l d yX6_coin cX6_coin 4 (some .int) { frames := 2, cells := 0, slots := 0, locals := 43 } [.ref (h0 0), .int p1, .int p2] [gTw d h0 (h1 0) a0_kept a0_tape a0_shelves a0_choice a0_traffic x0_refused x0_isKept x0_gone x0_spent, gLd d h1 x1_lineCount x1_goodsCount x1_workCount x1_years x1_lines x1_goods x1_works x1_change x1_coin x1_knownFree x1_isKnown] (fun _ : Unit => (some (.int out.1), [gTw d h0 (h1 0) a0_kept a0_tape a0_shelves a0_choice a0_traffic (out.2.1) x0_isKept x0_gone x0_spent, gLd d h1 x1_lineCount x1_goodsCount x1_workCount x1_years x1_lines x1_goods x1_works x1_change (out.2.2.1) x1_knownFree (out.2.2.2)])) := by
  refine Ct.of (by decide) (Nat.le_of_ble_eq_true rfl) ?_
  intro Φ hl hK hR
  subst hl
  have hK : Ok d Φ RX6 "coin" cX6_coin 4 (some .int) { frames := 2, cells := 0, slots := 0, locals := 43 } := hK
  unfold fX6_coin at hf
  have hf := un4 hf
  have hf := un11 hf
  show J d Φ 4 [gTw d h0 (h1 0) a0_kept a0_tape a0_shelves a0_choice a0_traffic x0_refused x0_isKept x0_gone x0_spent, gLd d h1 x1_lineCount x1_goodsCount x1_workCount x1_years x1_lines x1_goods x1_works x1_change x1_coin x1_knownFree x1_isKnown] 0 0 0 [(0, .ref (h0 0)), (1, .int p1), (2, .int p2)] []
  refine J_iload_n hK qd2_8.1 rfl 1 rfl rfl ?_
  refine J_iconst (v := 0) hK qd2_8.2.1 rfl (by decide) ?_
  refine J_iconst (v := 2) hK qd2_8.2.2.1 rfl (by decide) ?_
  obtain ⟨v1, e2, hf⟩ := bs hf
  refine J_callS (m := 2) (m' := 2) (ce' := 0) (sl' := 0) (gr := [gTw d h0 (h1 0) a0_kept a0_tape a0_shelves a0_choice a0_traffic x0_refused x0_isKept x0_gone x0_spent, gLd d h1 x1_lineCount x1_goodsCount x1_workCount x1_years x1_lines x1_goods x1_works x1_change x1_coin x1_knownFree x1_isKnown]) (gs' := fun _ => [gTw d h0 (h1 0) a0_kept a0_tape a0_shelves a0_choice a0_traffic x0_refused x0_isKept x0_gone x0_spent, gLd d h1 x1_lineCount x1_goodsCount x1_workCount x1_years x1_lines x1_goods x1_works x1_change x1_coin x1_knownFree x1_isKnown]) (st' := fun _ => [.int v1]) (st := []) hK qd2_8.2.2.2.1 cv_RX6_64 ws_yX6_within (As := [.int p1, .int (0), .int (2)]) (kX6_within _ d p1 (0) (2) e2) rfl rfl (Nat.le_of_ble_eq_true rfl) (by decide) [] [0, 1] rfl (by decide +kernel) rfl rfl [0, 1] (by decide +kernel) (fun _ => rfl) (fun _ => rfl) rfl rfl rfl (fun _ => rfl) (fun _ => ?_)
  refine J_if_eq (tg := 19) hK qd2_8.2.2.2.2.1 rfl rfl (fun hc6 => ?_) (fun hc6 => ?_)
  · have hf := ip hc6 hf
    refine J_aload_n hK qd2_8.2.2.2.2.2.2.2.2.2.2.1 rfl 0 rfl rfl ?_
    refine J_bipush (v := (-2)) hK qd2_8.2.2.2.2.2.2.2.2.2.2.2.1 rfl (by decide) ?_
    obtain ⟨⟨v3, g4⟩, e5, hf⟩ := bs hf
    have hf := un2 hf
    refine J_callV (m := 2) (m' := 2) (ce' := 0) (sl' := 0) (gr := [gLd d h1 x1_lineCount x1_goodsCount x1_workCount x1_years x1_lines x1_goods x1_works x1_change x1_coin x1_knownFree x1_isKnown]) (gs' := fun _ => [gTw d h0 (h1 0) a0_kept a0_tape a0_shelves a0_choice a0_traffic g4 x0_isKept x0_gone x0_spent, gLd d h1 x1_lineCount x1_goodsCount x1_workCount x1_years x1_lines x1_goods x1_works x1_change x1_coin x1_knownFree x1_isKnown]) (st' := fun _ => [.int v3]) (st := []) hK qd2_8.2.2.2.2.2.2.2.2.2.2.2.2.1 cv_RX6_68 iv_yX6_refuse (As := [.int (-2)]) (kX6_refuse _ d h0 (h1 0) a0_kept a0_tape a0_shelves a0_choice a0_traffic x0_refused x0_isKept x0_gone x0_spent (-2) e5) rfl rfl (Nat.le_of_ble_eq_true rfl) (by decide) 0 0 rfl rfl rfl [0] [1] rfl (by decide +kernel) rfl rfl [1, 0] (by decide +kernel) (fun _ => rfl) (fun _ => rfl) rfl rfl rfl (fun _ => rfl) (fun _ => ?_)
    obtain rfl := Option.some.inj hf
    exact J_iret hK hR qd2_8.2.2.2.2.2.2.2.2.2.2.2.2.2.1 () rfl (by decide) (by decide)
  · have hf := iq hc6 hf
    refine J_iload_n hK qd2_8.2.2.2.2.2.1 rfl 2 rfl rfl ?_
    refine J_iconst (v := 0) hK qd2_8.2.2.2.2.2.2.1 rfl (by decide) ?_
    refine J_bipush (v := 9) hK qd2_8.2.2.2.2.2.2.2.1 rfl (by decide) ?_
    obtain ⟨v6, e7, hf⟩ := bs hf
    refine J_callS (m := 2) (m' := 2) (ce' := 0) (sl' := 0) (gr := [gTw d h0 (h1 0) a0_kept a0_tape a0_shelves a0_choice a0_traffic x0_refused x0_isKept x0_gone x0_spent, gLd d h1 x1_lineCount x1_goodsCount x1_workCount x1_years x1_lines x1_goods x1_works x1_change x1_coin x1_knownFree x1_isKnown]) (gs' := fun _ => [gTw d h0 (h1 0) a0_kept a0_tape a0_shelves a0_choice a0_traffic x0_refused x0_isKept x0_gone x0_spent, gLd d h1 x1_lineCount x1_goodsCount x1_workCount x1_years x1_lines x1_goods x1_works x1_change x1_coin x1_knownFree x1_isKnown]) (st' := fun _ => [.int v6]) (st := []) hK qd2_8.2.2.2.2.2.2.2.2.1 cv_RX6_64 ws_yX6_within (As := [.int p2, .int (0), .int (9)]) (kX6_within _ d p2 (0) (9) e7) rfl rfl (Nat.le_of_ble_eq_true rfl) (by decide) [] [0, 1] rfl (by decide +kernel) rfl rfl [0, 1] (by decide +kernel) (fun _ => rfl) (fun _ => rfl) rfl rfl rfl (fun _ => rfl) (fun _ => ?_)
    refine J_if_ne (tg := 26) hK qd2_8.2.2.2.2.2.2.2.2.2.1 rfl rfl (fun hc16 => ?_) (fun hc16 => ?_)
    · have hf := iq hc16 hf
      refine J_aload_n hK qd2_8.2.2.2.2.2.2.2.2.2.2.2.2.2.2.1 rfl 0 rfl rfl ?_
      refine J_get hK fo_RX6_12 qd2_8.2.2.2.2.2.2.2.2.2.2.2.2.2.2.2.1 rfl 0 0 rfl rfl rfl ?_
      refine J_get hK fo_RX6_153 qd2_9.1 rfl 1 0 rfl rfl rfl ?_
      refine J_iload_n hK qd2_9.2.1 rfl 1 rfl rfl ?_
      obtain ⟨v8, ev8, hf⟩ := bs hf
      refine J_iald hK qd2_9.2.2.1 rfl 1 5 rfl rfl ev8 ?_
      refine J_istore_n (L' := [(3, .int v8), (0, .ref (h0 0)), (1, .int p1), (2, .int p2)]) hK qd2_9.2.2.2.1 rfl rfl (by decide) rfl ?_
      refine J_aload_n hK qd2_9.2.2.2.2.1 rfl 1 rfl rfl ?_
      refine J_get hK fo_RX6_12 qd2_9.2.2.2.2.2.1 rfl 0 0 rfl rfl rfl ?_
      refine J_iload_n hK qd2_9.2.2.2.2.2.2.1 rfl 2 rfl rfl ?_
      refine J_iload_n hK qd2_9.2.2.2.2.2.2.2.1 rfl 3 rfl rfl ?_
      obtain ⟨⟨g9, g10⟩, e11, hf⟩ := bs hf
      have hf := un2 hf
      refine J_callV (m := 2) (m' := 2) (ce' := 0) (sl' := 0) (gr := [gTw d h0 (h1 0) a0_kept a0_tape a0_shelves a0_choice a0_traffic x0_refused x0_isKept x0_gone x0_spent]) (gs' := fun _ => [gTw d h0 (h1 0) a0_kept a0_tape a0_shelves a0_choice a0_traffic x0_refused x0_isKept x0_gone x0_spent, gLd d h1 x1_lineCount x1_goodsCount x1_workCount x1_years x1_lines x1_goods x1_works x1_change g9 x1_knownFree g10]) (st' := fun _ => []) (st := []) hK qd2_9.2.2.2.2.2.2.2.2.1 cv_RX6_156 iv_yX1_putCoin (As := [.int p1, .int p2]) (kX1_putCoin _ d h1 x1_lineCount x1_goodsCount x1_workCount x1_years x1_lines x1_goods x1_works x1_change x1_coin x1_knownFree x1_isKnown p1 p2 e11) rfl rfl (Nat.le_of_ble_eq_true rfl) (by decide) 1 0 rfl rfl rfl [1] [0] rfl (by decide +kernel) rfl rfl [0, 1] (by decide +kernel) (fun _ => rfl) (fun _ => rfl) rfl rfl rfl (fun _ => rfl) (fun _ => ?_)
      refine J_iload_n hK qd2_9.2.2.2.2.2.2.2.2.2.1 rfl 0 rfl rfl ?_
      obtain rfl := Option.some.inj hf
      exact J_iret hK hR qd2_9.2.2.2.2.2.2.2.2.2.2.1 () rfl (by decide) (by decide)
    · have hf := ip hc16 hf
      refine J_aload_n hK qd2_8.2.2.2.2.2.2.2.2.2.2.1 rfl 0 rfl rfl ?_
      refine J_bipush (v := (-2)) hK qd2_8.2.2.2.2.2.2.2.2.2.2.2.1 rfl (by decide) ?_
      obtain ⟨⟨v12, g13⟩, e14, hf⟩ := bs hf
      have hf := un2 hf
      refine J_callV (m := 2) (m' := 2) (ce' := 0) (sl' := 0) (gr := [gLd d h1 x1_lineCount x1_goodsCount x1_workCount x1_years x1_lines x1_goods x1_works x1_change x1_coin x1_knownFree x1_isKnown]) (gs' := fun _ => [gTw d h0 (h1 0) a0_kept a0_tape a0_shelves a0_choice a0_traffic g13 x0_isKept x0_gone x0_spent, gLd d h1 x1_lineCount x1_goodsCount x1_workCount x1_years x1_lines x1_goods x1_works x1_change x1_coin x1_knownFree x1_isKnown]) (st' := fun _ => [.int v12]) (st := []) hK qd2_8.2.2.2.2.2.2.2.2.2.2.2.2.1 cv_RX6_68 iv_yX6_refuse (As := [.int (-2)]) (kX6_refuse _ d h0 (h1 0) a0_kept a0_tape a0_shelves a0_choice a0_traffic x0_refused x0_isKept x0_gone x0_spent (-2) e14) rfl rfl (Nat.le_of_ble_eq_true rfl) (by decide) 0 0 rfl rfl rfl [0] [1] rfl (by decide +kernel) rfl rfl [1, 0] (by decide +kernel) (fun _ => rfl) (fun _ => rfl) rfl rfl rfl (fun _ => rfl) (fun _ => ?_)
      obtain rfl := Option.some.inj hf
      exact J_iret hK hR qd2_8.2.2.2.2.2.2.2.2.2.2.2.2.2.1 () rfl (by decide) (by decide)

def fX6_years (X0 : TwT) (X1 : LdT) (p1 : Int32) : Option (Int32 × (Nat → Int32) × Int32) :=
  u4 (fun (x0_refused : (Nat → Int32)) (x0_isKept : Int32) (x0_gone : Int32) (x0_spent : Int32) => u11 (fun (x1_lineCount : Int32) (x1_goodsCount : Int32) (x1_workCount : Int32) (x1_years : Int32) (x1_lines : (Nat → Int32)) (x1_goods : (Nat → Int32)) (x1_works : (Nat → Int32)) (x1_change : (Nat → Int32)) (x1_coin : (Nat → Int32)) (x1_knownFree : (Nat → Int32)) (x1_isKnown : Int32) => (fX6_within p1 (1) (30)).bind (fun v1 => if v1 = 0 then ((fX6_refuse (x0_refused, x0_isKept, x0_gone, x0_spent) (-2)).bind (u2 fun v3 g4 => some (v3, g4, x1_years))) else (some (x1_years, x0_refused, p1)))) X1) X0
set_option maxHeartbeats 4000000 in
set_option maxRecDepth 100000 in
theorem kX6_years (l : Launch) (d : DT) (h0 : Nat → Nat) (a0_kept : Nat) (a0_tape : Nat) (a0_shelves : Nat) (a0_choice : Nat) (a0_traffic : Nat) (h1 : Nat → Nat) (x0_refused : (Nat → Int32)) (x0_isKept : Int32) (x0_gone : Int32) (x0_spent : Int32) (x1_lineCount : Int32) (x1_goodsCount : Int32) (x1_workCount : Int32) (x1_years : Int32) (x1_lines : (Nat → Int32)) (x1_goods : (Nat → Int32)) (x1_works : (Nat → Int32)) (x1_change : (Nat → Int32)) (x1_coin : (Nat → Int32)) (x1_knownFree : (Nat → Int32)) (x1_isKnown : Int32) (p1 : Int32)  {out : Int32 × (Nat → Int32) × Int32} (hf : fX6_years (x0_refused, x0_isKept, x0_gone, x0_spent) (x1_lineCount, x1_goodsCount, x1_workCount, x1_years, x1_lines, x1_goods, x1_works, x1_change, x1_coin, x1_knownFree, x1_isKnown) p1 = some out) : Ct l d yX6_years cX6_years 3 (some .int) { frames := 2, cells := 0, slots := 0, locals := 43 } [.ref (h0 0), .int p1] [gTw d h0 (h1 0) a0_kept a0_tape a0_shelves a0_choice a0_traffic x0_refused x0_isKept x0_gone x0_spent, gLd d h1 x1_lineCount x1_goodsCount x1_workCount x1_years x1_lines x1_goods x1_works x1_change x1_coin x1_knownFree x1_isKnown] (fun _ : Unit => (some (.int out.1), [gTw d h0 (h1 0) a0_kept a0_tape a0_shelves a0_choice a0_traffic (out.2.1) x0_isKept x0_gone x0_spent, gLd d h1 x1_lineCount x1_goodsCount x1_workCount (out.2.2) x1_lines x1_goods x1_works x1_change x1_coin x1_knownFree x1_isKnown])) := by
  refine Ct.of (by decide) (Nat.le_of_ble_eq_true rfl) ?_
  intro Φ hl hK hR
  subst hl
  have hK : Ok d Φ RX6 "years" cX6_years 3 (some .int) { frames := 2, cells := 0, slots := 0, locals := 43 } := hK
  unfold fX6_years at hf
  have hf := un4 hf
  have hf := un11 hf
  show J d Φ 3 [gTw d h0 (h1 0) a0_kept a0_tape a0_shelves a0_choice a0_traffic x0_refused x0_isKept x0_gone x0_spent, gLd d h1 x1_lineCount x1_goodsCount x1_workCount x1_years x1_lines x1_goods x1_works x1_change x1_coin x1_knownFree x1_isKnown] 0 0 0 [(0, .ref (h0 0)), (1, .int p1)] []
  refine J_iload_n hK qd2_10.1 rfl 1 rfl rfl ?_
  refine J_iconst (v := 1) hK qd2_10.2.1 rfl (by decide) ?_
  refine J_bipush (v := 30) hK qd2_10.2.2.1 rfl (by decide) ?_
  obtain ⟨v1, e2, hf⟩ := bs hf
  refine J_callS (m := 2) (m' := 2) (ce' := 0) (sl' := 0) (gr := [gTw d h0 (h1 0) a0_kept a0_tape a0_shelves a0_choice a0_traffic x0_refused x0_isKept x0_gone x0_spent, gLd d h1 x1_lineCount x1_goodsCount x1_workCount x1_years x1_lines x1_goods x1_works x1_change x1_coin x1_knownFree x1_isKnown]) (gs' := fun _ => [gTw d h0 (h1 0) a0_kept a0_tape a0_shelves a0_choice a0_traffic x0_refused x0_isKept x0_gone x0_spent, gLd d h1 x1_lineCount x1_goodsCount x1_workCount x1_years x1_lines x1_goods x1_works x1_change x1_coin x1_knownFree x1_isKnown]) (st' := fun _ => [.int v1]) (st := []) hK qd2_10.2.2.2.1 cv_RX6_64 ws_yX6_within (As := [.int p1, .int (1), .int (30)]) (kX6_within _ d p1 (1) (30) e2) rfl rfl (Nat.le_of_ble_eq_true rfl) (by decide) [] [0, 1] rfl (by decide +kernel) rfl rfl [0, 1] (by decide +kernel) (fun _ => rfl) (fun _ => rfl) rfl rfl rfl (fun _ => rfl) (fun _ => ?_)
  refine J_if_ne (tg := 17) hK qd2_10.2.2.2.2.1 rfl rfl (fun hc7 => ?_) (fun hc7 => ?_)
  · have hf := iq hc7 hf
    refine J_aload_n hK qd2_10.2.2.2.2.2.2.2.2.2.1 rfl 0 rfl rfl ?_
    refine J_get hK fo_RX6_12 qd2_10.2.2.2.2.2.2.2.2.2.2.1 rfl 0 0 rfl rfl rfl ?_
    refine J_get hK fo_RX6_159 qd2_10.2.2.2.2.2.2.2.2.2.2.2.1 rfl 1 0 rfl rfl rfl ?_
    refine J_istore_n (L' := [(2, .int x1_years), (0, .ref (h0 0)), (1, .int p1)]) hK qd2_10.2.2.2.2.2.2.2.2.2.2.2.2.1 rfl rfl (by decide) rfl ?_
    refine J_aload_n hK qd2_10.2.2.2.2.2.2.2.2.2.2.2.2.2.1 rfl 1 rfl rfl ?_
    refine J_get hK fo_RX6_12 qd2_10.2.2.2.2.2.2.2.2.2.2.2.2.2.2.1 rfl 0 0 rfl rfl rfl ?_
    refine J_iload_n hK qd2_10.2.2.2.2.2.2.2.2.2.2.2.2.2.2.2.1 rfl 2 rfl rfl ?_
    refine J_put (g' := gLd d h1 x1_lineCount x1_goodsCount x1_workCount p1 x1_lines x1_goods x1_works x1_change x1_coin x1_knownFree x1_isKnown) (gs' := [gTw d h0 (h1 0) a0_kept a0_tape a0_shelves a0_choice a0_traffic x0_refused x0_isKept x0_gone x0_spent, gLd d h1 x1_lineCount x1_goodsCount x1_workCount p1 x1_lines x1_goods x1_works x1_change x1_coin x1_knownFree x1_isKnown]) hK fp_RX6_159 qd2_11.1 rfl 1 0 rfl rfl rfl rfl (Nat.le_of_ble_eq_true rfl) rfl rfl ?_
    refine J_iload_n hK qd2_11.2.1 rfl 0 rfl rfl ?_
    obtain rfl := Option.some.inj hf
    exact J_iret hK hR qd2_11.2.2.1 () rfl (by decide) (by decide)
  · have hf := ip hc7 hf
    refine J_aload_n hK qd2_10.2.2.2.2.2.1 rfl 0 rfl rfl ?_
    refine J_bipush (v := (-2)) hK qd2_10.2.2.2.2.2.2.1 rfl (by decide) ?_
    obtain ⟨⟨v3, g4⟩, e5, hf⟩ := bs hf
    have hf := un2 hf
    refine J_callV (m := 2) (m' := 2) (ce' := 0) (sl' := 0) (gr := [gLd d h1 x1_lineCount x1_goodsCount x1_workCount x1_years x1_lines x1_goods x1_works x1_change x1_coin x1_knownFree x1_isKnown]) (gs' := fun _ => [gTw d h0 (h1 0) a0_kept a0_tape a0_shelves a0_choice a0_traffic g4 x0_isKept x0_gone x0_spent, gLd d h1 x1_lineCount x1_goodsCount x1_workCount x1_years x1_lines x1_goods x1_works x1_change x1_coin x1_knownFree x1_isKnown]) (st' := fun _ => [.int v3]) (st := []) hK qd2_10.2.2.2.2.2.2.2.1 cv_RX6_68 iv_yX6_refuse (As := [.int (-2)]) (kX6_refuse _ d h0 (h1 0) a0_kept a0_tape a0_shelves a0_choice a0_traffic x0_refused x0_isKept x0_gone x0_spent (-2) e5) rfl rfl (Nat.le_of_ble_eq_true rfl) (by decide) 0 0 rfl rfl rfl [0] [1] rfl (by decide +kernel) rfl rfl [1, 0] (by decide +kernel) (fun _ => rfl) (fun _ => rfl) rfl rfl rfl (fun _ => rfl) (fun _ => ?_)
    obtain rfl := Option.some.inj hf
    exact J_iret hK hR qd2_10.2.2.2.2.2.2.2.2.1 () rfl (by decide) (by decide)

def fX6_washed_j27 (p1 : Int32) (x0_refused : (Nat → Int32)) (x1_lineCount : Int32) (x1_goodsCount : Int32) (x1_workCount : Int32) (x1_years : Int32) (x1_lines : (Nat → Int32)) (x1_goods : (Nat → Int32)) (x1_works : (Nat → Int32)) (x1_change : (Nat → Int32)) (x1_coin : (Nat → Int32)) (x1_knownFree : (Nat → Int32)) (x1_isKnown : Int32) (y3 : Int32) : Option (Int32 × (Nat → Int32) × (Nat → Int32) × Int32) :=
  (fX1_ofLine (x1_lineCount, x1_goodsCount, x1_workCount, x1_years, x1_lines, x1_goods, x1_works, x1_change, x1_coin, x1_knownFree, x1_isKnown) p1 (6)).bind (fun v4 => if v4 = y3 then (some (0, x0_refused, x1_lines, x1_isKnown)) else ((fX1_putWashed (x1_lineCount, x1_goodsCount, x1_workCount, x1_years, x1_lines, x1_goods, x1_works, x1_change, x1_coin, x1_knownFree, x1_isKnown) p1 y3).bind (u2 fun g6 g7 => some (1, x0_refused, g6, g7))))
def fX6_washed (X0 : TwT) (X1 : LdT) (p1 : Int32) (p2 : Int32) : Option (Int32 × (Nat → Int32) × (Nat → Int32) × Int32) :=
  u4 (fun (x0_refused : (Nat → Int32)) (x0_isKept : Int32) (x0_gone : Int32) (x0_spent : Int32) => u11 (fun (x1_lineCount : Int32) (x1_goodsCount : Int32) (x1_workCount : Int32) (x1_years : Int32) (x1_lines : (Nat → Int32)) (x1_goods : (Nat → Int32)) (x1_works : (Nat → Int32)) (x1_change : (Nat → Int32)) (x1_coin : (Nat → Int32)) (x1_knownFree : (Nat → Int32)) (x1_isKnown : Int32) => (fX1_hasLine (x1_lineCount, x1_goodsCount, x1_workCount, x1_years, x1_lines, x1_goods, x1_works, x1_change, x1_coin, x1_knownFree, x1_isKnown) p1).bind (fun v1 => if v1 = 0 then ((fX6_refuse (x0_refused, x0_isKept, x0_gone, x0_spent) (-2)).bind (u2 fun v9 g10 => some (v9, g10, x1_lines, x1_isKnown))) else (if p2 = 0 then (fX6_washed_j27 p1 x0_refused x1_lineCount x1_goodsCount x1_workCount x1_years x1_lines x1_goods x1_works x1_change x1_coin x1_knownFree x1_isKnown (0)) else (fX6_washed_j27 p1 x0_refused x1_lineCount x1_goodsCount x1_workCount x1_years x1_lines x1_goods x1_works x1_change x1_coin x1_knownFree x1_isKnown (1))))) X1) X0
set_option maxHeartbeats 4000000 in
set_option maxRecDepth 100000 in
theorem kX6_washed (l : Launch) (d : DT) (h0 : Nat → Nat) (a0_kept : Nat) (a0_tape : Nat) (a0_shelves : Nat) (a0_choice : Nat) (a0_traffic : Nat) (h1 : Nat → Nat) (x0_refused : (Nat → Int32)) (x0_isKept : Int32) (x0_gone : Int32) (x0_spent : Int32) (x1_lineCount : Int32) (x1_goodsCount : Int32) (x1_workCount : Int32) (x1_years : Int32) (x1_lines : (Nat → Int32)) (x1_goods : (Nat → Int32)) (x1_works : (Nat → Int32)) (x1_change : (Nat → Int32)) (x1_coin : (Nat → Int32)) (x1_knownFree : (Nat → Int32)) (x1_isKnown : Int32) (p1 : Int32) (p2 : Int32)  {out : Int32 × (Nat → Int32) × (Nat → Int32) × Int32} (hf : fX6_washed (x0_refused, x0_isKept, x0_gone, x0_spent) (x1_lineCount, x1_goodsCount, x1_workCount, x1_years, x1_lines, x1_goods, x1_works, x1_change, x1_coin, x1_knownFree, x1_isKnown) p1 p2 = some out) : Ct l d yX6_washed cX6_washed 4 (some .int) { frames := 2, cells := 0, slots := 0, locals := 43 } [.ref (h0 0), .int p1, .int p2] [gTw d h0 (h1 0) a0_kept a0_tape a0_shelves a0_choice a0_traffic x0_refused x0_isKept x0_gone x0_spent, gLd d h1 x1_lineCount x1_goodsCount x1_workCount x1_years x1_lines x1_goods x1_works x1_change x1_coin x1_knownFree x1_isKnown] (fun _ : Unit => (some (.int out.1), [gTw d h0 (h1 0) a0_kept a0_tape a0_shelves a0_choice a0_traffic (out.2.1) x0_isKept x0_gone x0_spent, gLd d h1 x1_lineCount x1_goodsCount x1_workCount x1_years (out.2.2.1) x1_goods x1_works x1_change x1_coin x1_knownFree (out.2.2.2)])) := by
  refine Ct.of (by decide) (Nat.le_of_ble_eq_true rfl) ?_
  intro Φ hl hK hR
  subst hl
  have hK : Ok d Φ RX6 "washed" cX6_washed 4 (some .int) { frames := 2, cells := 0, slots := 0, locals := 43 } := hK
  unfold fX6_washed at hf
  have hf := un4 hf
  have hf := un11 hf
  show J d Φ 4 [gTw d h0 (h1 0) a0_kept a0_tape a0_shelves a0_choice a0_traffic x0_refused x0_isKept x0_gone x0_spent, gLd d h1 x1_lineCount x1_goodsCount x1_workCount x1_years x1_lines x1_goods x1_works x1_change x1_coin x1_knownFree x1_isKnown] 0 0 0 [(0, .ref (h0 0)), (1, .int p1), (2, .int p2)] []
  refine J_aload_n hK qd2_12.1 rfl 0 rfl rfl ?_
  refine J_get hK fo_RX6_12 qd2_12.2.1 rfl 0 0 rfl rfl rfl ?_
  refine J_iload_n hK qd2_12.2.2.1 rfl 1 rfl rfl ?_
  obtain ⟨v1, e2, hf⟩ := bs hf
  refine J_callV (m := 2) (m' := 2) (ce' := 0) (sl' := 0) (gr := [gTw d h0 (h1 0) a0_kept a0_tape a0_shelves a0_choice a0_traffic x0_refused x0_isKept x0_gone x0_spent]) (gs' := fun _ => [gTw d h0 (h1 0) a0_kept a0_tape a0_shelves a0_choice a0_traffic x0_refused x0_isKept x0_gone x0_spent, gLd d h1 x1_lineCount x1_goodsCount x1_workCount x1_years x1_lines x1_goods x1_works x1_change x1_coin x1_knownFree x1_isKnown]) (st' := fun _ => [.int v1]) (st := []) hK qd2_12.2.2.2.1 cv_RX6_162 iv_yX1_hasLine (As := [.int p1]) (kX1_hasLine _ d h1 x1_lineCount x1_goodsCount x1_workCount x1_years x1_lines x1_goods x1_works x1_change x1_coin x1_knownFree x1_isKnown p1 e2) rfl rfl (Nat.le_of_ble_eq_true rfl) (by decide) 1 0 rfl rfl rfl [1] [0] rfl (by decide +kernel) rfl rfl [0, 1] (by decide +kernel) (fun _ => rfl) (fun _ => rfl) rfl rfl rfl (fun _ => rfl) (fun _ => ?_)
  refine J_if_ne (tg := 18) hK qd2_12.2.2.2.2.1 rfl rfl (fun hc8 => ?_) (fun hc8 => ?_)
  · have hf := iq hc8 hf
    refine J_iload_n hK qd2_12.2.2.2.2.2.2.2.2.2.1 rfl 2 rfl rfl ?_
    have j27 : ∀ (y3 : Int32), fX6_washed_j27 p1 x0_refused x1_lineCount x1_goodsCount x1_workCount x1_years x1_lines x1_goods x1_works x1_change x1_coin x1_knownFree x1_isKnown y3 = some out → J d Φ 4 [gTw d h0 (h1 0) a0_kept a0_tape a0_shelves a0_choice a0_traffic x0_refused x0_isKept x0_gone x0_spent, gLd d h1 x1_lineCount x1_goodsCount x1_workCount x1_years x1_lines x1_goods x1_works x1_change x1_coin x1_knownFree x1_isKnown] 0 0 27 [(0, .ref (h0 0)), (1, .int p1)] [.int y3] := by
      intro y3 hf
      unfold fX6_washed_j27 at hf
      refine J_istore_n (L' := [(3, .int y3), (0, .ref (h0 0)), (1, .int p1)]) hK qd2_12.2.2.2.2.2.2.2.2.2.2.2.2.2.2.1 rfl rfl (by decide) rfl ?_
      refine J_aload_n hK qd2_12.2.2.2.2.2.2.2.2.2.2.2.2.2.2.2.1 rfl 1 rfl rfl ?_
      refine J_get hK fo_RX6_12 qd2_13.1 rfl 0 0 rfl rfl rfl ?_
      refine J_iload_n hK qd2_13.2.1 rfl 2 rfl rfl ?_
      refine J_bipush (v := 6) hK qd2_13.2.2.1 rfl (by decide) ?_
      obtain ⟨v4, e5, hf⟩ := bs hf
      refine J_callV (m := 2) (m' := 2) (ce' := 0) (sl' := 0) (gr := [gTw d h0 (h1 0) a0_kept a0_tape a0_shelves a0_choice a0_traffic x0_refused x0_isKept x0_gone x0_spent]) (gs' := fun _ => [gTw d h0 (h1 0) a0_kept a0_tape a0_shelves a0_choice a0_traffic x0_refused x0_isKept x0_gone x0_spent, gLd d h1 x1_lineCount x1_goodsCount x1_workCount x1_years x1_lines x1_goods x1_works x1_change x1_coin x1_knownFree x1_isKnown]) (st' := fun _ => [.int v4]) (st := []) hK qd2_13.2.2.2.1 cv_RX6_165 iv_yX1_ofLine (As := [.int p1, .int (6)]) (kX1_ofLine _ d h1 x1_lineCount x1_goodsCount x1_workCount x1_years x1_lines x1_goods x1_works x1_change x1_coin x1_knownFree x1_isKnown p1 (6) e5) rfl rfl (Nat.le_of_ble_eq_true rfl) (by decide) 1 0 rfl rfl rfl [1] [0] rfl (by decide +kernel) rfl rfl [0, 1] (by decide +kernel) (fun _ => rfl) (fun _ => rfl) rfl rfl rfl (fun _ => rfl) (fun _ => ?_)
      refine J_iload_n hK qd2_13.2.2.2.2.1 rfl 0 rfl rfl ?_
      refine J_icmp_ne (tg := 44) hK qd2_13.2.2.2.2.2.1 rfl rfl (fun hc39 => ?_) (fun hc39 => ?_)
      · have hf := iq hc39 hf
        refine J_aload_n hK qd2_13.2.2.2.2.2.2.2.2.1 rfl 1 rfl rfl ?_
        refine J_get hK fo_RX6_12 qd2_13.2.2.2.2.2.2.2.2.2.1 rfl 0 0 rfl rfl rfl ?_
        refine J_iload_n hK qd2_13.2.2.2.2.2.2.2.2.2.2.1 rfl 2 rfl rfl ?_
        refine J_iload_n hK qd2_13.2.2.2.2.2.2.2.2.2.2.2.1 rfl 0 rfl rfl ?_
        obtain ⟨⟨g6, g7⟩, e8, hf⟩ := bs hf
        have hf := un2 hf
        refine J_callV (m := 2) (m' := 2) (ce' := 0) (sl' := 0) (gr := [gTw d h0 (h1 0) a0_kept a0_tape a0_shelves a0_choice a0_traffic x0_refused x0_isKept x0_gone x0_spent]) (gs' := fun _ => [gTw d h0 (h1 0) a0_kept a0_tape a0_shelves a0_choice a0_traffic x0_refused x0_isKept x0_gone x0_spent, gLd d h1 x1_lineCount x1_goodsCount x1_workCount x1_years g6 x1_goods x1_works x1_change x1_coin x1_knownFree g7]) (st' := fun _ => []) (st := []) hK qd2_13.2.2.2.2.2.2.2.2.2.2.2.2.1 cv_RX6_168 iv_yX1_putWashed (As := [.int p1, .int y3]) (kX1_putWashed _ d h1 x1_lineCount x1_goodsCount x1_workCount x1_years x1_lines x1_goods x1_works x1_change x1_coin x1_knownFree x1_isKnown p1 y3 e8) rfl rfl (Nat.le_of_ble_eq_true rfl) (by decide) 1 0 rfl rfl rfl [1] [0] rfl (by decide +kernel) rfl rfl [0, 1] (by decide +kernel) (fun _ => rfl) (fun _ => rfl) rfl rfl rfl (fun _ => rfl) (fun _ => ?_)
        refine J_iconst (v := 1) hK qd2_13.2.2.2.2.2.2.2.2.2.2.2.2.2.1 rfl (by decide) ?_
        obtain rfl := Option.some.inj hf
        exact J_iret hK hR qd2_13.2.2.2.2.2.2.2.2.2.2.2.2.2.2.1 () rfl (by decide) (by decide)
      · have hf := ip hc39 hf
        refine J_iconst (v := 0) hK qd2_13.2.2.2.2.2.2.1 rfl (by decide) ?_
        obtain rfl := Option.some.inj hf
        exact J_iret hK hR qd2_13.2.2.2.2.2.2.2.1 () rfl (by decide) (by decide)
    refine J_if_eq (tg := 26) hK qd2_12.2.2.2.2.2.2.2.2.2.2.1 rfl rfl (fun hc19 => ?_) (fun hc19 => ?_)
    · have hf := ip hc19 hf
      refine J_iconst (v := 0) hK qd2_12.2.2.2.2.2.2.2.2.2.2.2.2.2.1 rfl (by decide) ?_
      exact J_loc [0, 1] rfl (j27 (0) hf)
    · have hf := iq hc19 hf
      refine J_iconst (v := 1) hK qd2_12.2.2.2.2.2.2.2.2.2.2.2.1 rfl (by decide) ?_
      refine J_goto hK qd2_12.2.2.2.2.2.2.2.2.2.2.2.2.1 (n := 27) rfl ?_
      exact J_loc [0, 1] rfl (j27 (1) hf)
  · have hf := ip hc8 hf
    refine J_aload_n hK qd2_12.2.2.2.2.2.1 rfl 0 rfl rfl ?_
    refine J_bipush (v := (-2)) hK qd2_12.2.2.2.2.2.2.1 rfl (by decide) ?_
    obtain ⟨⟨v9, g10⟩, e11, hf⟩ := bs hf
    have hf := un2 hf
    refine J_callV (m := 2) (m' := 2) (ce' := 0) (sl' := 0) (gr := [gLd d h1 x1_lineCount x1_goodsCount x1_workCount x1_years x1_lines x1_goods x1_works x1_change x1_coin x1_knownFree x1_isKnown]) (gs' := fun _ => [gTw d h0 (h1 0) a0_kept a0_tape a0_shelves a0_choice a0_traffic g10 x0_isKept x0_gone x0_spent, gLd d h1 x1_lineCount x1_goodsCount x1_workCount x1_years x1_lines x1_goods x1_works x1_change x1_coin x1_knownFree x1_isKnown]) (st' := fun _ => [.int v9]) (st := []) hK qd2_12.2.2.2.2.2.2.2.1 cv_RX6_68 iv_yX6_refuse (As := [.int (-2)]) (kX6_refuse _ d h0 (h1 0) a0_kept a0_tape a0_shelves a0_choice a0_traffic x0_refused x0_isKept x0_gone x0_spent (-2) e11) rfl rfl (Nat.le_of_ble_eq_true rfl) (by decide) 0 0 rfl rfl rfl [0] [1] rfl (by decide +kernel) rfl rfl [1, 0] (by decide +kernel) (fun _ => rfl) (fun _ => rfl) rfl rfl rfl (fun _ => rfl) (fun _ => ?_)
    obtain rfl := Option.some.inj hf
    exact J_iret hK hR qd2_12.2.2.2.2.2.2.2.2.1 () rfl (by decide) (by decide)
end

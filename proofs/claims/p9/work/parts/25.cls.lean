def fX2_putRow (n : Nat) (X0 : ShT) (p1 : Int32) (p2 : Int32) (p3 : Int32) : Option ((Nat → Nat → Int64) × (Nat → Int32) × (Nat → Int32)) :=
  u3 (fun (x0_elements : (Nat → Nat → Int64)) (x0_held : (Nat → Int32)) (x0_sizes : (Nat → Int32)) => (wr 8 x0_held p1 p2).bind fun f1 => (wr 8 x0_sizes p1 p3).bind fun f2 => (ck p1 8).bind fun q3 => (fJ7_fill_d0a16 n 40 (x0_elements q3) (0 : Int64)).bind (fun g4 => some ((va_up x0_elements q3 g4), f1, f2))) X0
set_option maxHeartbeats 4000000 in
set_option maxRecDepth 100000 in
theorem kX2_putRow (l : Launch) (d : DT) (h0 : Nat → Nat) (r0_elements : Nat → Nat) (n : Nat) (x0_elements : (Nat → Nat → Int64)) (x0_held : (Nat → Int32)) (x0_sizes : (Nat → Int32)) (p1 : Int32) (p2 : Int32) (p3 : Int32)  {out : (Nat → Nat → Int64) × (Nat → Int32) × (Nat → Int32)} (hf : fX2_putRow n (x0_elements, x0_held, x0_sizes) p1 p2 p3 = some out) : Ct l d yX2_putRow cX2_putRow 4 none { frames := 1, cells := 0, slots := 0, locals := 24 } [.ref (h0 0), .int p1, .int p2, .int p3] [gSh d h0 r0_elements x0_held x0_sizes, gridJ d r0_elements 8 40 x0_elements] (fun _ : Unit => (none, [gSh d h0 r0_elements (out.2.1) (out.2.2), gridJ d r0_elements 8 40 (out.1)])) := by
  refine Ct.of (by decide) (Nat.le_of_ble_eq_true rfl) ?_
  intro Φ hl hK hR
  subst hl
  have hK : Ok d Φ RX2 "putRow" cX2_putRow 4 none { frames := 1, cells := 0, slots := 0, locals := 24 } := hK
  unfold fX2_putRow at hf
  have hf := un3 hf
  show J d Φ 4 [gSh d h0 r0_elements x0_held x0_sizes, gridJ d r0_elements 8 40 x0_elements] 0 0 0 [(0, .ref (h0 0)), (1, .int p1), (2, .int p2), (3, .int p3)] []
  refine J_aload_n hK dX2_putRow_0 rfl 0 rfl rfl ?_
  refine J_get hK fo_RX2_16 dX2_putRow_1 rfl 0 0 rfl rfl rfl ?_
  refine J_iload_n hK dX2_putRow_4 rfl 1 rfl rfl ?_
  refine J_iload_n hK dX2_putRow_5 rfl 2 rfl rfl ?_
  obtain ⟨f1, ef1, hf⟩ := bs hf
  refine J_iast (g' := gSh d h0 r0_elements f1 x0_sizes) (gs' := [gSh d h0 r0_elements f1 x0_sizes, gridJ d r0_elements 8 40 x0_elements]) hK dX2_putRow_6 rfl 0 2 rfl rfl ef1 rfl rfl ?_
  refine J_aload_n hK dX2_putRow_7 rfl 0 rfl rfl ?_
  refine J_get hK fo_RX2_20 dX2_putRow_8 rfl 0 0 rfl rfl rfl ?_
  refine J_iload_n hK dX2_putRow_11 rfl 1 rfl rfl ?_
  refine J_iload_n hK dX2_putRow_12 rfl 3 rfl rfl ?_
  obtain ⟨f2, ef2, hf⟩ := bs hf
  refine J_iast (g' := gSh d h0 r0_elements f1 f2) (gs' := [gSh d h0 r0_elements f1 f2, gridJ d r0_elements 8 40 x0_elements]) hK dX2_putRow_13 rfl 0 3 rfl rfl ef2 rfl rfl ?_
  refine J_aload_n hK dX2_putRow_14 rfl 0 rfl rfl ?_
  refine J_get hK fo_RX2_13 dX2_putRow_15 rfl 0 0 rfl rfl rfl ?_
  refine J_iload_n hK dX2_putRow_18 rfl 1 rfl rfl ?_
  obtain ⟨q3, eq3, hf⟩ := bs hf
  refine J_aald hK dX2_putRow_19 rfl 0 1 rfl rfl rfl eq3 ?_
  refine J_lconst (v := 0) hK dX2_putRow_20 rfl (by decide) ?_
  refine J_split (gs2 := [gSh d h0 r0_elements f1 f2, [cJ d (r0_elements q3) 40 (x0_elements q3)], gridJx d r0_elements 8 40 x0_elements q3]) 1 rfl (gridJ_sp (ck_ok eq3).2.2) rfl ?_
  obtain ⟨g4, e5, hf⟩ := bs hf
  refine J_callS (m' := 3) (ce' := 0) (sl' := 0) (gr := [gSh d h0 r0_elements f1 f2, gridJx d r0_elements 8 40 x0_elements q3]) (gs' := fun _ => [gSh d h0 r0_elements f1 f2, [cJ d (r0_elements q3) 40 g4], gridJx d r0_elements 8 40 x0_elements q3]) (st' := fun _ => []) (st := []) hK dX2_putRow_21 cv_RX2_37 ws_yJ7_fill_d0a16 (As := [.ref (r0_elements q3), .long (0 : Int64)]) (kJ7_fill_d0a16 _ d (r0_elements q3) n 40 (x0_elements q3) (0 : Int64) e5) rfl rfl (Nat.le_of_ble_eq_true rfl) (by decide) [1] [0, 2] rfl rfl rfl rfl [0, 2, 1] rfl (fun _ => rfl) (fun _ => rfl) rfl rfl rfl (fun _ => rfl) (fun _ => ?_)
  refine J_merge (gs2 := [gSh d h0 r0_elements f1 f2, gridJ d r0_elements 8 40 (va_up x0_elements q3 g4)]) 1 rfl rfl (gridJ_mg (ck_ok eq3).2.2) rfl ?_
  obtain rfl := Option.some.inj hf
  exact J_vret hK hR dX2_putRow_24 () rfl (by decide) (by decide)

def fX2_fitted (p0 : Int32) (p1 : Int64) : Option (Int64) :=
  if p0 = 0 then (some ((((p1).toInt32).toInt8.toInt32).toInt64)) else (if p0 = 1 then (some ((((p1).toInt32).toInt16.toInt32).toInt64)) else (if p0 = 2 then (some (((p1).toInt32).toInt64)) else (if p0 = 3 then (some p1) else (if (lg_cmp p1 (0 : Int64)) = 0 then (some (0 : Int64)) else (some (1 : Int64))))))
set_option maxHeartbeats 4000000 in
set_option maxRecDepth 100000 in
theorem kX2_fitted (l : Launch) (d : DT)  (p0 : Int32) (p1 : Int64)  {out : Int64} (hf : fX2_fitted p0 p1 = some out) : Ct l d yX2_fitted cX2_fitted 3 (some .long) { frames := 0, cells := 0, slots := 0, locals := 0 } [.int p0, .long p1] [] (fun _ : Unit => (some (.long out), [])) := by
  refine Ct.of (by decide) (Nat.le_of_ble_eq_true rfl) ?_
  intro Φ hl hK hR
  subst hl
  have hK : Ok d Φ RX2 "fitted" cX2_fitted 3 (some .long) { frames := 0, cells := 0, slots := 0, locals := 0 } := hK
  unfold fX2_fitted at hf
  show J d Φ 3 [] 0 0 0 [(0, .int p0), (1, .long p1)] []
  refine J_iload_n hK dX2_fitted_0 rfl 0 rfl rfl ?_
  by_cases hc1_0 : p0 = 0
  · have hf := ip hc1_0 hf
    refine J_swI (tg := 32) hK dX2_fitted_1 (by rw [hc1_0]; decide) (by rw [hc1_0]; decide) (by rw [hc1_0]; rfl) rfl ?_
    refine J_lload_n hK dX2_fitted_32 rfl 1 rfl rfl ?_
    refine J_l2i hK dX2_fitted_33 rfl ?_
    refine J_i2b hK dX2_fitted_34 rfl ?_
    refine J_i2l hK dX2_fitted_35 rfl ?_
    obtain rfl := Option.some.inj hf
    exact J_lret hK hR dX2_fitted_36 () rfl (by decide) (by decide)
  have hf := iq hc1_0 hf
  by_cases hc1_1 : p0 = 1
  · have hf := ip hc1_1 hf
    refine J_swI (tg := 37) hK dX2_fitted_1 (by rw [hc1_1]; decide) (by rw [hc1_1]; decide) (by rw [hc1_1]; rfl) rfl ?_
    refine J_lload_n hK dX2_fitted_37 rfl 1 rfl rfl ?_
    refine J_l2i hK dX2_fitted_38 rfl ?_
    refine J_i2s hK dX2_fitted_39 rfl ?_
    refine J_i2l hK dX2_fitted_40 rfl ?_
    obtain rfl := Option.some.inj hf
    exact J_lret hK hR dX2_fitted_41 () rfl (by decide) (by decide)
  have hf := iq hc1_1 hf
  by_cases hc1_2 : p0 = 2
  · have hf := ip hc1_2 hf
    refine J_swI (tg := 42) hK dX2_fitted_1 (by rw [hc1_2]; decide) (by rw [hc1_2]; decide) (by rw [hc1_2]; rfl) rfl ?_
    refine J_lload_n hK dX2_fitted_42 rfl 1 rfl rfl ?_
    refine J_l2i hK dX2_fitted_43 rfl ?_
    refine J_i2l hK dX2_fitted_44 rfl ?_
    obtain rfl := Option.some.inj hf
    exact J_lret hK hR dX2_fitted_45 () rfl (by decide) (by decide)
  have hf := iq hc1_2 hf
  by_cases hc1_3 : p0 = 3
  · have hf := ip hc1_3 hf
    refine J_swI (tg := 46) hK dX2_fitted_1 (by rw [hc1_3]; decide) (by rw [hc1_3]; decide) (by rw [hc1_3]; rfl) rfl ?_
    refine J_lload_n hK dX2_fitted_46 rfl 1 rfl rfl ?_
    obtain rfl := Option.some.inj hf
    exact J_lret hK hR dX2_fitted_47 () rfl (by decide) (by decide)
  have hf := iq hc1_3 hf
  refine J_swO (tg := 48) hK dX2_fitted_1 (by have q0 : ¬ p0.toInt = 0 := fun h => hc1_0 (Int32.toInt_inj.mp (h.trans (by decide))); have q1 : ¬ p0.toInt = 1 := fun h => hc1_1 (Int32.toInt_inj.mp (h.trans (by decide))); have q2 : ¬ p0.toInt = 2 := fun h => hc1_2 (Int32.toInt_inj.mp (h.trans (by decide))); have q3 : ¬ p0.toInt = 3 := fun h => hc1_3 (Int32.toInt_inj.mp (h.trans (by decide))); omega) rfl ?_
  refine J_lload_n hK dX2_fitted_48 rfl 1 rfl rfl ?_
  refine J_lconst (v := 0) hK dX2_fitted_49 rfl (by decide) ?_
  refine J_lcmp hK dX2_fitted_50 rfl ?_
  refine J_if_eq (tg := 58) hK dX2_fitted_51 rfl rfl (fun hc51 => ?_) (fun hc51 => ?_)
  · have hf := ip hc51 hf
    refine J_lconst (v := 0) hK dX2_fitted_58 rfl (by decide) ?_
    obtain rfl := Option.some.inj hf
    exact J_lret hK hR dX2_fitted_59 () rfl (by decide) (by decide)
  · have hf := iq hc51 hf
    refine J_lconst (v := 1) hK dX2_fitted_54 rfl (by decide) ?_
    refine J_goto hK dX2_fitted_55 (n := 59) rfl ?_
    obtain rfl := Option.some.inj hf
    exact J_lret hK hR dX2_fitted_59 () rfl (by decide) (by decide)

def fX2_put (X0 : ShT) (p1 : Int32) (p2 : Int32) (p3 : Int64) : Option ((Nat → Nat → Int64)) :=
  u3 (fun (x0_elements : (Nat → Nat → Int64)) (x0_held : (Nat → Int32)) (x0_sizes : (Nat → Int32)) => (ck p1 8).bind fun q1 => (rd 8 x0_held p1).bind fun v2 => (fX2_fitted v2 p3).bind (fun v3 => (wr 40 (x0_elements q1) p2 v3).bind fun f5 => some (va_up x0_elements q1 f5))) X0
set_option maxHeartbeats 4000000 in
set_option maxRecDepth 100000 in
theorem kX2_put (l : Launch) (d : DT) (h0 : Nat → Nat) (r0_elements : Nat → Nat) (x0_elements : (Nat → Nat → Int64)) (x0_held : (Nat → Int32)) (x0_sizes : (Nat → Int32)) (p1 : Int32) (p2 : Int32) (p3 : Int64)  {out : (Nat → Nat → Int64)} (hf : fX2_put (x0_elements, x0_held, x0_sizes) p1 p2 p3 = some out) : Ct l d yX2_put cX2_put 5 none { frames := 1, cells := 0, slots := 0, locals := 22 } [.ref (h0 0), .int p1, .int p2, .long p3] [gSh d h0 r0_elements x0_held x0_sizes, gridJ d r0_elements 8 40 x0_elements] (fun _ : Unit => (none, [gSh d h0 r0_elements x0_held x0_sizes, gridJ d r0_elements 8 40 out])) := by
  refine Ct.of (by decide) (Nat.le_of_ble_eq_true rfl) ?_
  intro Φ hl hK hR
  subst hl
  have hK : Ok d Φ RX2 "put" cX2_put 5 none { frames := 1, cells := 0, slots := 0, locals := 22 } := hK
  unfold fX2_put at hf
  have hf := un3 hf
  show J d Φ 5 [gSh d h0 r0_elements x0_held x0_sizes, gridJ d r0_elements 8 40 x0_elements] 0 0 0 [(0, .ref (h0 0)), (1, .int p1), (2, .int p2), (3, .long p3)] []
  refine J_aload_n hK dX2_put_0 rfl 0 rfl rfl ?_
  refine J_get hK fo_RX2_13 dX2_put_1 rfl 0 0 rfl rfl rfl ?_
  refine J_iload_n hK dX2_put_4 rfl 1 rfl rfl ?_
  obtain ⟨q1, eq1, hf⟩ := bs hf
  refine J_aald hK dX2_put_5 rfl 0 1 rfl rfl rfl eq1 ?_
  refine J_iload_n hK dX2_put_6 rfl 2 rfl rfl ?_
  refine J_aload_n hK dX2_put_7 rfl 0 rfl rfl ?_
  refine J_get hK fo_RX2_16 dX2_put_8 rfl 0 0 rfl rfl rfl ?_
  refine J_iload_n hK dX2_put_11 rfl 1 rfl rfl ?_
  obtain ⟨v2, ev2, hf⟩ := bs hf
  refine J_iald hK dX2_put_12 rfl 0 2 rfl rfl ev2 ?_
  refine J_lload_n hK dX2_put_13 rfl 3 rfl rfl ?_
  obtain ⟨v3, e4, hf⟩ := bs hf
  refine J_callS (m' := 2) (ce' := 0) (sl' := 0) (gr := [gSh d h0 r0_elements x0_held x0_sizes, gridJ d r0_elements 8 40 x0_elements]) (gs' := fun _ => [gSh d h0 r0_elements x0_held x0_sizes, gridJ d r0_elements 8 40 x0_elements]) (st' := fun _ => [.long v3, .int p2, .ref (r0_elements q1)]) (st := [.int p2, .ref (r0_elements q1)]) hK dX2_put_14 cv_RX2_40 ws_yX2_fitted (As := [.int v2, .long p3]) (kX2_fitted _ d v2 p3 e4) rfl rfl (Nat.le_of_ble_eq_true rfl) (by decide) [] [0, 1] rfl rfl rfl rfl [0, 1] rfl (fun _ => rfl) (fun _ => rfl) rfl rfl rfl (fun _ => rfl) (fun _ => ?_)
  obtain ⟨f5, ef5, hf⟩ := bs hf
  refine J_last (g' := gridJ d r0_elements 8 40 (va_up x0_elements q1 f5)) (gs' := [gSh d h0 r0_elements x0_held x0_sizes, gridJ d r0_elements 8 40 (va_up x0_elements q1 f5)]) hK dX2_put_17 rfl 1 q1 rfl (gridJ_at (ck_ok eq1).2.2) ef5 gridJ_set rfl ?_
  obtain rfl := Option.some.inj hf
  exact J_vret hK hR dX2_put_18 () rfl (by decide) (by decide)

def fX2_dropWorksFrom_s2 (p1 : Int32) (x0_elements : (Nat → Nat → Int64)) (x0_sizes : (Nat → Int32)) (z2 : Int32) (z3 : (Nat → Int32)) : Option ((Int32 × (Nat → Int32)) ⊕ ((Nat → Int32))) :=
  if 8 ≤ z2 then (some (.inr z3)) else ((fX2_workIn (x0_elements, z3, x0_sizes) z2).bind (fun v6 => if v6 < p1 then (some (.inl ((z2 + 1), z3))) else ((wr 8 z3 z2 (-1)).bind fun f8 => some (.inl ((z2 + 1), f8)))))
def fX2_dropWorksFrom (n : Nat) (X0 : ShT) (p1 : Int32) : Option ((Nat → Int32)) :=
  u3 (fun (x0_elements : (Nat → Nat → Int64)) (x0_held : (Nat → Int32)) (x0_sizes : (Nat → Int32)) => (lp (u2 (fX2_dropWorksFrom_s2 p1 x0_elements x0_sizes)) n (0, x0_held)).bind (fun w5 => some w5)) X0
set_option maxHeartbeats 4000000 in
set_option maxRecDepth 100000 in
theorem kX2_dropWorksFrom (l : Launch) (d : DT) (h0 : Nat → Nat) (r0_elements : Nat → Nat) (n : Nat) (x0_elements : (Nat → Nat → Int64)) (x0_held : (Nat → Int32)) (x0_sizes : (Nat → Int32)) (p1 : Int32)  {out : (Nat → Int32)} (hf : fX2_dropWorksFrom n (x0_elements, x0_held, x0_sizes) p1 = some out) : Ct l d yX2_dropWorksFrom cX2_dropWorksFrom 3 none { frames := 2, cells := 0, slots := 0, locals := 42 } [.ref (h0 0), .int p1] [gSh d h0 r0_elements x0_held x0_sizes] (fun _ : Unit => (none, [gSh d h0 r0_elements out x0_sizes])) := by
  refine Ct.of (by decide) (Nat.le_of_ble_eq_true rfl) ?_
  intro Φ hl hK hR
  subst hl
  have hK : Ok d Φ RX2 "dropWorksFrom" cX2_dropWorksFrom 3 none { frames := 2, cells := 0, slots := 0, locals := 42 } := hK
  unfold fX2_dropWorksFrom at hf
  have hf := un3 hf
  show J d Φ 3 [gSh d h0 r0_elements x0_held x0_sizes] 0 0 0 [(0, .ref (h0 0)), (1, .int p1)] []
  refine J_iconst (v := 0) hK dX2_dropWorksFrom_0 rfl (by decide) ?_
  refine J_istore_n (L' := [(2, .int (0)), (0, .ref (h0 0)), (1, .int p1)]) hK dX2_dropWorksFrom_1 rfl rfl (by decide) rfl ?_
  obtain ⟨e4, hl1, hf⟩ := bs hf
  have hx1_30 : ∀ (w5 : (Nat → Int32)), w5 = e4 → J d Φ 3 [gSh d h0 r0_elements w5 x0_sizes] 0 0 30 [] [] := by
    intro w5 he
    rw [← he] at hf
    obtain rfl := Option.some.inj hf
    exact J_vret hK hR dX2_dropWorksFrom_30 () rfl (by decide) (by decide)
  have lo1 : ∀ (k : Nat) (z2 : Int32) (z3 : (Nat → Int32)), lp (u2 (fX2_dropWorksFrom_s2 p1 x0_elements x0_sizes)) k (z2, z3) = some e4 → J d Φ 3 [gSh d h0 r0_elements z3 x0_sizes] 0 0 2 [(0, .ref (h0 0)), (1, .int p1), (2, .int z2)] [] := by
    intro k
    induction k with
    | zero => intro z2 z3 h; cases h
    | succ k ih1 =>
      intro z2 z3 h
      obtain ⟨k2, rr1, hk2, hs1, hr1⟩ := lp_ok h
      cases hk2
      have hs1 : fX2_dropWorksFrom_s2 p1 x0_elements x0_sizes z2 z3 = some rr1 := hs1
      unfold fX2_dropWorksFrom_s2 at hs1
      refine J_iload_n hK dX2_dropWorksFrom_2 rfl 2 rfl rfl ?_
      refine J_bipush (v := 8) hK dX2_dropWorksFrom_3 rfl (by decide) ?_
      refine J_icmp_ge (tg := 30) hK dX2_dropWorksFrom_5 rfl rfl (fun hc5 => ?_) (fun hc5 => ?_)
      · have hs1 := ip hc5 hs1
        exact J_loc [] rfl (hx1_30 z3 (lpx hs1 hr1))
      · have hs1 := iq hc5 hs1
        refine J_aload_n hK dX2_dropWorksFrom_8 rfl 0 rfl rfl ?_
        refine J_iload_n hK dX2_dropWorksFrom_9 rfl 2 rfl rfl ?_
        obtain ⟨v6, e7, hs1⟩ := bs hs1
        refine J_callV (m' := 1) (ce' := 0) (sl' := 0) (gr := []) (gs' := fun _ => [gSh d h0 r0_elements z3 x0_sizes]) (st' := fun _ => [.int v6]) (st := []) hK dX2_dropWorksFrom_10 cv_RX2_44 iv_yX2_workIn (As := [.int z2]) (kX2_workIn _ d h0 r0_elements x0_elements z3 x0_sizes z2 e7) rfl rfl (Nat.le_of_ble_eq_true rfl) (by decide) 0 0 rfl rfl rfl [0] [] rfl rfl rfl rfl [0] rfl (fun _ => rfl) (fun _ => rfl) rfl rfl rfl (fun _ => rfl) (fun _ => ?_)
        refine J_iload_n hK dX2_dropWorksFrom_13 rfl 1 rfl rfl ?_
        refine J_icmp_lt (tg := 24) hK dX2_dropWorksFrom_14 rfl rfl (fun hc14 => ?_) (fun hc14 => ?_)
        · have hs1 := ip hc14 hs1
          refine J_iinc (L' := [(2, .int (z2 + 1)), (0, .ref (h0 0)), (1, .int p1)]) (v := (z2 + 1)) hK dX2_dropWorksFrom_24 rfl 2 rfl rfl (by decide) rfl ?_
          refine J_goto hK dX2_dropWorksFrom_27 (n := 2) rfl ?_
          exact J_loc [1, 2, 0] rfl (ih1 (z2 + 1) z3 (lpc hs1 hr1))
        · have hs1 := iq hc14 hs1
          refine J_aload_n hK dX2_dropWorksFrom_17 rfl 0 rfl rfl ?_
          refine J_get hK fo_RX2_16 dX2_dropWorksFrom_18 rfl 0 0 rfl rfl rfl ?_
          refine J_iload_n hK dX2_dropWorksFrom_21 rfl 2 rfl rfl ?_
          refine J_iconst (v := (-1)) hK dX2_dropWorksFrom_22 rfl (by decide) ?_
          obtain ⟨f8, ef8, hs1⟩ := bs hs1
          refine J_iast (g' := gSh d h0 r0_elements f8 x0_sizes) (gs' := [gSh d h0 r0_elements f8 x0_sizes]) hK dX2_dropWorksFrom_23 rfl 0 2 rfl rfl ef8 rfl rfl ?_
          refine J_iinc (L' := [(2, .int (z2 + 1)), (0, .ref (h0 0)), (1, .int p1)]) (v := (z2 + 1)) hK dX2_dropWorksFrom_24 rfl 2 rfl rfl (by decide) rfl ?_
          refine J_goto hK dX2_dropWorksFrom_27 (n := 2) rfl ?_
          exact J_loc [1, 2, 0] rfl (ih1 (z2 + 1) f8 (lpc hs1 hr1))
  exact J_loc [1, 2, 0] rfl (lo1 n (0) x0_held hl1)

def fX2_inUse_s4 (x0_held : (Nat → Int32)) (z2 : Int32) (z3 : Int32) : Option ((Int32 × Int32) ⊕ (Int32)) :=
  if 8 ≤ z3 then (some (.inr z2)) else ((rd 8 x0_held z3).bind fun v6 => if v6 = (-1) then (some (.inl (z2, (z3 + 1)))) else (some (.inl ((z2 + 1), (z3 + 1)))))
def fX2_inUse (n : Nat) (X0 : ShT) : Option (Int32) :=
  u3 (fun (x0_elements : (Nat → Nat → Int64)) (x0_held : (Nat → Int32)) (x0_sizes : (Nat → Int32)) => (lp (u2 (fX2_inUse_s4 x0_held)) n (0, 0)).bind (fun w5 => some w5)) X0
set_option maxHeartbeats 4000000 in
set_option maxRecDepth 100000 in
theorem kX2_inUse (l : Launch) (d : DT) (h0 : Nat → Nat) (r0_elements : Nat → Nat) (n : Nat) (x0_elements : (Nat → Nat → Int64)) (x0_held : (Nat → Int32)) (x0_sizes : (Nat → Int32))  {out : Int32} (hf : fX2_inUse n (x0_elements, x0_held, x0_sizes) = some out) : Ct l d yX2_inUse cX2_inUse 3 (some .int) { frames := 0, cells := 0, slots := 0, locals := 0 } [.ref (h0 0)] [gSh d h0 r0_elements x0_held x0_sizes] (fun _ : Unit => (some (.int out), [gSh d h0 r0_elements x0_held x0_sizes])) := by
  refine Ct.of (by decide) (Nat.le_of_ble_eq_true rfl) ?_
  intro Φ hl hK hR
  subst hl
  have hK : Ok d Φ RX2 "inUse" cX2_inUse 3 (some .int) { frames := 0, cells := 0, slots := 0, locals := 0 } := hK
  unfold fX2_inUse at hf
  have hf := un3 hf
  show J d Φ 3 [gSh d h0 r0_elements x0_held x0_sizes] 0 0 0 [(0, .ref (h0 0))] []
  refine J_iconst (v := 0) hK dX2_inUse_0 rfl (by decide) ?_
  refine J_istore_n (L' := [(1, .int (0)), (0, .ref (h0 0))]) hK dX2_inUse_1 rfl rfl (by decide) rfl ?_
  refine J_iconst (v := 0) hK dX2_inUse_2 rfl (by decide) ?_
  refine J_istore_n (L' := [(2, .int (0)), (1, .int (0)), (0, .ref (h0 0))]) hK dX2_inUse_3 rfl rfl (by decide) rfl ?_
  obtain ⟨e4, hl1, hf⟩ := bs hf
  have hx1_29 : ∀ (w5 : Int32), w5 = e4 → J d Φ 3 [gSh d h0 r0_elements x0_held x0_sizes] 0 0 29 [(1, .int w5)] [] := by
    intro w5 he
    rw [← he] at hf
    refine J_iload_n hK dX2_inUse_29 rfl 0 rfl rfl ?_
    obtain rfl := Option.some.inj hf
    exact J_iret hK hR dX2_inUse_30 () rfl (by decide) (by decide)
  have lo1 : ∀ (k : Nat) (z2 : Int32) (z3 : Int32), lp (u2 (fX2_inUse_s4 x0_held)) k (z2, z3) = some e4 → J d Φ 3 [gSh d h0 r0_elements x0_held x0_sizes] 0 0 4 [(0, .ref (h0 0)), (1, .int z2), (2, .int z3)] [] := by
    intro k
    induction k with
    | zero => intro z2 z3 h; cases h
    | succ k ih1 =>
      intro z2 z3 h
      obtain ⟨k2, rr1, hk2, hs1, hr1⟩ := lp_ok h
      cases hk2
      have hs1 : fX2_inUse_s4 x0_held z2 z3 = some rr1 := hs1
      unfold fX2_inUse_s4 at hs1
      refine J_iload_n hK dX2_inUse_4 rfl 2 rfl rfl ?_
      refine J_bipush (v := 8) hK dX2_inUse_5 rfl (by decide) ?_
      refine J_icmp_ge (tg := 29) hK dX2_inUse_7 rfl rfl (fun hc7 => ?_) (fun hc7 => ?_)
      · have hs1 := ip hc7 hs1
        exact J_loc [1] rfl (hx1_29 z2 (lpx hs1 hr1))
      · have hs1 := iq hc7 hs1
        refine J_aload_n hK dX2_inUse_10 rfl 0 rfl rfl ?_
        refine J_get hK fo_RX2_16 dX2_inUse_11 rfl 0 0 rfl rfl rfl ?_
        refine J_iload_n hK dX2_inUse_14 rfl 2 rfl rfl ?_
        obtain ⟨v6, ev6, hs1⟩ := bs hs1
        refine J_iald hK dX2_inUse_15 rfl 0 2 rfl rfl ev6 ?_
        refine J_iconst (v := (-1)) hK dX2_inUse_16 rfl (by decide) ?_
        refine J_icmp_eq (tg := 23) hK dX2_inUse_17 rfl rfl (fun hc17 => ?_) (fun hc17 => ?_)
        · have hs1 := ip hc17 hs1
          refine J_iinc (L' := [(2, .int (z3 + 1)), (0, .ref (h0 0)), (1, .int z2)]) (v := (z3 + 1)) hK dX2_inUse_23 rfl 2 rfl rfl (by decide) rfl ?_
          refine J_goto hK dX2_inUse_26 (n := 4) rfl ?_
          exact J_loc [1, 2, 0] rfl (ih1 z2 (z3 + 1) (lpc hs1 hr1))
        · have hs1 := iq hc17 hs1
          refine J_iinc (L' := [(1, .int (z2 + 1)), (0, .ref (h0 0)), (2, .int z3)]) (v := (z2 + 1)) hK dX2_inUse_20 rfl 1 rfl rfl (by decide) rfl ?_
          refine J_iinc (L' := [(2, .int (z3 + 1)), (1, .int (z2 + 1)), (0, .ref (h0 0))]) (v := (z3 + 1)) hK dX2_inUse_23 rfl 2 rfl rfl (by decide) rfl ?_
          refine J_goto hK dX2_inUse_26 (n := 4) rfl ?_
          exact J_loc [2, 1, 0] rfl (ih1 (z2 + 1) (z3 + 1) (lpc hs1 hr1))
  exact J_loc [2, 1, 0] rfl (lo1 n (0) (0) hl1)

def fX3_put (X0 : TpT) (p1 : Int32) : Option ((Nat → Int32) × Int32) :=
  u6 (fun (x0_bytes : (Nat → Int32)) (x0_size : Int32) (x0_start : Int32) (x0_end : Int32) (x0_token : Int32) (x0_value : Int32) => if 250 ≤ x0_size then (some (x0_bytes, x0_size)) else ((wr 250 x0_bytes x0_size p1).bind fun f1 => some (f1, (x0_size + 1)))) X0
set_option maxHeartbeats 4000000 in
set_option maxRecDepth 100000 in
theorem kX3_put (l : Launch) (d : DT) (h0 : Nat → Nat) (x0_bytes : (Nat → Int32)) (x0_size : Int32) (x0_start : Int32) (x0_end : Int32) (x0_token : Int32) (x0_value : Int32) (p1 : Int32)  {out : (Nat → Int32) × Int32} (hf : fX3_put (x0_bytes, x0_size, x0_start, x0_end, x0_token, x0_value) p1 = some out) : Ct l d yX3_put cX3_put 2 none { frames := 0, cells := 0, slots := 0, locals := 0 } [.ref (h0 0), .int p1] [gTp d h0 x0_bytes x0_size x0_start x0_end x0_token x0_value] (fun _ : Unit => (none, [gTp d h0 (out.1) (out.2) x0_start x0_end x0_token x0_value])) := by
  refine Ct.of (by decide) (Nat.le_of_ble_eq_true rfl) ?_
  intro Φ hl hK hR
  subst hl
  have hK : Ok d Φ RX3 "put" cX3_put 2 none { frames := 0, cells := 0, slots := 0, locals := 0 } := hK
  unfold fX3_put at hf
  have hf := un6 hf
  show J d Φ 2 [gTp d h0 x0_bytes x0_size x0_start x0_end x0_token x0_value] 0 0 0 [(0, .ref (h0 0)), (1, .int p1)] []
  refine J_aload_n hK dX3_put_0 rfl 0 rfl rfl ?_
  refine J_get hK fo_RX3_15 dX3_put_1 rfl 0 0 rfl rfl rfl ?_
  refine J_sipush (v := 250) hK dX3_put_4 rfl (by decide) ?_
  refine J_icmp_ge (tg := 30) hK dX3_put_7 rfl rfl (fun hc7 => ?_) (fun hc7 => ?_)
  · have hf := ip hc7 hf
    obtain rfl := Option.some.inj hf
    exact J_vret hK hR dX3_put_30 () rfl (by decide) (by decide)
  · have hf := iq hc7 hf
    refine J_aload_n hK dX3_put_10 rfl 0 rfl rfl ?_
    refine J_get hK fo_RX3_11 dX3_put_11 rfl 0 0 rfl rfl rfl ?_
    refine J_aload_n hK dX3_put_14 rfl 0 rfl rfl ?_
    refine J_get hK fo_RX3_15 dX3_put_15 rfl 0 0 rfl rfl rfl ?_
    refine J_iload_n hK dX3_put_18 rfl 1 rfl rfl ?_
    obtain ⟨f1, ef1, hf⟩ := bs hf
    refine J_iast (g' := gTp d h0 f1 x0_size x0_start x0_end x0_token x0_value) (gs' := [gTp d h0 f1 x0_size x0_start x0_end x0_token x0_value]) hK dX3_put_19 rfl 0 1 rfl rfl ef1 rfl rfl ?_
    refine J_aload_n hK dX3_put_20 rfl 0 rfl rfl ?_
    refine J_dup hK dX3_put_21 rfl rfl ?_
    refine J_get hK fo_RX3_15 dX3_put_22 rfl 0 0 rfl rfl rfl ?_
    refine J_iconst (v := 1) hK dX3_put_25 rfl (by decide) ?_
    refine J_iadd hK dX3_put_26 rfl ?_
    refine J_put (g' := gTp d h0 f1 (x0_size + 1) x0_start x0_end x0_token x0_value) (gs' := [gTp d h0 f1 (x0_size + 1) x0_start x0_end x0_token x0_value]) hK fp_RX3_15 dX3_put_27 rfl 0 0 rfl rfl rfl rfl (Nat.le_of_ble_eq_true rfl) rfl rfl ?_
    obtain rfl := Option.some.inj hf
    exact J_vret hK hR dX3_put_30 () rfl (by decide) (by decide)

def fX3_tokenAt_j45 (v1 : Int32) : Option (Int32) :=
  if v1 = 59 then (some (3)) else (some (4))
def fX3_tokenAt_j31 (v1 : Int32) : Option (Int32) :=
  if v1 < 48 then (fX3_tokenAt_j45 v1) else (if 57 < v1 then (fX3_tokenAt_j45 v1) else (some (2)))
def fX3_tokenAt (X0 : TpT) (p1 : Int32) : Option (Int32) :=
  u6 (fun (x0_bytes : (Nat → Int32)) (x0_size : Int32) (x0_start : Int32) (x0_end : Int32) (x0_token : Int32) (x0_value : Int32) => if p1 < x0_size then ((rd 250 x0_bytes p1).bind fun v1 => if v1 < 97 then (fX3_tokenAt_j31 v1) else (if 122 < v1 then (fX3_tokenAt_j31 v1) else (some (1)))) else (some (0))) X0
set_option maxHeartbeats 4000000 in
set_option maxRecDepth 100000 in
theorem kX3_tokenAt (l : Launch) (d : DT) (h0 : Nat → Nat) (x0_bytes : (Nat → Int32)) (x0_size : Int32) (x0_start : Int32) (x0_end : Int32) (x0_token : Int32) (x0_value : Int32) (p1 : Int32)  {out : Int32} (hf : fX3_tokenAt (x0_bytes, x0_size, x0_start, x0_end, x0_token, x0_value) p1 = some out) : Ct l d yX3_tokenAt cX3_tokenAt 3 (some .int) { frames := 0, cells := 0, slots := 0, locals := 0 } [.ref (h0 0), .int p1] [gTp d h0 x0_bytes x0_size x0_start x0_end x0_token x0_value] (fun _ : Unit => (some (.int out), [gTp d h0 x0_bytes x0_size x0_start x0_end x0_token x0_value])) := by
  refine Ct.of (by decide) (Nat.le_of_ble_eq_true rfl) ?_
  intro Φ hl hK hR
  subst hl
  have hK : Ok d Φ RX3 "tokenAt" cX3_tokenAt 3 (some .int) { frames := 0, cells := 0, slots := 0, locals := 0 } := hK
  unfold fX3_tokenAt at hf
  have hf := un6 hf
  show J d Φ 3 [gTp d h0 x0_bytes x0_size x0_start x0_end x0_token x0_value] 0 0 0 [(0, .ref (h0 0)), (1, .int p1)] []
  refine J_iload_n hK dX3_tokenAt_0 rfl 1 rfl rfl ?_
  refine J_aload_n hK dX3_tokenAt_1 rfl 0 rfl rfl ?_
  refine J_get hK fo_RX3_15 dX3_tokenAt_2 rfl 0 0 rfl rfl rfl ?_
  refine J_icmp_lt (tg := 10) hK dX3_tokenAt_5 rfl rfl (fun hc5 => ?_) (fun hc5 => ?_)
  · have hf := ip hc5 hf
    refine J_aload_n hK dX3_tokenAt_10 rfl 0 rfl rfl ?_
    refine J_get hK fo_RX3_11 dX3_tokenAt_11 rfl 0 0 rfl rfl rfl ?_
    refine J_iload_n hK dX3_tokenAt_14 rfl 1 rfl rfl ?_
    obtain ⟨v1, ev1, hf⟩ := bs hf
    refine J_iald hK dX3_tokenAt_15 rfl 0 1 rfl rfl ev1 ?_
    refine J_istore_n (L' := [(2, .int v1), (0, .ref (h0 0)), (1, .int p1)]) hK dX3_tokenAt_16 rfl rfl (by decide) rfl ?_
    refine J_iload_n hK dX3_tokenAt_17 rfl 0 rfl rfl ?_
    refine J_bipush (v := 97) hK dX3_tokenAt_18 rfl (by decide) ?_
    have j31 : fX3_tokenAt_j31 v1 = some out → J d Φ 3 [gTp d h0 x0_bytes x0_size x0_start x0_end x0_token x0_value] 0 0 31 [(2, .int v1)] [] := by
      intro  hf
      unfold fX3_tokenAt_j31 at hf
      refine J_iload_n hK dX3_tokenAt_31 rfl 0 rfl rfl ?_
      refine J_bipush (v := 48) hK dX3_tokenAt_32 rfl (by decide) ?_
      have j45 : fX3_tokenAt_j45 v1 = some out → J d Φ 3 [gTp d h0 x0_bytes x0_size x0_start x0_end x0_token x0_value] 0 0 45 [(2, .int v1)] [] := by
        intro  hf
        unfold fX3_tokenAt_j45 at hf
        refine J_iload_n hK dX3_tokenAt_45 rfl 0 rfl rfl ?_
        refine J_bipush (v := 59) hK dX3_tokenAt_46 rfl (by decide) ?_
        refine J_icmp_ne (tg := 55) hK dX3_tokenAt_48 rfl rfl (fun hc48 => ?_) (fun hc48 => ?_)
        · have hf := iq hc48 hf
          refine J_iconst (v := 4) hK dX3_tokenAt_55 rfl (by decide) ?_
          obtain rfl := Option.some.inj hf
          exact J_iret hK hR dX3_tokenAt_56 () rfl (by decide) (by decide)
        · have hf := ip hc48 hf
          refine J_iconst (v := 3) hK dX3_tokenAt_51 rfl (by decide) ?_
          refine J_goto hK dX3_tokenAt_52 (n := 56) rfl ?_
          obtain rfl := Option.some.inj hf
          exact J_iret hK hR dX3_tokenAt_56 () rfl (by decide) (by decide)
      refine J_icmp_lt (tg := 45) hK dX3_tokenAt_34 rfl rfl (fun hc34 => ?_) (fun hc34 => ?_)
      · have hf := ip hc34 hf
        exact (j45  hf)
      · have hf := iq hc34 hf
        refine J_iload_n hK dX3_tokenAt_37 rfl 0 rfl rfl ?_
        refine J_bipush (v := 57) hK dX3_tokenAt_38 rfl (by decide) ?_
        refine J_icmp_gt (tg := 45) hK dX3_tokenAt_40 rfl rfl (fun hc40 => ?_) (fun hc40 => ?_)
        · have hf := ip hc40 hf
          exact (j45  hf)
        · have hf := iq hc40 hf
          refine J_iconst (v := 2) hK dX3_tokenAt_43 rfl (by decide) ?_
          obtain rfl := Option.some.inj hf
          exact J_iret hK hR dX3_tokenAt_44 () rfl (by decide) (by decide)
    refine J_icmp_lt (tg := 31) hK dX3_tokenAt_20 rfl rfl (fun hc20 => ?_) (fun hc20 => ?_)
    · have hf := ip hc20 hf
      exact J_loc [0] rfl (j31  hf)
    · have hf := iq hc20 hf
      refine J_iload_n hK dX3_tokenAt_23 rfl 0 rfl rfl ?_
      refine J_bipush (v := 122) hK dX3_tokenAt_24 rfl (by decide) ?_
      refine J_icmp_gt (tg := 31) hK dX3_tokenAt_26 rfl rfl (fun hc26 => ?_) (fun hc26 => ?_)
      · have hf := ip hc26 hf
        exact J_loc [0] rfl (j31  hf)
      · have hf := iq hc26 hf
        refine J_iconst (v := 1) hK dX3_tokenAt_29 rfl (by decide) ?_
        obtain rfl := Option.some.inj hf
        exact J_iret hK hR dX3_tokenAt_30 () rfl (by decide) (by decide)
  · have hf := iq hc5 hf
    refine J_iconst (v := 0) hK dX3_tokenAt_8 rfl (by decide) ?_
    obtain rfl := Option.some.inj hf
    exact J_iret hK hR dX3_tokenAt_9 () rfl (by decide) (by decide)

def fX3_valueHere_s22 (x0_bytes : (Nat → Int32)) (x0_end : Int32) (z2 : Int32) (z3 : Int32) : Option ((Int32 × Int32) ⊕ (Int32)) :=
  if x0_end ≤ z3 then (some (.inr z2)) else ((rd 250 x0_bytes z3).bind fun v6 => some (.inl ((((10 * z2) + v6) - 48), (z3 + 1))))
def fX3_valueHere (n : Nat) (X0 : TpT) : Option (Int32) :=
  u6 (fun (x0_bytes : (Nat → Int32)) (x0_size : Int32) (x0_start : Int32) (x0_end : Int32) (x0_token : Int32) (x0_value : Int32) => if (x0_end - x0_start) ≤ 3 then ((lp (u2 (fX3_valueHere_s22 x0_bytes x0_end)) n (0, x0_start)).bind (fun w5 => some w5)) else (some (-1))) X0
set_option maxHeartbeats 4000000 in
set_option maxRecDepth 100000 in
theorem kX3_valueHere (l : Launch) (d : DT) (h0 : Nat → Nat) (n : Nat) (x0_bytes : (Nat → Int32)) (x0_size : Int32) (x0_start : Int32) (x0_end : Int32) (x0_token : Int32) (x0_value : Int32)  {out : Int32} (hf : fX3_valueHere n (x0_bytes, x0_size, x0_start, x0_end, x0_token, x0_value) = some out) : Ct l d yX3_valueHere cX3_valueHere 3 (some .int) { frames := 0, cells := 0, slots := 0, locals := 0 } [.ref (h0 0)] [gTp d h0 x0_bytes x0_size x0_start x0_end x0_token x0_value] (fun _ : Unit => (some (.int out), [gTp d h0 x0_bytes x0_size x0_start x0_end x0_token x0_value])) := by
  refine Ct.of (by decide) (Nat.le_of_ble_eq_true rfl) ?_
  intro Φ hl hK hR
  subst hl
  have hK : Ok d Φ RX3 "valueHere" cX3_valueHere 3 (some .int) { frames := 0, cells := 0, slots := 0, locals := 0 } := hK
  unfold fX3_valueHere at hf
  have hf := un6 hf
  show J d Φ 3 [gTp d h0 x0_bytes x0_size x0_start x0_end x0_token x0_value] 0 0 0 [(0, .ref (h0 0))] []
  refine J_aload_n hK dX3_valueHere_0 rfl 0 rfl rfl ?_
  refine J_get hK fo_RX3_19 dX3_valueHere_1 rfl 0 0 rfl rfl rfl ?_
  refine J_aload_n hK dX3_valueHere_4 rfl 0 rfl rfl ?_
  refine J_get hK fo_RX3_29 dX3_valueHere_5 rfl 0 0 rfl rfl rfl ?_
  refine J_isub hK dX3_valueHere_8 rfl ?_
  refine J_iconst (v := 3) hK dX3_valueHere_9 rfl (by decide) ?_
  refine J_icmp_le (tg := 15) hK dX3_valueHere_10 rfl rfl (fun hc10 => ?_) (fun hc10 => ?_)
  · have hf := ip hc10 hf
    refine J_iconst (v := 0) hK dX3_valueHere_15 rfl (by decide) ?_
    refine J_istore_n (L' := [(1, .int (0)), (0, .ref (h0 0))]) hK dX3_valueHere_16 rfl rfl (by decide) rfl ?_
    refine J_aload_n hK dX3_valueHere_17 rfl 1 rfl rfl ?_
    refine J_get hK fo_RX3_29 dX3_valueHere_18 rfl 0 0 rfl rfl rfl ?_
    refine J_istore_n (L' := [(2, .int x0_start), (1, .int (0)), (0, .ref (h0 0))]) hK dX3_valueHere_21 rfl rfl (by decide) rfl ?_
    obtain ⟨e4, hl1, hf⟩ := bs hf
    have hx1_51 : ∀ (w5 : Int32), w5 = e4 → J d Φ 3 [gTp d h0 x0_bytes x0_size x0_start x0_end x0_token x0_value] 0 0 51 [(1, .int w5)] [] := by
      intro w5 he
      rw [← he] at hf
      refine J_iload_n hK dX3_valueHere_51 rfl 0 rfl rfl ?_
      obtain rfl := Option.some.inj hf
      exact J_iret hK hR dX3_valueHere_52 () rfl (by decide) (by decide)
    have lo1 : ∀ (k : Nat) (z2 : Int32) (z3 : Int32), lp (u2 (fX3_valueHere_s22 x0_bytes x0_end)) k (z2, z3) = some e4 → J d Φ 3 [gTp d h0 x0_bytes x0_size x0_start x0_end x0_token x0_value] 0 0 22 [(0, .ref (h0 0)), (1, .int z2), (2, .int z3)] [] := by
      intro k
      induction k with
      | zero => intro z2 z3 h; cases h
      | succ k ih1 =>
        intro z2 z3 h
        obtain ⟨k2, rr1, hk2, hs1, hr1⟩ := lp_ok h
        cases hk2
        have hs1 : fX3_valueHere_s22 x0_bytes x0_end z2 z3 = some rr1 := hs1
        unfold fX3_valueHere_s22 at hs1
        refine J_iload_n hK dX3_valueHere_22 rfl 2 rfl rfl ?_
        refine J_aload_n hK dX3_valueHere_23 rfl 0 rfl rfl ?_
        refine J_get hK fo_RX3_19 dX3_valueHere_24 rfl 0 0 rfl rfl rfl ?_
        refine J_icmp_ge (tg := 51) hK dX3_valueHere_27 rfl rfl (fun hc27 => ?_) (fun hc27 => ?_)
        · have hs1 := ip hc27 hs1
          exact J_loc [1] rfl (hx1_51 z2 (lpx hs1 hr1))
        · have hs1 := iq hc27 hs1
          refine J_bipush (v := 10) hK dX3_valueHere_30 rfl (by decide) ?_
          refine J_iload_n hK dX3_valueHere_32 rfl 1 rfl rfl ?_
          refine J_imul hK dX3_valueHere_33 rfl ?_
          refine J_aload_n hK dX3_valueHere_34 rfl 0 rfl rfl ?_
          refine J_get hK fo_RX3_11 dX3_valueHere_35 rfl 0 0 rfl rfl rfl ?_
          refine J_iload_n hK dX3_valueHere_38 rfl 2 rfl rfl ?_
          obtain ⟨v6, ev6, hs1⟩ := bs hs1
          refine J_iald hK dX3_valueHere_39 rfl 0 1 rfl rfl ev6 ?_
          refine J_iadd hK dX3_valueHere_40 rfl ?_
          refine J_bipush (v := 48) hK dX3_valueHere_41 rfl (by decide) ?_
          refine J_isub hK dX3_valueHere_43 rfl ?_
          refine J_istore_n (L' := [(1, .int (((10 * z2) + v6) - 48)), (0, .ref (h0 0)), (2, .int z3)]) hK dX3_valueHere_44 rfl rfl (by decide) rfl ?_
          refine J_iinc (L' := [(2, .int (z3 + 1)), (1, .int (((10 * z2) + v6) - 48)), (0, .ref (h0 0))]) (v := (z3 + 1)) hK dX3_valueHere_45 rfl 2 rfl rfl (by decide) rfl ?_
          refine J_goto hK dX3_valueHere_48 (n := 22) rfl ?_
          exact J_loc [2, 1, 0] rfl (ih1 (((10 * z2) + v6) - 48) (z3 + 1) (lpc hs1 hr1))
    exact J_loc [2, 1, 0] rfl (lo1 n (0) x0_start hl1)
  · have hf := iq hc10 hf
    refine J_iconst (v := (-1)) hK dX3_valueHere_13 rfl (by decide) ?_
    obtain rfl := Option.some.inj hf
    exact J_iret hK hR dX3_valueHere_14 () rfl (by decide) (by decide)

def fX3_next_j96 (n : Nat) (x0_bytes : (Nat → Int32)) (x0_size : Int32) (x0_value : Int32) (w4 : Int32) (v5 : Int32) (y8 : Int32) : Option (Int32 × Int32 × Int32 × Int32) :=
  if v5 = 2 then ((fX3_valueHere n (x0_bytes, x0_size, w4, y8, v5, x0_value)).bind (fun v9 => some (w4, y8, v5, v9))) else (some (w4, y8, v5, (-1)))
def fX3_next_s70 (x0_bytes : (Nat → Int32)) (x0_size : Int32) (x0_end : Int32) (x0_value : Int32) (w4 : Int32) (v5 : Int32) (z12 : Int32) : Option ((Int32) ⊕ (Int32)) :=
  if x0_size ≤ z12 then (some (.inr z12)) else ((fX3_tokenAt (x0_bytes, x0_size, w4, x0_end, v5, x0_value) z12).bind (fun v15 => if v15 = v5 then (some (.inl (z12 + 1))) else (some (.inr z12))))
def fX3_next_s70b (x0_bytes : (Nat → Int32)) (x0_size : Int32) (x0_end : Int32) (x0_value : Int32) (w4 : Int32) (v5 : Int32) (z18 : Int32) : Option ((Int32) ⊕ (Int32)) :=
  if x0_size ≤ z18 then (some (.inr z18)) else ((fX3_tokenAt (x0_bytes, x0_size, w4, x0_end, v5, x0_value) z18).bind (fun v21 => if v21 = v5 then (some (.inl (z18 + 1))) else (some (.inr z18))))
def fX3_next_j54 (n : Nat) (x0_bytes : (Nat → Int32)) (x0_size : Int32) (x0_end : Int32) (x0_value : Int32) (w4 : Int32) (v5 : Int32) (y7 : Int32) : Option (Int32 × Int32 × Int32 × Int32) :=
  if v5 = 1 then ((lp (fX3_next_s70 x0_bytes x0_size x0_end x0_value w4 v5) n y7).bind (fun w14 => fX3_next_j96 n x0_bytes x0_size x0_value w4 v5 w14)) else (if v5 = 2 then ((lp (fX3_next_s70b x0_bytes x0_size x0_end x0_value w4 v5) n y7).bind (fun w20 => fX3_next_j96 n x0_bytes x0_size x0_value w4 v5 w20)) else (fX3_next_j96 n x0_bytes x0_size x0_value w4 v5 y7))
def fX3_next_s5 (x0_bytes : (Nat → Int32)) (x0_size : Int32) (z2 : Int32) : Option ((Int32) ⊕ (Int32)) :=
  if x0_size ≤ z2 then (some (.inr z2)) else ((rd 250 x0_bytes z2).bind fun v23 => if v23 = 32 then (some (.inl (z2 + 1))) else (some (.inr z2)))
def fX3_next (n : Nat) (X0 : TpT) : Option (Int32 × Int32 × Int32 × Int32) :=
  u6 (fun (x0_bytes : (Nat → Int32)) (x0_size : Int32) (x0_start : Int32) (x0_end : Int32) (x0_token : Int32) (x0_value : Int32) => (lp (fX3_next_s5 x0_bytes x0_size) n x0_end).bind (fun w4 => (fX3_tokenAt (x0_bytes, x0_size, w4, x0_end, x0_token, x0_value) w4).bind (fun v5 => if v5 = 0 then (fX3_next_j54 n x0_bytes x0_size x0_end x0_value w4 v5 w4) else (fX3_next_j54 n x0_bytes x0_size x0_end x0_value w4 v5 (w4 + 1))))) X0
set_option maxHeartbeats 4000000 in
set_option maxRecDepth 100000 in
theorem kX3_next (l : Launch) (d : DT) (h0 : Nat → Nat) (n : Nat) (x0_bytes : (Nat → Int32)) (x0_size : Int32) (x0_start : Int32) (x0_end : Int32) (x0_token : Int32) (x0_value : Int32)  {out : Int32 × Int32 × Int32 × Int32} (hf : fX3_next n (x0_bytes, x0_size, x0_start, x0_end, x0_token, x0_value) = some out) : Ct l d yX3_next cX3_next 2 none { frames := 1, cells := 0, slots := 0, locals := 22 } [.ref (h0 0)] [gTp d h0 x0_bytes x0_size x0_start x0_end x0_token x0_value] (fun _ : Unit => (none, [gTp d h0 x0_bytes x0_size (out.1) (out.2.1) (out.2.2.1) (out.2.2.2)])) := by
  refine Ct.of (by decide) (Nat.le_of_ble_eq_true rfl) ?_
  intro Φ hl hK hR
  subst hl
  have hK : Ok d Φ RX3 "next" cX3_next 2 none { frames := 1, cells := 0, slots := 0, locals := 22 } := hK
  unfold fX3_next at hf
  have hf := un6 hf
  show J d Φ 2 [gTp d h0 x0_bytes x0_size x0_start x0_end x0_token x0_value] 0 0 0 [(0, .ref (h0 0))] []
  refine J_aload_n hK dX3_next_0 rfl 0 rfl rfl ?_
  refine J_get hK fo_RX3_19 dX3_next_1 rfl 0 0 rfl rfl rfl ?_
  refine J_istore_n (L' := [(1, .int x0_end), (0, .ref (h0 0))]) hK dX3_next_4 rfl rfl (by decide) rfl ?_
  obtain ⟨e3, hl1, hf⟩ := bs hf
  have hx1_30 : ∀ (w4 : Int32), w4 = e3 → J d Φ 2 [gTp d h0 x0_bytes x0_size x0_start x0_end x0_token x0_value] 0 0 30 [(0, .ref (h0 0)), (1, .int w4)] [] := by
    intro w4 he
    rw [← he] at hf
    refine J_aload_n hK dX3_next_30 rfl 0 rfl rfl ?_
    refine J_iload_n hK dX3_next_31 rfl 1 rfl rfl ?_
    refine J_put (g' := gTp d h0 x0_bytes x0_size w4 x0_end x0_token x0_value) (gs' := [gTp d h0 x0_bytes x0_size w4 x0_end x0_token x0_value]) hK fp_RX3_29 dX3_next_32 rfl 0 0 rfl rfl rfl rfl (Nat.le_of_ble_eq_true rfl) rfl rfl ?_
    refine J_aload_n hK dX3_next_35 rfl 0 rfl rfl ?_
    refine J_aload_n hK dX3_next_36 rfl 0 rfl rfl ?_
    refine J_iload_n hK dX3_next_37 rfl 1 rfl rfl ?_
    obtain ⟨v5, e6, hf⟩ := bs hf
    refine J_callV (m' := 1) (ce' := 0) (sl' := 0) (gr := []) (gs' := fun _ => [gTp d h0 x0_bytes x0_size w4 x0_end x0_token x0_value]) (st' := fun _ => [.int v5, .ref (h0 0)]) (st := [.ref (h0 0)]) hK dX3_next_38 cv_RX3_148 iv_yX3_tokenAt (As := [.int w4]) (kX3_tokenAt _ d h0 x0_bytes x0_size w4 x0_end x0_token x0_value w4 e6) rfl rfl (Nat.le_of_ble_eq_true rfl) (by decide) 0 0 rfl rfl rfl [0] [] rfl rfl rfl rfl [0] rfl (fun _ => rfl) (fun _ => rfl) rfl rfl rfl (fun _ => rfl) (fun _ => ?_)
    refine J_put (g' := gTp d h0 x0_bytes x0_size w4 x0_end v5 x0_value) (gs' := [gTp d h0 x0_bytes x0_size w4 x0_end v5 x0_value]) hK fp_RX3_32 dX3_next_41 rfl 0 0 rfl rfl rfl rfl (Nat.le_of_ble_eq_true rfl) rfl rfl ?_
    refine J_aload_n hK dX3_next_44 rfl 0 rfl rfl ?_
    refine J_get hK fo_RX3_32 dX3_next_45 rfl 0 0 rfl rfl rfl ?_
    have j54 : ∀ (y7 : Int32), fX3_next_j54 n x0_bytes x0_size x0_end x0_value w4 v5 y7 = some out → J d Φ 2 [gTp d h0 x0_bytes x0_size w4 x0_end v5 x0_value] 0 0 54 [(0, .ref (h0 0)), (1, .int y7)] [] := by
      intro y7 hf
      unfold fX3_next_j54 at hf
      refine J_aload_n hK dX3_next_54 rfl 0 rfl rfl ?_
      refine J_get hK fo_RX3_32 dX3_next_55 rfl 0 0 rfl rfl rfl ?_
      refine J_iconst (v := 1) hK dX3_next_58 rfl (by decide) ?_
      have j96 : ∀ (y8 : Int32), fX3_next_j96 n x0_bytes x0_size x0_value w4 v5 y8 = some out → J d Φ 2 [gTp d h0 x0_bytes x0_size w4 x0_end v5 x0_value] 0 0 96 [(0, .ref (h0 0)), (1, .int y8)] [] := by
        intro y8 hf
        unfold fX3_next_j96 at hf
        refine J_aload_n hK dX3_next_96 rfl 0 rfl rfl ?_
        refine J_iload_n hK dX3_next_97 rfl 1 rfl rfl ?_
        refine J_put (g' := gTp d h0 x0_bytes x0_size w4 y8 v5 x0_value) (gs' := [gTp d h0 x0_bytes x0_size w4 y8 v5 x0_value]) hK fp_RX3_19 dX3_next_98 rfl 0 0 rfl rfl rfl rfl (Nat.le_of_ble_eq_true rfl) rfl rfl ?_
        refine J_aload_n hK dX3_next_101 rfl 0 rfl rfl ?_
        refine J_aload_n hK dX3_next_102 rfl 0 rfl rfl ?_
        refine J_get hK fo_RX3_32 dX3_next_103 rfl 0 0 rfl rfl rfl ?_
        refine J_iconst (v := 2) hK dX3_next_106 rfl (by decide) ?_
        refine J_icmp_ne (tg := 117) hK dX3_next_107 rfl rfl (fun hc107 => ?_) (fun hc107 => ?_)
        · have hf := iq hc107 hf
          refine J_iconst (v := (-1)) hK dX3_next_117 rfl (by decide) ?_
          refine J_put (g' := gTp d h0 x0_bytes x0_size w4 y8 v5 (-1)) (gs' := [gTp d h0 x0_bytes x0_size w4 y8 v5 (-1)]) hK fp_RX3_131 dX3_next_118 rfl 0 0 rfl rfl rfl rfl (Nat.le_of_ble_eq_true rfl) rfl rfl ?_
          obtain rfl := Option.some.inj hf
          exact J_vret hK hR dX3_next_121 () rfl (by decide) (by decide)
        · have hf := ip hc107 hf
          refine J_aload_n hK dX3_next_110 rfl 0 rfl rfl ?_
          obtain ⟨v9, e10, hf⟩ := bs hf
          refine J_callV (m' := 1) (ce' := 0) (sl' := 0) (gr := []) (gs' := fun _ => [gTp d h0 x0_bytes x0_size w4 y8 v5 x0_value]) (st' := fun _ => [.int v9, .ref (h0 0)]) (st := [.ref (h0 0)]) hK dX3_next_111 cv_RX3_151 iv_yX3_valueHere (As := []) (kX3_valueHere _ d h0 n x0_bytes x0_size w4 y8 v5 x0_value e10) rfl rfl (Nat.le_of_ble_eq_true rfl) (by decide) 0 0 rfl rfl rfl [0] [] rfl rfl rfl rfl [0] rfl (fun _ => rfl) (fun _ => rfl) rfl rfl rfl (fun _ => rfl) (fun _ => ?_)
          refine J_goto hK dX3_next_114 (n := 118) rfl ?_
          refine J_put (g' := gTp d h0 x0_bytes x0_size w4 y8 v5 v9) (gs' := [gTp d h0 x0_bytes x0_size w4 y8 v5 v9]) hK fp_RX3_131 dX3_next_118 rfl 0 0 rfl rfl rfl rfl (Nat.le_of_ble_eq_true rfl) rfl rfl ?_
          obtain rfl := Option.some.inj hf
          exact J_vret hK hR dX3_next_121 () rfl (by decide) (by decide)
      refine J_icmp_eq (tg := 70) hK dX3_next_59 rfl rfl (fun hc59 => ?_) (fun hc59 => ?_)
      · have hf := ip hc59 hf
        obtain ⟨e13, hl11, hf⟩ := bs hf
        have hx11_96 : ∀ (w14 : Int32), w14 = e13 → J d Φ 2 [gTp d h0 x0_bytes x0_size w4 x0_end v5 x0_value] 0 0 96 [(0, .ref (h0 0)), (1, .int w14)] [] := by
          intro w14 he
          rw [← he] at hf
          exact (j96 w14 hf)
        have lo11 : ∀ (k : Nat) (z12 : Int32), lp (fX3_next_s70 x0_bytes x0_size x0_end x0_value w4 v5) k z12 = some e13 → J d Φ 2 [gTp d h0 x0_bytes x0_size w4 x0_end v5 x0_value] 0 0 70 [(0, .ref (h0 0)), (1, .int z12)] [] := by
          intro k
          induction k with
          | zero => intro z12 h; cases h
          | succ k ih11 =>
            intro z12 h
            obtain ⟨k2, rr11, hk2, hs11, hr11⟩ := lp_ok h
            cases hk2
            have hs11 : fX3_next_s70 x0_bytes x0_size x0_end x0_value w4 v5 z12 = some rr11 := hs11
            unfold fX3_next_s70 at hs11
            refine J_iload_n hK dX3_next_70 rfl 1 rfl rfl ?_
            refine J_aload_n hK dX3_next_71 rfl 0 rfl rfl ?_
            refine J_get hK fo_RX3_15 dX3_next_72 rfl 0 0 rfl rfl rfl ?_
            refine J_icmp_ge (tg := 96) hK dX3_next_75 rfl rfl (fun hc75 => ?_) (fun hc75 => ?_)
            · have hs11 := ip hc75 hs11
              exact (hx11_96 z12 (lpx hs11 hr11))
            · have hs11 := iq hc75 hs11
              refine J_aload_n hK dX3_next_78 rfl 0 rfl rfl ?_
              refine J_iload_n hK dX3_next_79 rfl 1 rfl rfl ?_
              obtain ⟨v15, e16, hs11⟩ := bs hs11
              refine J_callV (m' := 1) (ce' := 0) (sl' := 0) (gr := []) (gs' := fun _ => [gTp d h0 x0_bytes x0_size w4 x0_end v5 x0_value]) (st' := fun _ => [.int v15]) (st := []) hK dX3_next_80 cv_RX3_148 iv_yX3_tokenAt (As := [.int z12]) (kX3_tokenAt _ d h0 x0_bytes x0_size w4 x0_end v5 x0_value z12 e16) rfl rfl (Nat.le_of_ble_eq_true rfl) (by decide) 0 0 rfl rfl rfl [0] [] rfl rfl rfl rfl [0] rfl (fun _ => rfl) (fun _ => rfl) rfl rfl rfl (fun _ => rfl) (fun _ => ?_)
              refine J_aload_n hK dX3_next_83 rfl 0 rfl rfl ?_
              refine J_get hK fo_RX3_32 dX3_next_84 rfl 0 0 rfl rfl rfl ?_
              refine J_icmp_ne (tg := 96) hK dX3_next_87 rfl rfl (fun hc87 => ?_) (fun hc87 => ?_)
              · have hs11 := iq hc87 hs11
                exact (hx11_96 z12 (lpx hs11 hr11))
              · have hs11 := ip hc87 hs11
                refine J_iinc (L' := [(1, .int (z12 + 1)), (0, .ref (h0 0))]) (v := (z12 + 1)) hK dX3_next_90 rfl 1 rfl rfl (by decide) rfl ?_
                refine J_goto hK dX3_next_93 (n := 70) rfl ?_
                exact J_loc [1, 0] rfl (ih11 (z12 + 1) (lpc hs11 hr11))
        exact (lo11 n y7 hl11)
      · have hf := iq hc59 hf
        refine J_aload_n hK dX3_next_62 rfl 0 rfl rfl ?_
        refine J_get hK fo_RX3_32 dX3_next_63 rfl 0 0 rfl rfl rfl ?_
        refine J_iconst (v := 2) hK dX3_next_66 rfl (by decide) ?_
        refine J_icmp_ne (tg := 96) hK dX3_next_67 rfl rfl (fun hc67 => ?_) (fun hc67 => ?_)
        · have hf := iq hc67 hf
          exact (j96 y7 hf)
        · have hf := ip hc67 hf
          obtain ⟨e19, hl17, hf⟩ := bs hf
          have hx17_96 : ∀ (w20 : Int32), w20 = e19 → J d Φ 2 [gTp d h0 x0_bytes x0_size w4 x0_end v5 x0_value] 0 0 96 [(0, .ref (h0 0)), (1, .int w20)] [] := by
            intro w20 he
            rw [← he] at hf
            exact (j96 w20 hf)
          have lo17 : ∀ (k : Nat) (z18 : Int32), lp (fX3_next_s70b x0_bytes x0_size x0_end x0_value w4 v5) k z18 = some e19 → J d Φ 2 [gTp d h0 x0_bytes x0_size w4 x0_end v5 x0_value] 0 0 70 [(0, .ref (h0 0)), (1, .int z18)] [] := by
            intro k
            induction k with
            | zero => intro z18 h; cases h
            | succ k ih17 =>
              intro z18 h
              obtain ⟨k2, rr17, hk2, hs17, hr17⟩ := lp_ok h
              cases hk2
              have hs17 : fX3_next_s70b x0_bytes x0_size x0_end x0_value w4 v5 z18 = some rr17 := hs17
              unfold fX3_next_s70b at hs17
              refine J_iload_n hK dX3_next_70 rfl 1 rfl rfl ?_
              refine J_aload_n hK dX3_next_71 rfl 0 rfl rfl ?_
              refine J_get hK fo_RX3_15 dX3_next_72 rfl 0 0 rfl rfl rfl ?_
              refine J_icmp_ge (tg := 96) hK dX3_next_75 rfl rfl (fun hc75 => ?_) (fun hc75 => ?_)
              · have hs17 := ip hc75 hs17
                exact (hx17_96 z18 (lpx hs17 hr17))
              · have hs17 := iq hc75 hs17
                refine J_aload_n hK dX3_next_78 rfl 0 rfl rfl ?_
                refine J_iload_n hK dX3_next_79 rfl 1 rfl rfl ?_
                obtain ⟨v21, e22, hs17⟩ := bs hs17
                refine J_callV (m' := 1) (ce' := 0) (sl' := 0) (gr := []) (gs' := fun _ => [gTp d h0 x0_bytes x0_size w4 x0_end v5 x0_value]) (st' := fun _ => [.int v21]) (st := []) hK dX3_next_80 cv_RX3_148 iv_yX3_tokenAt (As := [.int z18]) (kX3_tokenAt _ d h0 x0_bytes x0_size w4 x0_end v5 x0_value z18 e22) rfl rfl (Nat.le_of_ble_eq_true rfl) (by decide) 0 0 rfl rfl rfl [0] [] rfl rfl rfl rfl [0] rfl (fun _ => rfl) (fun _ => rfl) rfl rfl rfl (fun _ => rfl) (fun _ => ?_)
                refine J_aload_n hK dX3_next_83 rfl 0 rfl rfl ?_
                refine J_get hK fo_RX3_32 dX3_next_84 rfl 0 0 rfl rfl rfl ?_
                refine J_icmp_ne (tg := 96) hK dX3_next_87 rfl rfl (fun hc87 => ?_) (fun hc87 => ?_)
                · have hs17 := iq hc87 hs17
                  exact (hx17_96 z18 (lpx hs17 hr17))
                · have hs17 := ip hc87 hs17
                  refine J_iinc (L' := [(1, .int (z18 + 1)), (0, .ref (h0 0))]) (v := (z18 + 1)) hK dX3_next_90 rfl 1 rfl rfl (by decide) rfl ?_
                  refine J_goto hK dX3_next_93 (n := 70) rfl ?_
                  exact J_loc [1, 0] rfl (ih17 (z18 + 1) (lpc hs17 hr17))
          exact (lo17 n y7 hl17)
    refine J_if_eq (tg := 54) hK dX3_next_48 rfl rfl (fun hc48 => ?_) (fun hc48 => ?_)
    · have hf := ip hc48 hf
      exact (j54 w4 hf)
    · have hf := iq hc48 hf
      refine J_iinc (L' := [(1, .int (w4 + 1)), (0, .ref (h0 0))]) (v := (w4 + 1)) hK dX3_next_51 rfl 1 rfl rfl (by decide) rfl ?_
      exact J_loc [1, 0] rfl (j54 (w4 + 1) hf)
  have lo1 : ∀ (k : Nat) (z2 : Int32), lp (fX3_next_s5 x0_bytes x0_size) k z2 = some e3 → J d Φ 2 [gTp d h0 x0_bytes x0_size x0_start x0_end x0_token x0_value] 0 0 5 [(0, .ref (h0 0)), (1, .int z2)] [] := by
    intro k
    induction k with
    | zero => intro z2 h; cases h
    | succ k ih1 =>
      intro z2 h
      obtain ⟨k2, rr1, hk2, hs1, hr1⟩ := lp_ok h
      cases hk2
      have hs1 : fX3_next_s5 x0_bytes x0_size z2 = some rr1 := hs1
      unfold fX3_next_s5 at hs1
      refine J_iload_n hK dX3_next_5 rfl 1 rfl rfl ?_
      refine J_aload_n hK dX3_next_6 rfl 0 rfl rfl ?_
      refine J_get hK fo_RX3_15 dX3_next_7 rfl 0 0 rfl rfl rfl ?_
      refine J_icmp_ge (tg := 30) hK dX3_next_10 rfl rfl (fun hc10 => ?_) (fun hc10 => ?_)
      · have hs1 := ip hc10 hs1
        exact (hx1_30 z2 (lpx hs1 hr1))
      · have hs1 := iq hc10 hs1
        refine J_aload_n hK dX3_next_13 rfl 0 rfl rfl ?_
        refine J_get hK fo_RX3_11 dX3_next_14 rfl 0 0 rfl rfl rfl ?_
        refine J_iload_n hK dX3_next_17 rfl 1 rfl rfl ?_
        obtain ⟨v23, ev23, hs1⟩ := bs hs1
        refine J_iald hK dX3_next_18 rfl 0 1 rfl rfl ev23 ?_
        refine J_bipush (v := 32) hK dX3_next_19 rfl (by decide) ?_
        refine J_icmp_ne (tg := 30) hK dX3_next_21 rfl rfl (fun hc21 => ?_) (fun hc21 => ?_)
        · have hs1 := iq hc21 hs1
          exact (hx1_30 z2 (lpx hs1 hr1))
        · have hs1 := ip hc21 hs1
          refine J_iinc (L' := [(1, .int (z2 + 1)), (0, .ref (h0 0))]) (v := (z2 + 1)) hK dX3_next_24 rfl 1 rfl rfl (by decide) rfl ?_
          refine J_goto hK dX3_next_27 (n := 5) rfl ?_
          exact J_loc [1, 0] rfl (ih1 (z2 + 1) (lpc hs1 hr1))
  exact J_loc [1, 0] rfl (lo1 n x0_end hl1)

def fX3_isWord_s28 (p1 : Nat) (x0_bytes : (Nat → Int32)) (x0_start : Int32) (z3 : Int32) : Option ((Int32) ⊕ (((Unit) ⊕ (Unit)))) :=
  (slen p1).bind fun v5 => if v5 ≤ z3 then (some (.inr (.inr ()))) else ((rd 250 x0_bytes (x0_start + z3)).bind fun v6 => (schar p1 z3).bind fun v7 => if v6 = v7 then (some (.inl (z3 + 1))) else (some (.inr (.inl ()))))
def fX3_isWord (n : Nat) (X0 : TpT) (p1 : Nat) : Option (Int32) :=
  u6 (fun (x0_bytes : (Nat → Int32)) (x0_size : Int32) (x0_start : Int32) (x0_end : Int32) (x0_token : Int32) (x0_value : Int32) => if x0_token = 1 then ((slen p1).bind fun v1 => if (x0_end - x0_start) = v1 then ((lp (fX3_isWord_s28 p1 x0_bytes x0_start) n (0)).bind (Sum.elim (fun _ => some (0)) (fun _ => some (1)))) else (some (0))) else (some (0))) X0
set_option maxHeartbeats 4000000 in
set_option maxRecDepth 100000 in
theorem kX3_isWord (l : Launch) (d : DT) (h0 : Nat → Nat) (n : Nat) (x0_bytes : (Nat → Int32)) (x0_size : Int32) (x0_start : Int32) (x0_end : Int32) (x0_token : Int32) (x0_value : Int32) (p1 : Nat)  {out : Int32} (hf : fX3_isWord n (x0_bytes, x0_size, x0_start, x0_end, x0_token, x0_value) p1 = some out) : Ct l d yX3_isWord cX3_isWord 3 (some .boolean) { frames := 4, cells := 0, slots := 0, locals := 85 } [.ref (h0 0), .ref (d.2.2.2.1 p1)] [gTp d h0 x0_bytes x0_size x0_start x0_end x0_token x0_value] (fun _ : Unit => (some (.int out), [gTp d h0 x0_bytes x0_size x0_start x0_end x0_token x0_value])) := by
  refine Ct.of (by decide) (Nat.le_of_ble_eq_true rfl) ?_
  intro Φ hl hK hR
  subst hl
  have hK : Ok d Φ RX3 "isWord" cX3_isWord 3 (some .boolean) { frames := 4, cells := 0, slots := 0, locals := 85 } := hK
  unfold fX3_isWord at hf
  have hf := un6 hf
  show J d Φ 3 [gTp d h0 x0_bytes x0_size x0_start x0_end x0_token x0_value] 0 0 0 [(0, .ref (h0 0)), (1, .ref (d.2.2.2.1 p1))] []
  refine J_aload_n hK dX3_isWord_0 rfl 0 rfl rfl ?_
  refine J_get hK fo_RX3_32 dX3_isWord_1 rfl 0 0 rfl rfl rfl ?_
  refine J_iconst (v := 1) hK dX3_isWord_4 rfl (by decide) ?_
  refine J_icmp_ne (tg := 24) hK dX3_isWord_5 rfl rfl (fun hc5 => ?_) (fun hc5 => ?_)
  · have hf := iq hc5 hf
    refine J_iconst (v := 0) hK dX3_isWord_24 rfl (by decide) ?_
    obtain rfl := Option.some.inj hf
    exact J_zret hK hR dX3_isWord_25 () rfl rfl (by decide) (by decide)
  · have hf := ip hc5 hf
    refine J_aload_n hK dX3_isWord_8 rfl 0 rfl rfl ?_
    refine J_get hK fo_RX3_19 dX3_isWord_9 rfl 0 0 rfl rfl rfl ?_
    refine J_aload_n hK dX3_isWord_12 rfl 0 rfl rfl ?_
    refine J_get hK fo_RX3_29 dX3_isWord_13 rfl 0 0 rfl rfl rfl ?_
    refine J_isub hK dX3_isWord_16 rfl ?_
    refine J_aload_n hK dX3_isWord_17 rfl 1 rfl rfl ?_
    obtain ⟨v1, ev1, hf⟩ := bs hf
    refine J_callT (gr := [gTp d h0 x0_bytes x0_size x0_start x0_end x0_token x0_value]) (gs' := fun _ => [gTp d h0 x0_bytes x0_size x0_start x0_end x0_token x0_value]) (st' := fun _ => [.int v1, .int (x0_end - x0_start)]) (st := [.int (x0_end - x0_start)]) hK dX3_isWord_18 cv_RX3_138 iv_yJ0_length_8abf5 (As := []) (kJ_length _ d p1 ev1) rfl rfl (Nat.le_of_ble_eq_true rfl) (by decide) (hK.str (str_some_length ev1).choose_spec).1 [] [0] rfl rfl rfl rfl [0] rfl (fun _ => rfl) (fun _ => rfl) rfl rfl rfl (fun _ => rfl) (fun _ => ?_)
    refine J_icmp_eq (tg := 26) hK dX3_isWord_21 rfl rfl (fun hc21 => ?_) (fun hc21 => ?_)
    · have hf := ip hc21 hf
      refine J_iconst (v := 0) hK dX3_isWord_26 rfl (by decide) ?_
      refine J_istore_n (L' := [(2, .int (0)), (0, .ref (h0 0)), (1, .ref (d.2.2.2.1 p1))]) hK dX3_isWord_27 rfl rfl (by decide) rfl ?_
      obtain ⟨e4, hl2, hf⟩ := bs hf
      have hx2_55 : (.inl ()) = e4 → J d Φ 3 [gTp d h0 x0_bytes x0_size x0_start x0_end x0_token x0_value] 0 0 55 [] [] := by
        intro  he
        rw [← he] at hf
        simp only [Sum.elim_inl, Sum.elim_inr] at hf
        refine J_iconst (v := 0) hK dX3_isWord_55 rfl (by decide) ?_
        obtain rfl := Option.some.inj hf
        exact J_zret hK hR dX3_isWord_56 () rfl rfl (by decide) (by decide)
      have hx2_63 : (.inr ()) = e4 → J d Φ 3 [gTp d h0 x0_bytes x0_size x0_start x0_end x0_token x0_value] 0 0 63 [] [] := by
        intro  he
        rw [← he] at hf
        simp only [Sum.elim_inl, Sum.elim_inr] at hf
        refine J_iconst (v := 1) hK dX3_isWord_63 rfl (by decide) ?_
        obtain rfl := Option.some.inj hf
        exact J_zret hK hR dX3_isWord_64 () rfl rfl (by decide) (by decide)
      have lo2 : ∀ (k : Nat) (z3 : Int32), lp (fX3_isWord_s28 p1 x0_bytes x0_start) k z3 = some e4 → J d Φ 3 [gTp d h0 x0_bytes x0_size x0_start x0_end x0_token x0_value] 0 0 28 [(0, .ref (h0 0)), (1, .ref (d.2.2.2.1 p1)), (2, .int z3)] [] := by
        intro k
        induction k with
        | zero => intro z3 h; cases h
        | succ k ih2 =>
          intro z3 h
          obtain ⟨k2, rr2, hk2, hs2, hr2⟩ := lp_ok h
          cases hk2
          have hs2 : fX3_isWord_s28 p1 x0_bytes x0_start z3 = some rr2 := hs2
          unfold fX3_isWord_s28 at hs2
          refine J_iload_n hK dX3_isWord_28 rfl 2 rfl rfl ?_
          refine J_aload_n hK dX3_isWord_29 rfl 1 rfl rfl ?_
          obtain ⟨v5, ev5, hs2⟩ := bs hs2
          refine J_callT (gr := [gTp d h0 x0_bytes x0_size x0_start x0_end x0_token x0_value]) (gs' := fun _ => [gTp d h0 x0_bytes x0_size x0_start x0_end x0_token x0_value]) (st' := fun _ => [.int v5, .int z3]) (st := [.int z3]) hK dX3_isWord_30 cv_RX3_138 iv_yJ0_length_8abf5 (As := []) (kJ_length _ d p1 ev5) rfl rfl (Nat.le_of_ble_eq_true rfl) (by decide) (hK.str (str_some_length ev5).choose_spec).1 [] [0] rfl rfl rfl rfl [0] rfl (fun _ => rfl) (fun _ => rfl) rfl rfl rfl (fun _ => rfl) (fun _ => ?_)
          refine J_icmp_ge (tg := 63) hK dX3_isWord_33 rfl rfl (fun hc33 => ?_) (fun hc33 => ?_)
          · have hs2 := ip hc33 hs2
            exact J_loc [] rfl (hx2_63  (lpx hs2 hr2))
          · have hs2 := iq hc33 hs2
            refine J_aload_n hK dX3_isWord_36 rfl 0 rfl rfl ?_
            refine J_get hK fo_RX3_11 dX3_isWord_37 rfl 0 0 rfl rfl rfl ?_
            refine J_aload_n hK dX3_isWord_40 rfl 0 rfl rfl ?_
            refine J_get hK fo_RX3_29 dX3_isWord_41 rfl 0 0 rfl rfl rfl ?_
            refine J_iload_n hK dX3_isWord_44 rfl 2 rfl rfl ?_
            refine J_iadd hK dX3_isWord_45 rfl ?_
            obtain ⟨v6, ev6, hs2⟩ := bs hs2
            refine J_iald hK dX3_isWord_46 rfl 0 1 rfl rfl ev6 ?_
            refine J_aload_n hK dX3_isWord_47 rfl 1 rfl rfl ?_
            refine J_iload_n hK dX3_isWord_48 rfl 2 rfl rfl ?_
            obtain ⟨v7, ev7, hs2⟩ := bs hs2
            refine J_callT (gr := [gTp d h0 x0_bytes x0_size x0_start x0_end x0_token x0_value]) (gs' := fun _ => [gTp d h0 x0_bytes x0_size x0_start x0_end x0_token x0_value]) (st' := fun _ => [.int v7, .int v6]) (st := [.int v6]) hK dX3_isWord_49 cv_RX3_144 iv_yJ0_charAt_5068e (As := [.int z3]) (kJ_charAt _ d p1 z3 ev7) rfl rfl (Nat.le_of_ble_eq_true rfl) (by decide) (hK.str (str_some_charAt ev7).choose_spec).1 [] [0] rfl rfl rfl rfl [0] rfl (fun _ => rfl) (fun _ => rfl) rfl rfl rfl (fun _ => rfl) (fun _ => ?_)
            refine J_icmp_eq (tg := 57) hK dX3_isWord_52 rfl rfl (fun hc52 => ?_) (fun hc52 => ?_)
            · have hs2 := ip hc52 hs2
              refine J_iinc (L' := [(2, .int (z3 + 1)), (0, .ref (h0 0)), (1, .ref (d.2.2.2.1 p1))]) (v := (z3 + 1)) hK dX3_isWord_57 rfl 2 rfl rfl (by decide) rfl ?_
              refine J_goto hK dX3_isWord_60 (n := 28) rfl ?_
              exact J_loc [1, 2, 0] rfl (ih2 (z3 + 1) (lpc hs2 hr2))
            · have hs2 := iq hc52 hs2
              exact J_loc [] rfl (hx2_55  (lpx hs2 hr2))
      exact J_loc [1, 2, 0] rfl (lo2 n (0) hl2)
    · have hf := iq hc21 hf
      refine J_iconst (v := 0) hK dX3_isWord_24 rfl (by decide) ?_
      obtain rfl := Option.some.inj hf
      exact J_zret hK hR dX3_isWord_25 () rfl rfl (by decide) (by decide)

def fX3_number (n : Nat) (X0 : TpT) (p1 : Int32) (p2 : Int32) : Option (Int32 × Int32 × Int32 × Int32 × Int32) :=
  u6 (fun (x0_bytes : (Nat → Int32)) (x0_size : Int32) (x0_start : Int32) (x0_end : Int32) (x0_token : Int32) (x0_value : Int32) => if x0_token = 2 then ((fX6_within x0_value p1 p2).bind (fun v1 => if v1 = 0 then (some ((-1), x0_start, x0_end, x0_token, x0_value)) else ((fX3_next n (x0_bytes, x0_size, x0_start, x0_end, x0_token, x0_value)).bind (u4 fun g3 g4 g5 g6 => some (x0_value, g3, g4, g5, g6))))) else (some ((-1), x0_start, x0_end, x0_token, x0_value))) X0
set_option maxHeartbeats 4000000 in
set_option maxRecDepth 100000 in
theorem kX3_number (l : Launch) (d : DT) (h0 : Nat → Nat) (n : Nat) (x0_bytes : (Nat → Int32)) (x0_size : Int32) (x0_start : Int32) (x0_end : Int32) (x0_token : Int32) (x0_value : Int32) (p1 : Int32) (p2 : Int32)  {out : Int32 × Int32 × Int32 × Int32 × Int32} (hf : fX3_number n (x0_bytes, x0_size, x0_start, x0_end, x0_token, x0_value) p1 p2 = some out) : Ct l d yX3_number cX3_number 4 (some .int) { frames := 2, cells := 0, slots := 0, locals := 43 } [.ref (h0 0), .int p1, .int p2] [gTp d h0 x0_bytes x0_size x0_start x0_end x0_token x0_value] (fun _ : Unit => (some (.int out.1), [gTp d h0 x0_bytes x0_size (out.2.1) (out.2.2.1) (out.2.2.2.1) (out.2.2.2.2)])) := by
  refine Ct.of (by decide) (Nat.le_of_ble_eq_true rfl) ?_
  intro Φ hl hK hR
  subst hl
  have hK : Ok d Φ RX3 "number" cX3_number 4 (some .int) { frames := 2, cells := 0, slots := 0, locals := 43 } := hK
  unfold fX3_number at hf
  have hf := un6 hf
  show J d Φ 4 [gTp d h0 x0_bytes x0_size x0_start x0_end x0_token x0_value] 0 0 0 [(0, .ref (h0 0)), (1, .int p1), (2, .int p2)] []
  refine J_aload_n hK dX3_number_0 rfl 0 rfl rfl ?_
  refine J_get hK fo_RX3_32 dX3_number_1 rfl 0 0 rfl rfl rfl ?_
  refine J_iconst (v := 2) hK dX3_number_4 rfl (by decide) ?_
  refine J_icmp_ne (tg := 20) hK dX3_number_5 rfl rfl (fun hc5 => ?_) (fun hc5 => ?_)
  · have hf := iq hc5 hf
    refine J_iconst (v := (-1)) hK dX3_number_20 rfl (by decide) ?_
    obtain rfl := Option.some.inj hf
    exact J_iret hK hR dX3_number_21 () rfl (by decide) (by decide)
  · have hf := ip hc5 hf
    refine J_aload_n hK dX3_number_8 rfl 0 rfl rfl ?_
    refine J_get hK fo_RX3_131 dX3_number_9 rfl 0 0 rfl rfl rfl ?_
    refine J_iload_n hK dX3_number_12 rfl 1 rfl rfl ?_
    refine J_iload_n hK dX3_number_13 rfl 2 rfl rfl ?_
    obtain ⟨v1, e2, hf⟩ := bs hf
    refine J_callN (m' := 1) (ce' := 0) (sl' := 0) (gr := [gTp d h0 x0_bytes x0_size x0_start x0_end x0_token x0_value]) (gs' := fun _ => [gTp d h0 x0_bytes x0_size x0_start x0_end x0_token x0_value]) (st' := fun _ => [.int v1]) (st := []) hK dX3_number_14 cn_RX3_134 (As := [.int x0_value, .int p1, .int p2]) (kX6_within _ d x0_value p1 p2 e2) rfl rfl (Nat.le_of_ble_eq_true rfl) (by decide) [] [0] rfl rfl rfl rfl [0] rfl (fun _ => rfl) (fun _ => rfl) rfl rfl rfl (fun _ => rfl) (fun _ => ?_)
    refine J_if_ne (tg := 22) hK dX3_number_17 rfl rfl (fun hc17 => ?_) (fun hc17 => ?_)
    · have hf := iq hc17 hf
      refine J_aload_n hK dX3_number_22 rfl 0 rfl rfl ?_
      refine J_get hK fo_RX3_131 dX3_number_23 rfl 0 0 rfl rfl rfl ?_
      refine J_istore_n (L' := [(3, .int x0_value), (0, .ref (h0 0)), (1, .int p1), (2, .int p2)]) hK dX3_number_26 rfl rfl (by decide) rfl ?_
      refine J_aload_n hK dX3_number_27 rfl 1 rfl rfl ?_
      obtain ⟨⟨g3, g4, g5, g6⟩, e7, hf⟩ := bs hf
      have hf := un4 hf
      refine J_callV (m' := 1) (ce' := 0) (sl' := 0) (gr := []) (gs' := fun _ => [gTp d h0 x0_bytes x0_size g3 g4 g5 g6]) (st' := fun _ => []) (st := []) hK dX3_number_28 cv_RX3_22 iv_yX3_next (As := []) (kX3_next _ d h0 n x0_bytes x0_size x0_start x0_end x0_token x0_value e7) rfl rfl (Nat.le_of_ble_eq_true rfl) (by decide) 0 0 rfl rfl rfl [0] [] rfl rfl rfl rfl [0] rfl (fun _ => rfl) (fun _ => rfl) rfl rfl rfl (fun _ => rfl) (fun _ => ?_)
      refine J_iload_n hK dX3_number_31 rfl 0 rfl rfl ?_
      obtain rfl := Option.some.inj hf
      exact J_iret hK hR dX3_number_32 () rfl (by decide) (by decide)
    · have hf := ip hc17 hf
      refine J_iconst (v := (-1)) hK dX3_number_20 rfl (by decide) ?_
      obtain rfl := Option.some.inj hf
      exact J_iret hK hR dX3_number_21 () rfl (by decide) (by decide)

def fX3_perhaps (n : Nat) (X0 : TpT) (p1 : Nat) (p2 : Int32) (p3 : Int32) (p4 : Int32) : Option (Int32 × Int32 × Int32 × Int32 × Int32) :=
  u6 (fun (x0_bytes : (Nat → Int32)) (x0_size : Int32) (x0_start : Int32) (x0_end : Int32) (x0_token : Int32) (x0_value : Int32) => (fX3_isWord n (x0_bytes, x0_size, x0_start, x0_end, x0_token, x0_value) p1).bind (fun v1 => if v1 = 0 then (some (p4, x0_start, x0_end, x0_token, x0_value)) else ((fX3_next n (x0_bytes, x0_size, x0_start, x0_end, x0_token, x0_value)).bind (u4 fun g3 g4 g5 g6 => (fX3_number n (x0_bytes, x0_size, g3, g4, g5, g6) p2 p3).bind (u5 fun v8 g9 g10 g11 g12 => some (v8, g9, g10, g11, g12)))))) X0
set_option maxHeartbeats 4000000 in
set_option maxRecDepth 100000 in
theorem kX3_perhaps (l : Launch) (d : DT) (h0 : Nat → Nat) (n : Nat) (x0_bytes : (Nat → Int32)) (x0_size : Int32) (x0_start : Int32) (x0_end : Int32) (x0_token : Int32) (x0_value : Int32) (p1 : Nat) (p2 : Int32) (p3 : Int32) (p4 : Int32)  {out : Int32 × Int32 × Int32 × Int32 × Int32} (hf : fX3_perhaps n (x0_bytes, x0_size, x0_start, x0_end, x0_token, x0_value) p1 p2 p3 p4 = some out) : Ct l d yX3_perhaps cX3_perhaps 5 (some .int) { frames := 5, cells := 0, slots := 0, locals := 107 } [.ref (h0 0), .ref (d.2.2.2.1 p1), .int p2, .int p3, .int p4] [gTp d h0 x0_bytes x0_size x0_start x0_end x0_token x0_value] (fun _ : Unit => (some (.int out.1), [gTp d h0 x0_bytes x0_size (out.2.1) (out.2.2.1) (out.2.2.2.1) (out.2.2.2.2)])) := by
  refine Ct.of (by decide) (Nat.le_of_ble_eq_true rfl) ?_
  intro Φ hl hK hR
  subst hl
  have hK : Ok d Φ RX3 "perhaps" cX3_perhaps 5 (some .int) { frames := 5, cells := 0, slots := 0, locals := 107 } := hK
  unfold fX3_perhaps at hf
  have hf := un6 hf
  show J d Φ 5 [gTp d h0 x0_bytes x0_size x0_start x0_end x0_token x0_value] 0 0 0 [(0, .ref (h0 0)), (1, .ref (d.2.2.2.1 p1)), (2, .int p2), (3, .int p3), (4, .int p4)] []
  refine J_aload_n hK dX3_perhaps_0 rfl 0 rfl rfl ?_
  refine J_aload_n hK dX3_perhaps_1 rfl 1 rfl rfl ?_
  obtain ⟨v1, e2, hf⟩ := bs hf
  refine J_callV (m' := 1) (ce' := 0) (sl' := 0) (gr := []) (gs' := fun _ => [gTp d h0 x0_bytes x0_size x0_start x0_end x0_token x0_value]) (st' := fun _ => [.int v1]) (st := []) hK dX3_perhaps_2 cv_RX3_37 iv_yX3_isWord (As := [.ref (d.2.2.2.1 p1)]) (kX3_isWord _ d h0 n x0_bytes x0_size x0_start x0_end x0_token x0_value p1 e2) rfl rfl (Nat.le_of_ble_eq_true rfl) (by decide) 0 0 rfl rfl rfl [0] [] rfl rfl rfl rfl [0] rfl (fun _ => rfl) (fun _ => rfl) rfl rfl rfl (fun _ => rfl) (fun _ => ?_)
  refine J_if_ne (tg := 11) hK dX3_perhaps_5 rfl rfl (fun hc5 => ?_) (fun hc5 => ?_)
  · have hf := iq hc5 hf
    refine J_aload_n hK dX3_perhaps_11 rfl 0 rfl rfl ?_
    obtain ⟨⟨g3, g4, g5, g6⟩, e7, hf⟩ := bs hf
    have hf := un4 hf
    refine J_callV (m' := 1) (ce' := 0) (sl' := 0) (gr := []) (gs' := fun _ => [gTp d h0 x0_bytes x0_size g3 g4 g5 g6]) (st' := fun _ => []) (st := []) hK dX3_perhaps_12 cv_RX3_22 iv_yX3_next (As := []) (kX3_next _ d h0 n x0_bytes x0_size x0_start x0_end x0_token x0_value e7) rfl rfl (Nat.le_of_ble_eq_true rfl) (by decide) 0 0 rfl rfl rfl [0] [] rfl rfl rfl rfl [0] rfl (fun _ => rfl) (fun _ => rfl) rfl rfl rfl (fun _ => rfl) (fun _ => ?_)
    refine J_aload_n hK dX3_perhaps_15 rfl 0 rfl rfl ?_
    refine J_iload_n hK dX3_perhaps_16 rfl 2 rfl rfl ?_
    refine J_iload_n hK dX3_perhaps_17 rfl 3 rfl rfl ?_
    obtain ⟨⟨v8, g9, g10, g11, g12⟩, e13, hf⟩ := bs hf
    have hf := un5 hf
    refine J_callV (m' := 1) (ce' := 0) (sl' := 0) (gr := []) (gs' := fun _ => [gTp d h0 x0_bytes x0_size g9 g10 g11 g12]) (st' := fun _ => [.int v8]) (st := []) hK dX3_perhaps_18 cv_RX3_80 iv_yX3_number (As := [.int p2, .int p3]) (kX3_number _ d h0 n x0_bytes x0_size g3 g4 g5 g6 p2 p3 e13) rfl rfl (Nat.le_of_ble_eq_true rfl) (by decide) 0 0 rfl rfl rfl [0] [] rfl rfl rfl rfl [0] rfl (fun _ => rfl) (fun _ => rfl) rfl rfl rfl (fun _ => rfl) (fun _ => ?_)
    obtain rfl := Option.some.inj hf
    exact J_iret hK hR dX3_perhaps_21 () rfl (by decide) (by decide)
  · have hf := ip hc5 hf
    refine J_iload hK dX3_perhaps_8 rfl 4 rfl ?_
    obtain rfl := Option.some.inj hf
    exact J_iret hK hR dX3_perhaps_10 () rfl (by decide) (by decide)

def fX3_numberUnlike (n : Nat) (X0 : TpT) (p1 : Int32) (p2 : Int32) : Option (Int32 × Int32 × Int32 × Int32 × Int32) :=
  u6 (fun (x0_bytes : (Nat → Int32)) (x0_size : Int32) (x0_start : Int32) (x0_end : Int32) (x0_token : Int32) (x0_value : Int32) => if x0_token = 2 then (if x0_value = p1 then (some ((-1), x0_start, x0_end, x0_token, x0_value)) else ((fX3_number n (x0_bytes, x0_size, x0_start, x0_end, x0_token, x0_value) (0) p2).bind (u5 fun v7 g8 g9 g10 g11 => some (v7, g8, g9, g10, g11)))) else ((fX3_number n (x0_bytes, x0_size, x0_start, x0_end, x0_token, x0_value) (0) p2).bind (u5 fun v1 g2 g3 g4 g5 => some (v1, g2, g3, g4, g5)))) X0
set_option maxHeartbeats 4000000 in
set_option maxRecDepth 100000 in
theorem kX3_numberUnlike (l : Launch) (d : DT) (h0 : Nat → Nat) (n : Nat) (x0_bytes : (Nat → Int32)) (x0_size : Int32) (x0_start : Int32) (x0_end : Int32) (x0_token : Int32) (x0_value : Int32) (p1 : Int32) (p2 : Int32)  {out : Int32 × Int32 × Int32 × Int32 × Int32} (hf : fX3_numberUnlike n (x0_bytes, x0_size, x0_start, x0_end, x0_token, x0_value) p1 p2 = some out) : Ct l d yX3_numberUnlike cX3_numberUnlike 3 (some .int) { frames := 3, cells := 0, slots := 0, locals := 66 } [.ref (h0 0), .int p1, .int p2] [gTp d h0 x0_bytes x0_size x0_start x0_end x0_token x0_value] (fun _ : Unit => (some (.int out.1), [gTp d h0 x0_bytes x0_size (out.2.1) (out.2.2.1) (out.2.2.2.1) (out.2.2.2.2)])) := by
  refine Ct.of (by decide) (Nat.le_of_ble_eq_true rfl) ?_
  intro Φ hl hK hR
  subst hl
  have hK : Ok d Φ RX3 "numberUnlike" cX3_numberUnlike 3 (some .int) { frames := 3, cells := 0, slots := 0, locals := 66 } := hK
  unfold fX3_numberUnlike at hf
  have hf := un6 hf
  show J d Φ 3 [gTp d h0 x0_bytes x0_size x0_start x0_end x0_token x0_value] 0 0 0 [(0, .ref (h0 0)), (1, .int p1), (2, .int p2)] []
  refine J_aload_n hK dX3_numberUnlike_0 rfl 0 rfl rfl ?_
  refine J_get hK fo_RX3_32 dX3_numberUnlike_1 rfl 0 0 rfl rfl rfl ?_
  refine J_iconst (v := 2) hK dX3_numberUnlike_4 rfl (by decide) ?_
  refine J_icmp_ne (tg := 20) hK dX3_numberUnlike_5 rfl rfl (fun hc5 => ?_) (fun hc5 => ?_)
  · have hf := iq hc5 hf
    refine J_aload_n hK dX3_numberUnlike_20 rfl 0 rfl rfl ?_
    refine J_iconst (v := 0) hK dX3_numberUnlike_21 rfl (by decide) ?_
    refine J_iload_n hK dX3_numberUnlike_22 rfl 2 rfl rfl ?_
    obtain ⟨⟨v1, g2, g3, g4, g5⟩, e6, hf⟩ := bs hf
    have hf := un5 hf
    refine J_callV (m' := 1) (ce' := 0) (sl' := 0) (gr := []) (gs' := fun _ => [gTp d h0 x0_bytes x0_size g2 g3 g4 g5]) (st' := fun _ => [.int v1]) (st := []) hK dX3_numberUnlike_23 cv_RX3_80 iv_yX3_number (As := [.int (0), .int p2]) (kX3_number _ d h0 n x0_bytes x0_size x0_start x0_end x0_token x0_value (0) p2 e6) rfl rfl (Nat.le_of_ble_eq_true rfl) (by decide) 0 0 rfl rfl rfl [0] [] rfl rfl rfl rfl [0] rfl (fun _ => rfl) (fun _ => rfl) rfl rfl rfl (fun _ => rfl) (fun _ => ?_)
    obtain rfl := Option.some.inj hf
    exact J_iret hK hR dX3_numberUnlike_26 () rfl (by decide) (by decide)
  · have hf := ip hc5 hf
    refine J_aload_n hK dX3_numberUnlike_8 rfl 0 rfl rfl ?_
    refine J_get hK fo_RX3_131 dX3_numberUnlike_9 rfl 0 0 rfl rfl rfl ?_
    refine J_iload_n hK dX3_numberUnlike_12 rfl 1 rfl rfl ?_
    refine J_icmp_ne (tg := 20) hK dX3_numberUnlike_13 rfl rfl (fun hc13 => ?_) (fun hc13 => ?_)
    · have hf := iq hc13 hf
      refine J_aload_n hK dX3_numberUnlike_20 rfl 0 rfl rfl ?_
      refine J_iconst (v := 0) hK dX3_numberUnlike_21 rfl (by decide) ?_
      refine J_iload_n hK dX3_numberUnlike_22 rfl 2 rfl rfl ?_
      obtain ⟨⟨v7, g8, g9, g10, g11⟩, e12, hf⟩ := bs hf
      have hf := un5 hf
      refine J_callV (m' := 1) (ce' := 0) (sl' := 0) (gr := []) (gs' := fun _ => [gTp d h0 x0_bytes x0_size g8 g9 g10 g11]) (st' := fun _ => [.int v7]) (st := []) hK dX3_numberUnlike_23 cv_RX3_80 iv_yX3_number (As := [.int (0), .int p2]) (kX3_number _ d h0 n x0_bytes x0_size x0_start x0_end x0_token x0_value (0) p2 e12) rfl rfl (Nat.le_of_ble_eq_true rfl) (by decide) 0 0 rfl rfl rfl [0] [] rfl rfl rfl rfl [0] rfl (fun _ => rfl) (fun _ => rfl) rfl rfl rfl (fun _ => rfl) (fun _ => ?_)
      obtain rfl := Option.some.inj hf
      exact J_iret hK hR dX3_numberUnlike_26 () rfl (by decide) (by decide)
    · have hf := ip hc13 hf
      refine J_iconst (v := (-1)) hK dX3_numberUnlike_16 rfl (by decide) ?_
      refine J_goto hK dX3_numberUnlike_17 (n := 26) rfl ?_
      obtain rfl := Option.some.inj hf
      exact J_iret hK hR dX3_numberUnlike_26 () rfl (by decide) (by decide)

def fX3_readLine_j130 (x1_lineCount : Int32) (x1_goodsCount : Int32) (x1_workCount : Int32) (x1_years : Int32) (x1_lines : (Nat → Int32)) (x1_goods : (Nat → Int32)) (x1_works : (Nat → Int32)) (x1_change : (Nat → Int32)) (x1_coin : (Nat → Int32)) (x1_knownFree : (Nat → Int32)) (x1_isKnown : Int32) (v6 : Int32) (y16 : Int32) (v24 : Int32) (v37 : Int32) (v43 : Int32) (x49 : Int32) (x50 : Int32) (x51 : Int32) (x52 : Int32) (y53 : Int32) : Option (Int32 × Int32 × Int32 × Int32 × Int32 × Int32 × (Nat → Int32) × Int32) :=
  if y53 = (-1) then (some (0, x49, x50, x51, x52, x1_lineCount, x1_lines, x1_isKnown)) else ((fX1_addLine (x1_lineCount, x1_goodsCount, x1_workCount, x1_years, x1_lines, x1_goods, x1_works, x1_change, x1_coin, x1_knownFree, x1_isKnown) v6 y16 v24 v37 v43 y53).bind (u3 fun g54 g55 g56 => some (1, x49, x50, x51, x52, g54, g55, g56)))
def fX3_readLine_j28 (n : Nat) (x0_bytes : (Nat → Int32)) (x0_size : Int32) (x1_lineCount : Int32) (x1_goodsCount : Int32) (x1_workCount : Int32) (x1_years : Int32) (x1_lines : (Nat → Int32)) (x1_goods : (Nat → Int32)) (x1_works : (Nat → Int32)) (x1_change : (Nat → Int32)) (x1_coin : (Nat → Int32)) (x1_knownFree : (Nat → Int32)) (x1_isKnown : Int32) (v6 : Int32) (x12 : Int32) (x13 : Int32) (x14 : Int32) (x15 : Int32) (y16 : Int32) : Option (Int32 × Int32 × Int32 × Int32 × Int32 × Int32 × (Nat → Int32) × Int32) :=
  if y16 = (-1) then (some (0, x12, x13, x14, x15, x1_lineCount, x1_lines, x1_isKnown)) else ((fX3_isWord n (x0_bytes, x0_size, x12, x13, x14, x15) 1).bind (fun v17 => if v17 = 0 then (some (0, x12, x13, x14, x15, x1_lineCount, x1_lines, x1_isKnown)) else ((fX3_next n (x0_bytes, x0_size, x12, x13, x14, x15)).bind (u4 fun g19 g20 g21 g22 => (fX3_number n (x0_bytes, x0_size, g19, g20, g21, g22) (1) (7)).bind (u5 fun v24 g25 g26 g27 g28 => if v24 = (-1) then (some (0, g25, g26, g27, g28, x1_lineCount, x1_lines, x1_isKnown)) else ((fX3_isWord n (x0_bytes, x0_size, g25, g26, g27, g28) 2).bind (fun v30 => if v30 = 0 then (some (0, g25, g26, g27, g28, x1_lineCount, x1_lines, x1_isKnown)) else ((fX3_next n (x0_bytes, x0_size, g25, g26, g27, g28)).bind (u4 fun g32 g33 g34 g35 => (fX3_number n (x0_bytes, x0_size, g32, g33, g34, g35) (1) (60)).bind (u5 fun v37 g38 g39 g40 g41 => if v37 = (-1) then (some (0, g38, g39, g40, g41, x1_lineCount, x1_lines, x1_isKnown)) else ((fX3_perhaps n (x0_bytes, x0_size, g38, g39, g40, g41) 3 (1) (999) (999)).bind (u5 fun v43 g44 g45 g46 g47 => if v43 = (-1) then (fX3_readLine_j130 x1_lineCount x1_goodsCount x1_workCount x1_years x1_lines x1_goods x1_works x1_change x1_coin x1_knownFree x1_isKnown v6 y16 v24 v37 v43 g44 g45 g46 g47 (-1)) else ((fX3_perhaps n (x0_bytes, x0_size, g44, g45, g46, g47) 4 (0) (5) (0)).bind (u5 fun v58 g59 g60 g61 g62 => fX3_readLine_j130 x1_lineCount x1_goodsCount x1_workCount x1_years x1_lines x1_goods x1_works x1_change x1_coin x1_knownFree x1_isKnown v6 y16 v24 v37 v43 g59 g60 g61 g62 v58))))))))))))))
def fX3_readLine (n : Nat) (X0 : TpT) (X1 : LdT) : Option (Int32 × Int32 × Int32 × Int32 × Int32 × Int32 × (Nat → Int32) × Int32) :=
  u6 (fun (x0_bytes : (Nat → Int32)) (x0_size : Int32) (x0_start : Int32) (x0_end : Int32) (x0_token : Int32) (x0_value : Int32) => u11 (fun (x1_lineCount : Int32) (x1_goodsCount : Int32) (x1_workCount : Int32) (x1_years : Int32) (x1_lines : (Nat → Int32)) (x1_goods : (Nat → Int32)) (x1_works : (Nat → Int32)) (x1_change : (Nat → Int32)) (x1_coin : (Nat → Int32)) (x1_knownFree : (Nat → Int32)) (x1_isKnown : Int32) => (fX3_next n (x0_bytes, x0_size, x0_start, x0_end, x0_token, x0_value)).bind (u4 fun g1 g2 g3 g4 => (fX3_number n (x0_bytes, x0_size, g1, g2, g3, g4) (0) (11)).bind (u5 fun v6 g7 g8 g9 g10 => if v6 = (-1) then (fX3_readLine_j28 n x0_bytes x0_size x1_lineCount x1_goodsCount x1_workCount x1_years x1_lines x1_goods x1_works x1_change x1_coin x1_knownFree x1_isKnown v6 g7 g8 g9 g10 (-1)) else ((fX3_numberUnlike n (x0_bytes, x0_size, g7, g8, g9, g10) v6 (11)).bind (u5 fun v64 g65 g66 g67 g68 => fX3_readLine_j28 n x0_bytes x0_size x1_lineCount x1_goodsCount x1_workCount x1_years x1_lines x1_goods x1_works x1_change x1_coin x1_knownFree x1_isKnown v6 g65 g66 g67 g68 v64))))) X1) X0
set_option maxHeartbeats 4000000 in
set_option maxRecDepth 100000 in
theorem kX3_readLine (l : Launch) (d : DT) (h0 : Nat → Nat) (h1 : Nat → Nat) (n : Nat) (x0_bytes : (Nat → Int32)) (x0_size : Int32) (x0_start : Int32) (x0_end : Int32) (x0_token : Int32) (x0_value : Int32) (x1_lineCount : Int32) (x1_goodsCount : Int32) (x1_workCount : Int32) (x1_years : Int32) (x1_lines : (Nat → Int32)) (x1_goods : (Nat → Int32)) (x1_works : (Nat → Int32)) (x1_change : (Nat → Int32)) (x1_coin : (Nat → Int32)) (x1_knownFree : (Nat → Int32)) (x1_isKnown : Int32)  {out : Int32 × Int32 × Int32 × Int32 × Int32 × Int32 × (Nat → Int32) × Int32} (hf : fX3_readLine n (x0_bytes, x0_size, x0_start, x0_end, x0_token, x0_value) (x1_lineCount, x1_goodsCount, x1_workCount, x1_years, x1_lines, x1_goods, x1_works, x1_change, x1_coin, x1_knownFree, x1_isKnown) = some out) : Ct l d yX3_readLine cX3_readLine 8 (some .boolean) { frames := 6, cells := 0, slots := 0, locals := 131 } [.ref (h0 0), .ref (h1 0)] [gTp d h0 x0_bytes x0_size x0_start x0_end x0_token x0_value, gLd d h1 x1_lineCount x1_goodsCount x1_workCount x1_years x1_lines x1_goods x1_works x1_change x1_coin x1_knownFree x1_isKnown] (fun _ : Unit => (some (.int out.1), [gTp d h0 x0_bytes x0_size (out.2.1) (out.2.2.1) (out.2.2.2.1) (out.2.2.2.2.1), gLd d h1 (out.2.2.2.2.2.1) x1_goodsCount x1_workCount x1_years (out.2.2.2.2.2.2.1) x1_goods x1_works x1_change x1_coin x1_knownFree (out.2.2.2.2.2.2.2)])) := by
  refine Ct.of (by decide) (Nat.le_of_ble_eq_true rfl) ?_
  intro Φ hl hK hR
  subst hl
  have hK : Ok d Φ RX3 "readLine" cX3_readLine 8 (some .boolean) { frames := 6, cells := 0, slots := 0, locals := 131 } := hK
  unfold fX3_readLine at hf
  have hf := un6 hf
  have hf := un11 hf
  show J d Φ 8 [gTp d h0 x0_bytes x0_size x0_start x0_end x0_token x0_value, gLd d h1 x1_lineCount x1_goodsCount x1_workCount x1_years x1_lines x1_goods x1_works x1_change x1_coin x1_knownFree x1_isKnown] 0 0 0 [(0, .ref (h0 0)), (1, .ref (h1 0))] []
  refine J_aload_n hK dX3_readLine_0 rfl 0 rfl rfl ?_
  obtain ⟨⟨g1, g2, g3, g4⟩, e5, hf⟩ := bs hf
  have hf := un4 hf
  refine J_callV (m' := 2) (ce' := 0) (sl' := 0) (gr := [gLd d h1 x1_lineCount x1_goodsCount x1_workCount x1_years x1_lines x1_goods x1_works x1_change x1_coin x1_knownFree x1_isKnown]) (gs' := fun _ => [gTp d h0 x0_bytes x0_size g1 g2 g3 g4, gLd d h1 x1_lineCount x1_goodsCount x1_workCount x1_years x1_lines x1_goods x1_works x1_change x1_coin x1_knownFree x1_isKnown]) (st' := fun _ => []) (st := []) hK dX3_readLine_1 cv_RX3_22 iv_yX3_next (As := []) (kX3_next _ d h0 n x0_bytes x0_size x0_start x0_end x0_token x0_value e5) rfl rfl (Nat.le_of_ble_eq_true rfl) (by decide) 0 0 rfl rfl rfl [0] [1] rfl rfl rfl rfl [1, 0] rfl (fun _ => rfl) (fun _ => rfl) rfl rfl rfl (fun _ => rfl) (fun _ => ?_)
  refine J_aload_n hK dX3_readLine_4 rfl 0 rfl rfl ?_
  refine J_iconst (v := 0) hK dX3_readLine_5 rfl (by decide) ?_
  refine J_bipush (v := 11) hK dX3_readLine_6 rfl (by decide) ?_
  obtain ⟨⟨v6, g7, g8, g9, g10⟩, e11, hf⟩ := bs hf
  have hf := un5 hf
  refine J_callV (m' := 2) (ce' := 0) (sl' := 0) (gr := [gLd d h1 x1_lineCount x1_goodsCount x1_workCount x1_years x1_lines x1_goods x1_works x1_change x1_coin x1_knownFree x1_isKnown]) (gs' := fun _ => [gTp d h0 x0_bytes x0_size g7 g8 g9 g10, gLd d h1 x1_lineCount x1_goodsCount x1_workCount x1_years x1_lines x1_goods x1_works x1_change x1_coin x1_knownFree x1_isKnown]) (st' := fun _ => [.int v6]) (st := []) hK dX3_readLine_8 cv_RX3_80 iv_yX3_number (As := [.int (0), .int (11)]) (kX3_number _ d h0 n x0_bytes x0_size g1 g2 g3 g4 (0) (11) e11) rfl rfl (Nat.le_of_ble_eq_true rfl) (by decide) 0 0 rfl rfl rfl [0] [1] rfl rfl rfl rfl [1, 0] rfl (fun _ => rfl) (fun _ => rfl) rfl rfl rfl (fun _ => rfl) (fun _ => ?_)
  refine J_istore_n (L' := [(2, .int v6), (0, .ref (h0 0)), (1, .ref (h1 0))]) hK dX3_readLine_11 rfl rfl (by decide) rfl ?_
  refine J_iload_n hK dX3_readLine_12 rfl 0 rfl rfl ?_
  refine J_iconst (v := (-1)) hK dX3_readLine_13 rfl (by decide) ?_
  have j28 : ∀ (x12 : Int32) (x13 : Int32) (x14 : Int32) (x15 : Int32) (y16 : Int32), fX3_readLine_j28 n x0_bytes x0_size x1_lineCount x1_goodsCount x1_workCount x1_years x1_lines x1_goods x1_works x1_change x1_coin x1_knownFree x1_isKnown v6 x12 x13 x14 x15 y16 = some out → J d Φ 8 [gTp d h0 x0_bytes x0_size x12 x13 x14 x15, gLd d h1 x1_lineCount x1_goodsCount x1_workCount x1_years x1_lines x1_goods x1_works x1_change x1_coin x1_knownFree x1_isKnown] 0 0 28 [(0, .ref (h0 0)), (1, .ref (h1 0)), (2, .int v6)] [.int y16] := by
    intro x12 x13 x14 x15 y16 hf
    unfold fX3_readLine_j28 at hf
    refine J_istore_n (L' := [(3, .int y16), (0, .ref (h0 0)), (1, .ref (h1 0)), (2, .int v6)]) hK dX3_readLine_28 rfl rfl (by decide) rfl ?_
    refine J_iload_n hK dX3_readLine_29 rfl 0 rfl rfl ?_
    refine J_iconst (v := (-1)) hK dX3_readLine_30 rfl (by decide) ?_
    refine J_icmp_eq (tg := 43) hK dX3_readLine_31 rfl rfl (fun hc31 => ?_) (fun hc31 => ?_)
    · have hf := ip hc31 hf
      refine J_iconst (v := 0) hK dX3_readLine_43 rfl (by decide) ?_
      obtain rfl := Option.some.inj hf
      exact J_zret hK hR dX3_readLine_44 () rfl rfl (by decide) (by decide)
    · have hf := iq hc31 hf
      refine J_aload_n hK dX3_readLine_34 rfl 1 rfl rfl ?_
      refine J_str hK dX3_readLine_35 rfl 1 rfl rfl rfl ?_
      obtain ⟨v17, e18, hf⟩ := bs hf
      refine J_callV (m' := 2) (ce' := 0) (sl' := 0) (gr := [gLd d h1 x1_lineCount x1_goodsCount x1_workCount x1_years x1_lines x1_goods x1_works x1_change x1_coin x1_knownFree x1_isKnown]) (gs' := fun _ => [gTp d h0 x0_bytes x0_size x12 x13 x14 x15, gLd d h1 x1_lineCount x1_goodsCount x1_workCount x1_years x1_lines x1_goods x1_works x1_change x1_coin x1_knownFree x1_isKnown]) (st' := fun _ => [.int v17]) (st := []) hK dX3_readLine_37 cv_RX3_37 iv_yX3_isWord (As := [.ref (d.2.2.2.1 1)]) (kX3_isWord _ d h0 n x0_bytes x0_size x12 x13 x14 x15 1 e18) rfl rfl (Nat.le_of_ble_eq_true rfl) (by decide) 0 0 rfl rfl rfl [0] [1] rfl rfl rfl rfl [1, 0] rfl (fun _ => rfl) (fun _ => rfl) rfl rfl rfl (fun _ => rfl) (fun _ => ?_)
      refine J_if_ne (tg := 45) hK dX3_readLine_40 rfl rfl (fun hc40 => ?_) (fun hc40 => ?_)
      · have hf := iq hc40 hf
        refine J_aload_n hK dX3_readLine_45 rfl 1 rfl rfl ?_
        obtain ⟨⟨g19, g20, g21, g22⟩, e23, hf⟩ := bs hf
        have hf := un4 hf
        refine J_callV (m' := 2) (ce' := 0) (sl' := 0) (gr := [gLd d h1 x1_lineCount x1_goodsCount x1_workCount x1_years x1_lines x1_goods x1_works x1_change x1_coin x1_knownFree x1_isKnown]) (gs' := fun _ => [gTp d h0 x0_bytes x0_size g19 g20 g21 g22, gLd d h1 x1_lineCount x1_goodsCount x1_workCount x1_years x1_lines x1_goods x1_works x1_change x1_coin x1_knownFree x1_isKnown]) (st' := fun _ => []) (st := []) hK dX3_readLine_46 cv_RX3_22 iv_yX3_next (As := []) (kX3_next _ d h0 n x0_bytes x0_size x12 x13 x14 x15 e23) rfl rfl (Nat.le_of_ble_eq_true rfl) (by decide) 0 0 rfl rfl rfl [0] [1] rfl rfl rfl rfl [1, 0] rfl (fun _ => rfl) (fun _ => rfl) rfl rfl rfl (fun _ => rfl) (fun _ => ?_)
        refine J_aload_n hK dX3_readLine_49 rfl 1 rfl rfl ?_
        refine J_iconst (v := 1) hK dX3_readLine_50 rfl (by decide) ?_
        refine J_bipush (v := 7) hK dX3_readLine_51 rfl (by decide) ?_
        obtain ⟨⟨v24, g25, g26, g27, g28⟩, e29, hf⟩ := bs hf
        have hf := un5 hf
        refine J_callV (m' := 2) (ce' := 0) (sl' := 0) (gr := [gLd d h1 x1_lineCount x1_goodsCount x1_workCount x1_years x1_lines x1_goods x1_works x1_change x1_coin x1_knownFree x1_isKnown]) (gs' := fun _ => [gTp d h0 x0_bytes x0_size g25 g26 g27 g28, gLd d h1 x1_lineCount x1_goodsCount x1_workCount x1_years x1_lines x1_goods x1_works x1_change x1_coin x1_knownFree x1_isKnown]) (st' := fun _ => [.int v24]) (st := []) hK dX3_readLine_53 cv_RX3_80 iv_yX3_number (As := [.int (1), .int (7)]) (kX3_number _ d h0 n x0_bytes x0_size g19 g20 g21 g22 (1) (7) e29) rfl rfl (Nat.le_of_ble_eq_true rfl) (by decide) 0 0 rfl rfl rfl [0] [1] rfl rfl rfl rfl [1, 0] rfl (fun _ => rfl) (fun _ => rfl) rfl rfl rfl (fun _ => rfl) (fun _ => ?_)
        refine J_istore (L' := [(4, .int v24), (3, .int y16), (0, .ref (h0 0)), (1, .ref (h1 0)), (2, .int v6)]) hK dX3_readLine_56 rfl (by decide) rfl ?_
        refine J_iload hK dX3_readLine_58 rfl 0 rfl ?_
        refine J_iconst (v := (-1)) hK dX3_readLine_60 rfl (by decide) ?_
        refine J_icmp_eq (tg := 73) hK dX3_readLine_61 rfl rfl (fun hc61 => ?_) (fun hc61 => ?_)
        · have hf := ip hc61 hf
          refine J_iconst (v := 0) hK dX3_readLine_73 rfl (by decide) ?_
          obtain rfl := Option.some.inj hf
          exact J_zret hK hR dX3_readLine_74 () rfl rfl (by decide) (by decide)
        · have hf := iq hc61 hf
          refine J_aload_n hK dX3_readLine_64 rfl 2 rfl rfl ?_
          refine J_str hK dX3_readLine_65 rfl 2 rfl rfl rfl ?_
          obtain ⟨v30, e31, hf⟩ := bs hf
          refine J_callV (m' := 2) (ce' := 0) (sl' := 0) (gr := [gLd d h1 x1_lineCount x1_goodsCount x1_workCount x1_years x1_lines x1_goods x1_works x1_change x1_coin x1_knownFree x1_isKnown]) (gs' := fun _ => [gTp d h0 x0_bytes x0_size g25 g26 g27 g28, gLd d h1 x1_lineCount x1_goodsCount x1_workCount x1_years x1_lines x1_goods x1_works x1_change x1_coin x1_knownFree x1_isKnown]) (st' := fun _ => [.int v30]) (st := []) hK dX3_readLine_67 cv_RX3_37 iv_yX3_isWord (As := [.ref (d.2.2.2.1 2)]) (kX3_isWord _ d h0 n x0_bytes x0_size g25 g26 g27 g28 2 e31) rfl rfl (Nat.le_of_ble_eq_true rfl) (by decide) 0 0 rfl rfl rfl [0] [1] rfl rfl rfl rfl [1, 0] rfl (fun _ => rfl) (fun _ => rfl) rfl rfl rfl (fun _ => rfl) (fun _ => ?_)
          refine J_if_ne (tg := 75) hK dX3_readLine_70 rfl rfl (fun hc70 => ?_) (fun hc70 => ?_)
          · have hf := iq hc70 hf
            refine J_aload_n hK dX3_readLine_75 rfl 2 rfl rfl ?_
            obtain ⟨⟨g32, g33, g34, g35⟩, e36, hf⟩ := bs hf
            have hf := un4 hf
            refine J_callV (m' := 2) (ce' := 0) (sl' := 0) (gr := [gLd d h1 x1_lineCount x1_goodsCount x1_workCount x1_years x1_lines x1_goods x1_works x1_change x1_coin x1_knownFree x1_isKnown]) (gs' := fun _ => [gTp d h0 x0_bytes x0_size g32 g33 g34 g35, gLd d h1 x1_lineCount x1_goodsCount x1_workCount x1_years x1_lines x1_goods x1_works x1_change x1_coin x1_knownFree x1_isKnown]) (st' := fun _ => []) (st := []) hK dX3_readLine_76 cv_RX3_22 iv_yX3_next (As := []) (kX3_next _ d h0 n x0_bytes x0_size g25 g26 g27 g28 e36) rfl rfl (Nat.le_of_ble_eq_true rfl) (by decide) 0 0 rfl rfl rfl [0] [1] rfl rfl rfl rfl [1, 0] rfl (fun _ => rfl) (fun _ => rfl) rfl rfl rfl (fun _ => rfl) (fun _ => ?_)
            refine J_aload_n hK dX3_readLine_79 rfl 2 rfl rfl ?_
            refine J_iconst (v := 1) hK dX3_readLine_80 rfl (by decide) ?_
            refine J_bipush (v := 60) hK dX3_readLine_81 rfl (by decide) ?_
            obtain ⟨⟨v37, g38, g39, g40, g41⟩, e42, hf⟩ := bs hf
            have hf := un5 hf
            refine J_callV (m' := 2) (ce' := 0) (sl' := 0) (gr := [gLd d h1 x1_lineCount x1_goodsCount x1_workCount x1_years x1_lines x1_goods x1_works x1_change x1_coin x1_knownFree x1_isKnown]) (gs' := fun _ => [gTp d h0 x0_bytes x0_size g38 g39 g40 g41, gLd d h1 x1_lineCount x1_goodsCount x1_workCount x1_years x1_lines x1_goods x1_works x1_change x1_coin x1_knownFree x1_isKnown]) (st' := fun _ => [.int v37]) (st := []) hK dX3_readLine_83 cv_RX3_80 iv_yX3_number (As := [.int (1), .int (60)]) (kX3_number _ d h0 n x0_bytes x0_size g32 g33 g34 g35 (1) (60) e42) rfl rfl (Nat.le_of_ble_eq_true rfl) (by decide) 0 0 rfl rfl rfl [0] [1] rfl rfl rfl rfl [1, 0] rfl (fun _ => rfl) (fun _ => rfl) rfl rfl rfl (fun _ => rfl) (fun _ => ?_)
            refine J_istore (L' := [(5, .int v37), (4, .int v24), (3, .int y16), (0, .ref (h0 0)), (1, .ref (h1 0)), (2, .int v6)]) hK dX3_readLine_86 rfl (by decide) rfl ?_
            refine J_iload hK dX3_readLine_88 rfl 0 rfl ?_
            refine J_iconst (v := (-1)) hK dX3_readLine_90 rfl (by decide) ?_
            refine J_icmp_ne (tg := 96) hK dX3_readLine_91 rfl rfl (fun hc91 => ?_) (fun hc91 => ?_)
            · have hf := iq hc91 hf
              refine J_aload_n hK dX3_readLine_96 rfl 3 rfl rfl ?_
              refine J_str hK dX3_readLine_97 rfl 3 rfl rfl rfl ?_
              refine J_iconst (v := 1) hK dX3_readLine_99 rfl (by decide) ?_
              refine J_sipush (v := 999) hK dX3_readLine_100 rfl (by decide) ?_
              refine J_sipush (v := 999) hK dX3_readLine_103 rfl (by decide) ?_
              obtain ⟨⟨v43, g44, g45, g46, g47⟩, e48, hf⟩ := bs hf
              have hf := un5 hf
              refine J_callV (m' := 2) (ce' := 0) (sl' := 0) (gr := [gLd d h1 x1_lineCount x1_goodsCount x1_workCount x1_years x1_lines x1_goods x1_works x1_change x1_coin x1_knownFree x1_isKnown]) (gs' := fun _ => [gTp d h0 x0_bytes x0_size g44 g45 g46 g47, gLd d h1 x1_lineCount x1_goodsCount x1_workCount x1_years x1_lines x1_goods x1_works x1_change x1_coin x1_knownFree x1_isKnown]) (st' := fun _ => [.int v43]) (st := []) hK dX3_readLine_106 cv_RX3_93 iv_yX3_perhaps (As := [.ref (d.2.2.2.1 3), .int (1), .int (999), .int (999)]) (kX3_perhaps _ d h0 n x0_bytes x0_size g38 g39 g40 g41 3 (1) (999) (999) e48) rfl rfl (Nat.le_of_ble_eq_true rfl) (by decide) 0 0 rfl rfl rfl [0] [1] rfl rfl rfl rfl [1, 0] rfl (fun _ => rfl) (fun _ => rfl) rfl rfl rfl (fun _ => rfl) (fun _ => ?_)
              refine J_istore (L' := [(6, .int v43), (5, .int v37), (4, .int v24), (3, .int y16), (0, .ref (h0 0)), (1, .ref (h1 0)), (2, .int v6)]) hK dX3_readLine_109 rfl (by decide) rfl ?_
              refine J_iload hK dX3_readLine_111 rfl 0 rfl ?_
              refine J_iconst (v := (-1)) hK dX3_readLine_113 rfl (by decide) ?_
              have j130 : ∀ (x49 : Int32) (x50 : Int32) (x51 : Int32) (x52 : Int32) (y53 : Int32), fX3_readLine_j130 x1_lineCount x1_goodsCount x1_workCount x1_years x1_lines x1_goods x1_works x1_change x1_coin x1_knownFree x1_isKnown v6 y16 v24 v37 v43 x49 x50 x51 x52 y53 = some out → J d Φ 8 [gTp d h0 x0_bytes x0_size x49 x50 x51 x52, gLd d h1 x1_lineCount x1_goodsCount x1_workCount x1_years x1_lines x1_goods x1_works x1_change x1_coin x1_knownFree x1_isKnown] 0 0 130 [(1, .ref (h1 0)), (2, .int v6), (3, .int y16), (4, .int v24), (5, .int v37), (6, .int v43)] [.int y53] := by
                intro x49 x50 x51 x52 y53 hf
                unfold fX3_readLine_j130 at hf
                refine J_istore (L' := [(7, .int y53), (1, .ref (h1 0)), (2, .int v6), (3, .int y16), (4, .int v24), (5, .int v37), (6, .int v43)]) hK dX3_readLine_130 rfl (by decide) rfl ?_
                refine J_iload hK dX3_readLine_132 rfl 0 rfl ?_
                refine J_iconst (v := (-1)) hK dX3_readLine_134 rfl (by decide) ?_
                refine J_icmp_ne (tg := 140) hK dX3_readLine_135 rfl rfl (fun hc135 => ?_) (fun hc135 => ?_)
                · have hf := iq hc135 hf
                  refine J_aload_n hK dX3_readLine_140 rfl 1 rfl rfl ?_
                  refine J_iload_n hK dX3_readLine_141 rfl 2 rfl rfl ?_
                  refine J_iload_n hK dX3_readLine_142 rfl 3 rfl rfl ?_
                  refine J_iload hK dX3_readLine_143 rfl 4 rfl ?_
                  refine J_iload hK dX3_readLine_145 rfl 5 rfl ?_
                  refine J_iload hK dX3_readLine_147 rfl 6 rfl ?_
                  refine J_iload hK dX3_readLine_149 rfl 0 rfl ?_
                  obtain ⟨⟨g54, g55, g56⟩, e57, hf⟩ := bs hf
                  have hf := un3 hf
                  refine J_callV (m' := 2) (ce' := 0) (sl' := 0) (gr := [gTp d h0 x0_bytes x0_size x49 x50 x51 x52]) (gs' := fun _ => [gTp d h0 x0_bytes x0_size x49 x50 x51 x52, gLd d h1 g54 x1_goodsCount x1_workCount x1_years g55 x1_goods x1_works x1_change x1_coin x1_knownFree g56]) (st' := fun _ => []) (st := []) hK dX3_readLine_151 cv_RX3_99 iv_yX1_addLine (As := [.int v6, .int y16, .int v24, .int v37, .int v43, .int y53]) (kX1_addLine _ d h1 x1_lineCount x1_goodsCount x1_workCount x1_years x1_lines x1_goods x1_works x1_change x1_coin x1_knownFree x1_isKnown v6 y16 v24 v37 v43 y53 e57) rfl rfl (Nat.le_of_ble_eq_true rfl) (by decide) 1 0 rfl rfl rfl [1] [0] rfl rfl rfl rfl [0, 1] rfl (fun _ => rfl) (fun _ => rfl) rfl rfl rfl (fun _ => rfl) (fun _ => ?_)
                  refine J_iconst (v := 1) hK dX3_readLine_154 rfl (by decide) ?_
                  obtain rfl := Option.some.inj hf
                  exact J_zret hK hR dX3_readLine_155 () rfl rfl (by decide) (by decide)
                · have hf := ip hc135 hf
                  refine J_iconst (v := 0) hK dX3_readLine_138 rfl (by decide) ?_
                  obtain rfl := Option.some.inj hf
                  exact J_zret hK hR dX3_readLine_139 () rfl rfl (by decide) (by decide)
              refine J_icmp_ne (tg := 121) hK dX3_readLine_114 rfl rfl (fun hc114 => ?_) (fun hc114 => ?_)
              · have hf := iq hc114 hf
                refine J_aload_n hK dX3_readLine_121 rfl 4 rfl rfl ?_
                refine J_str hK dX3_readLine_122 rfl 4 rfl rfl rfl ?_
                refine J_iconst (v := 0) hK dX3_readLine_124 rfl (by decide) ?_
                refine J_iconst (v := 5) hK dX3_readLine_125 rfl (by decide) ?_
                refine J_iconst (v := 0) hK dX3_readLine_126 rfl (by decide) ?_
                obtain ⟨⟨v58, g59, g60, g61, g62⟩, e63, hf⟩ := bs hf
                have hf := un5 hf
                refine J_callV (m' := 2) (ce' := 0) (sl' := 0) (gr := [gLd d h1 x1_lineCount x1_goodsCount x1_workCount x1_years x1_lines x1_goods x1_works x1_change x1_coin x1_knownFree x1_isKnown]) (gs' := fun _ => [gTp d h0 x0_bytes x0_size g59 g60 g61 g62, gLd d h1 x1_lineCount x1_goodsCount x1_workCount x1_years x1_lines x1_goods x1_works x1_change x1_coin x1_knownFree x1_isKnown]) (st' := fun _ => [.int v58]) (st := []) hK dX3_readLine_127 cv_RX3_93 iv_yX3_perhaps (As := [.ref (d.2.2.2.1 4), .int (0), .int (5), .int (0)]) (kX3_perhaps _ d h0 n x0_bytes x0_size g44 g45 g46 g47 4 (0) (5) (0) e63) rfl rfl (Nat.le_of_ble_eq_true rfl) (by decide) 0 0 rfl rfl rfl [0] [1] rfl rfl rfl rfl [1, 0] rfl (fun _ => rfl) (fun _ => rfl) rfl rfl rfl (fun _ => rfl) (fun _ => ?_)
                exact J_loc [5, 6, 3, 2, 1, 0] rfl (j130 g59 g60 g61 g62 v58 hf)
              · have hf := ip hc114 hf
                refine J_iconst (v := (-1)) hK dX3_readLine_117 rfl (by decide) ?_
                refine J_goto hK dX3_readLine_118 (n := 130) rfl ?_
                exact J_loc [5, 6, 3, 2, 1, 0] rfl (j130 g44 g45 g46 g47 (-1) hf)
            · have hf := ip hc91 hf
              refine J_iconst (v := 0) hK dX3_readLine_94 rfl (by decide) ?_
              obtain rfl := Option.some.inj hf
              exact J_zret hK hR dX3_readLine_95 () rfl rfl (by decide) (by decide)
          · have hf := ip hc70 hf
            refine J_iconst (v := 0) hK dX3_readLine_73 rfl (by decide) ?_
            obtain rfl := Option.some.inj hf
            exact J_zret hK hR dX3_readLine_74 () rfl rfl (by decide) (by decide)
      · have hf := ip hc40 hf
        refine J_iconst (v := 0) hK dX3_readLine_43 rfl (by decide) ?_
        obtain rfl := Option.some.inj hf
        exact J_zret hK hR dX3_readLine_44 () rfl rfl (by decide) (by decide)
  refine J_icmp_ne (tg := 21) hK dX3_readLine_14 rfl rfl (fun hc14 => ?_) (fun hc14 => ?_)
  · have hf := iq hc14 hf
    refine J_aload_n hK dX3_readLine_21 rfl 1 rfl rfl ?_
    refine J_iload_n hK dX3_readLine_22 rfl 0 rfl rfl ?_
    refine J_bipush (v := 11) hK dX3_readLine_23 rfl (by decide) ?_
    obtain ⟨⟨v64, g65, g66, g67, g68⟩, e69, hf⟩ := bs hf
    have hf := un5 hf
    refine J_callV (m' := 2) (ce' := 0) (sl' := 0) (gr := [gLd d h1 x1_lineCount x1_goodsCount x1_workCount x1_years x1_lines x1_goods x1_works x1_change x1_coin x1_knownFree x1_isKnown]) (gs' := fun _ => [gTp d h0 x0_bytes x0_size g65 g66 g67 g68, gLd d h1 x1_lineCount x1_goodsCount x1_workCount x1_years x1_lines x1_goods x1_works x1_change x1_coin x1_knownFree x1_isKnown]) (st' := fun _ => [.int v64]) (st := []) hK dX3_readLine_25 cv_RX3_84 iv_yX3_numberUnlike (As := [.int v6, .int (11)]) (kX3_numberUnlike _ d h0 n x0_bytes x0_size g7 g8 g9 g10 v6 (11) e69) rfl rfl (Nat.le_of_ble_eq_true rfl) (by decide) 0 0 rfl rfl rfl [0] [1] rfl rfl rfl rfl [1, 0] rfl (fun _ => rfl) (fun _ => rfl) rfl rfl rfl (fun _ => rfl) (fun _ => ?_)
    exact J_loc [1, 2, 0] rfl (j28 g65 g66 g67 g68 v64 hf)
  · have hf := ip hc14 hf
    refine J_iconst (v := (-1)) hK dX3_readLine_17 rfl (by decide) ?_
    refine J_goto hK dX3_readLine_18 (n := 28) rfl ?_
    exact J_loc [1, 2, 0] rfl (j28 g7 g8 g9 g10 (-1) hf)

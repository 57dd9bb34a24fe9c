def fX5_isChange (X0 : WyT) (p1 : Int32) : Option (Int32) :=
  u14 (fun (x0_edgeA : (Nat → Int32)) (x0_edgeB : (Nat → Int32)) (x0_edgeCost : (Nat → Int32)) (x0_edgeLine : (Nat → Int32)) (x0_change : (Nat → Int32)) (x0_away : (Nat → Int32)) (x0_steps : (Nat → Int32)) (x0_nodes : (Nat → Int32)) (x0_stepCount : Int32) (x0_open : (Nat → Int32)) (x0_openCount : Int32) (x0_seen : Int64) (x0_edgeCount : Int32) (x0_aim : Int32) => (fX6_within p1 (1) (x0_stepCount - 1)).bind (fun v1 => if v1 = 0 then (some (0)) else ((rd 36 x0_steps p1).bind fun v3 => if 3 ≤ v3 then (some (0)) else (some (1))))) X0
set_option maxHeartbeats 4000000 in
set_option maxRecDepth 100000 in
theorem kX5_isChange (l : Launch) (d : DT) (h0 : Nat → Nat) (x0_edgeA : (Nat → Int32)) (x0_edgeB : (Nat → Int32)) (x0_edgeCost : (Nat → Int32)) (x0_edgeLine : (Nat → Int32)) (x0_change : (Nat → Int32)) (x0_away : (Nat → Int32)) (x0_steps : (Nat → Int32)) (x0_nodes : (Nat → Int32)) (x0_stepCount : Int32) (x0_open : (Nat → Int32)) (x0_openCount : Int32) (x0_seen : Int64) (x0_edgeCount : Int32) (x0_aim : Int32) (p1 : Int32)  {out : Int32} (hf : fX5_isChange (x0_edgeA, x0_edgeB, x0_edgeCost, x0_edgeLine, x0_change, x0_away, x0_steps, x0_nodes, x0_stepCount, x0_open, x0_openCount, x0_seen, x0_edgeCount, x0_aim) p1 = some out) : Ct l d yX5_isChange cX5_isChange 2 (some .boolean) { frames := 1, cells := 0, slots := 0, locals := 22 } [.ref (h0 0), .int p1] [gWy d h0 x0_edgeA x0_edgeB x0_edgeCost x0_edgeLine x0_change x0_away x0_steps x0_nodes x0_stepCount x0_open x0_openCount x0_seen x0_edgeCount x0_aim] (fun _ : Unit => (some (.int out), [gWy d h0 x0_edgeA x0_edgeB x0_edgeCost x0_edgeLine x0_change x0_away x0_steps x0_nodes x0_stepCount x0_open x0_openCount x0_seen x0_edgeCount x0_aim])) := by
  refine Ct.of (by decide) (Nat.le_of_ble_eq_true rfl) ?_
  intro Φ hl hK hR
  subst hl
  have hK : Ok d Φ RX5 "isChange" cX5_isChange 2 (some .boolean) { frames := 1, cells := 0, slots := 0, locals := 22 } := hK
  unfold fX5_isChange at hf
  have hf := un14 hf
  show J d Φ 2 [gWy d h0 x0_edgeA x0_edgeB x0_edgeCost x0_edgeLine x0_change x0_away x0_steps x0_nodes x0_stepCount x0_open x0_openCount x0_seen x0_edgeCount x0_aim] 0 0 0 [(0, .ref (h0 0)), (1, .int p1)] []
  refine J_iload_n hK dX5_isChange_0 rfl 1 rfl rfl ?_
  refine J_iconst (v := 1) hK dX5_isChange_1 rfl (by decide) ?_
  refine J_aload_n hK dX5_isChange_2 rfl 0 rfl rfl ?_
  refine J_get hK fo_RX5_79 dX5_isChange_3 rfl 0 0 rfl rfl rfl ?_
  refine J_iconst (v := 1) hK dX5_isChange_6 rfl (by decide) ?_
  refine J_isub hK dX5_isChange_7 rfl ?_
  obtain ⟨v1, e2, hf⟩ := bs hf
  refine J_callN (m' := 1) (ce' := 0) (sl' := 0) (gr := [gWy d h0 x0_edgeA x0_edgeB x0_edgeCost x0_edgeLine x0_change x0_away x0_steps x0_nodes x0_stepCount x0_open x0_openCount x0_seen x0_edgeCount x0_aim]) (gs' := fun _ => [gWy d h0 x0_edgeA x0_edgeB x0_edgeCost x0_edgeLine x0_change x0_away x0_steps x0_nodes x0_stepCount x0_open x0_openCount x0_seen x0_edgeCount x0_aim]) (st' := fun _ => [.int v1]) (st := []) hK dX5_isChange_8 cn_RX5_120 (As := [.int p1, .int (1), .int (x0_stepCount - 1)]) (kX6_within _ d p1 (1) (x0_stepCount - 1) e2) rfl rfl (Nat.le_of_ble_eq_true rfl) (by decide) [] [0] rfl rfl rfl rfl [0] rfl (fun _ => rfl) (fun _ => rfl) rfl rfl rfl (fun _ => rfl) (fun _ => ?_)
  refine J_if_eq (tg := 28) hK dX5_isChange_11 rfl rfl (fun hc11 => ?_) (fun hc11 => ?_)
  · have hf := ip hc11 hf
    refine J_iconst (v := 0) hK dX5_isChange_28 rfl (by decide) ?_
    obtain rfl := Option.some.inj hf
    exact J_zret hK hR dX5_isChange_29 () rfl rfl (by decide) (by decide)
  · have hf := iq hc11 hf
    refine J_aload_n hK dX5_isChange_14 rfl 0 rfl rfl ?_
    refine J_get hK fo_RX5_30 dX5_isChange_15 rfl 0 0 rfl rfl rfl ?_
    refine J_iload_n hK dX5_isChange_18 rfl 1 rfl rfl ?_
    obtain ⟨v3, ev3, hf⟩ := bs hf
    refine J_iald hK dX5_isChange_19 rfl 0 7 rfl rfl ev3 ?_
    refine J_iconst (v := 3) hK dX5_isChange_20 rfl (by decide) ?_
    refine J_icmp_ge (tg := 28) hK dX5_isChange_21 rfl rfl (fun hc21 => ?_) (fun hc21 => ?_)
    · have hf := ip hc21 hf
      refine J_iconst (v := 0) hK dX5_isChange_28 rfl (by decide) ?_
      obtain rfl := Option.some.inj hf
      exact J_zret hK hR dX5_isChange_29 () rfl rfl (by decide) (by decide)
    · have hf := iq hc21 hf
      refine J_iconst (v := 1) hK dX5_isChange_24 rfl (by decide) ?_
      refine J_goto hK dX5_isChange_25 (n := 29) rfl ?_
      obtain rfl := Option.some.inj hf
      exact J_zret hK hR dX5_isChange_29 () rfl rfl (by decide) (by decide)

def fX5_placeAfter (X0 : WyT) (p1 : Int32) : Option (Int32) :=
  u14 (fun (x0_edgeA : (Nat → Int32)) (x0_edgeB : (Nat → Int32)) (x0_edgeCost : (Nat → Int32)) (x0_edgeLine : (Nat → Int32)) (x0_change : (Nat → Int32)) (x0_away : (Nat → Int32)) (x0_steps : (Nat → Int32)) (x0_nodes : (Nat → Int32)) (x0_stepCount : Int32) (x0_open : (Nat → Int32)) (x0_openCount : Int32) (x0_seen : Int64) (x0_edgeCount : Int32) (x0_aim : Int32) => (fX6_within p1 (0) (x0_stepCount - 1)).bind (fun v1 => if v1 = 0 then (some (-1)) else ((rd 36 x0_nodes p1).bind fun v3 => some (v3 / 3)))) X0
set_option maxHeartbeats 4000000 in
set_option maxRecDepth 100000 in
theorem kX5_placeAfter (l : Launch) (d : DT) (h0 : Nat → Nat) (x0_edgeA : (Nat → Int32)) (x0_edgeB : (Nat → Int32)) (x0_edgeCost : (Nat → Int32)) (x0_edgeLine : (Nat → Int32)) (x0_change : (Nat → Int32)) (x0_away : (Nat → Int32)) (x0_steps : (Nat → Int32)) (x0_nodes : (Nat → Int32)) (x0_stepCount : Int32) (x0_open : (Nat → Int32)) (x0_openCount : Int32) (x0_seen : Int64) (x0_edgeCount : Int32) (x0_aim : Int32) (p1 : Int32)  {out : Int32} (hf : fX5_placeAfter (x0_edgeA, x0_edgeB, x0_edgeCost, x0_edgeLine, x0_change, x0_away, x0_steps, x0_nodes, x0_stepCount, x0_open, x0_openCount, x0_seen, x0_edgeCount, x0_aim) p1 = some out) : Ct l d yX5_placeAfter cX5_placeAfter 2 (some .int) { frames := 1, cells := 0, slots := 0, locals := 22 } [.ref (h0 0), .int p1] [gWy d h0 x0_edgeA x0_edgeB x0_edgeCost x0_edgeLine x0_change x0_away x0_steps x0_nodes x0_stepCount x0_open x0_openCount x0_seen x0_edgeCount x0_aim] (fun _ : Unit => (some (.int out), [gWy d h0 x0_edgeA x0_edgeB x0_edgeCost x0_edgeLine x0_change x0_away x0_steps x0_nodes x0_stepCount x0_open x0_openCount x0_seen x0_edgeCount x0_aim])) := by
  refine Ct.of (by decide) (Nat.le_of_ble_eq_true rfl) ?_
  intro Φ hl hK hR
  subst hl
  have hK : Ok d Φ RX5 "placeAfter" cX5_placeAfter 2 (some .int) { frames := 1, cells := 0, slots := 0, locals := 22 } := hK
  unfold fX5_placeAfter at hf
  have hf := un14 hf
  show J d Φ 2 [gWy d h0 x0_edgeA x0_edgeB x0_edgeCost x0_edgeLine x0_change x0_away x0_steps x0_nodes x0_stepCount x0_open x0_openCount x0_seen x0_edgeCount x0_aim] 0 0 0 [(0, .ref (h0 0)), (1, .int p1)] []
  refine J_iload_n hK dX5_placeAfter_0 rfl 1 rfl rfl ?_
  refine J_iconst (v := 0) hK dX5_placeAfter_1 rfl (by decide) ?_
  refine J_aload_n hK dX5_placeAfter_2 rfl 0 rfl rfl ?_
  refine J_get hK fo_RX5_79 dX5_placeAfter_3 rfl 0 0 rfl rfl rfl ?_
  refine J_iconst (v := 1) hK dX5_placeAfter_6 rfl (by decide) ?_
  refine J_isub hK dX5_placeAfter_7 rfl ?_
  obtain ⟨v1, e2, hf⟩ := bs hf
  refine J_callN (m' := 1) (ce' := 0) (sl' := 0) (gr := [gWy d h0 x0_edgeA x0_edgeB x0_edgeCost x0_edgeLine x0_change x0_away x0_steps x0_nodes x0_stepCount x0_open x0_openCount x0_seen x0_edgeCount x0_aim]) (gs' := fun _ => [gWy d h0 x0_edgeA x0_edgeB x0_edgeCost x0_edgeLine x0_change x0_away x0_steps x0_nodes x0_stepCount x0_open x0_openCount x0_seen x0_edgeCount x0_aim]) (st' := fun _ => [.int v1]) (st := []) hK dX5_placeAfter_8 cn_RX5_120 (As := [.int p1, .int (0), .int (x0_stepCount - 1)]) (kX6_within _ d p1 (0) (x0_stepCount - 1) e2) rfl rfl (Nat.le_of_ble_eq_true rfl) (by decide) [] [0] rfl rfl rfl rfl [0] rfl (fun _ => rfl) (fun _ => rfl) rfl rfl rfl (fun _ => rfl) (fun _ => ?_)
  refine J_if_eq (tg := 25) hK dX5_placeAfter_11 rfl rfl (fun hc11 => ?_) (fun hc11 => ?_)
  · have hf := ip hc11 hf
    refine J_iconst (v := (-1)) hK dX5_placeAfter_25 rfl (by decide) ?_
    obtain rfl := Option.some.inj hf
    exact J_iret hK hR dX5_placeAfter_26 () rfl (by decide) (by decide)
  · have hf := iq hc11 hf
    refine J_aload_n hK dX5_placeAfter_14 rfl 0 rfl rfl ?_
    refine J_get hK fo_RX5_33 dX5_placeAfter_15 rfl 0 0 rfl rfl rfl ?_
    refine J_iload_n hK dX5_placeAfter_18 rfl 1 rfl rfl ?_
    obtain ⟨v3, ev3, hf⟩ := bs hf
    refine J_iald hK dX5_placeAfter_19 rfl 0 8 rfl rfl ev3 ?_
    refine J_iconst (v := 3) hK dX5_placeAfter_20 rfl (by decide) ?_
    refine J_idiv hK dX5_placeAfter_21 rfl (by decide) ?_
    refine J_goto hK dX5_placeAfter_22 (n := 26) rfl ?_
    obtain rfl := Option.some.inj hf
    exact J_iret hK hR dX5_placeAfter_26 () rfl (by decide) (by decide)

def fX4_changesAt_s4 (p1 : Int32) (x1_edgeA : (Nat → Int32)) (x1_edgeB : (Nat → Int32)) (x1_edgeCost : (Nat → Int32)) (x1_edgeLine : (Nat → Int32)) (x1_change : (Nat → Int32)) (x1_away : (Nat → Int32)) (x1_steps : (Nat → Int32)) (x1_nodes : (Nat → Int32)) (x1_stepCount : Int32) (x1_open : (Nat → Int32)) (x1_openCount : Int32) (x1_seen : Int64) (x1_edgeCount : Int32) (x1_aim : Int32) (z2 : Int32) (z3 : Int32) : Option ((Int32 × Int32) ⊕ (Int32)) :=
  if x1_stepCount ≤ z3 then (some (.inr z2)) else ((fX5_isChange (x1_edgeA, x1_edgeB, x1_edgeCost, x1_edgeLine, x1_change, x1_away, x1_steps, x1_nodes, x1_stepCount, x1_open, x1_openCount, x1_seen, x1_edgeCount, x1_aim) z3).bind (fun v6 => if v6 = 0 then (some (.inl (z2, (z3 + 1)))) else ((fX5_placeAfter (x1_edgeA, x1_edgeB, x1_edgeCost, x1_edgeLine, x1_change, x1_away, x1_steps, x1_nodes, x1_stepCount, x1_open, x1_openCount, x1_seen, x1_edgeCount, x1_aim) z3).bind (fun v8 => if v8 = p1 then (some (.inl ((z2 + 1), (z3 + 1)))) else (some (.inl (z2, (z3 + 1))))))))
def fX4_changesAt (n : Nat) (X0 : TrT) (X1 : WyT) (p1 : Int32) : Option (Int32) :=
  u4 (fun (x0_left : (Nat → Int32)) (x0_earned : (Nat → Int32)) (x0_turnCost : Int32) (x0_turnWayless : Int32) => u14 (fun (x1_edgeA : (Nat → Int32)) (x1_edgeB : (Nat → Int32)) (x1_edgeCost : (Nat → Int32)) (x1_edgeLine : (Nat → Int32)) (x1_change : (Nat → Int32)) (x1_away : (Nat → Int32)) (x1_steps : (Nat → Int32)) (x1_nodes : (Nat → Int32)) (x1_stepCount : Int32) (x1_open : (Nat → Int32)) (x1_openCount : Int32) (x1_seen : Int64) (x1_edgeCount : Int32) (x1_aim : Int32) => (lp (u2 (fX4_changesAt_s4 p1 x1_edgeA x1_edgeB x1_edgeCost x1_edgeLine x1_change x1_away x1_steps x1_nodes x1_stepCount x1_open x1_openCount x1_seen x1_edgeCount x1_aim)) n (0, 1)).bind (fun w5 => some w5)) X1) X0
set_option maxHeartbeats 4000000 in
set_option maxRecDepth 100000 in
theorem kX4_changesAt (l : Launch) (d : DT) (h0 : Nat → Nat) (h1 : Nat → Nat) (n : Nat) (x0_left : (Nat → Int32)) (x0_earned : (Nat → Int32)) (x0_turnCost : Int32) (x0_turnWayless : Int32) (x1_edgeA : (Nat → Int32)) (x1_edgeB : (Nat → Int32)) (x1_edgeCost : (Nat → Int32)) (x1_edgeLine : (Nat → Int32)) (x1_change : (Nat → Int32)) (x1_away : (Nat → Int32)) (x1_steps : (Nat → Int32)) (x1_nodes : (Nat → Int32)) (x1_stepCount : Int32) (x1_open : (Nat → Int32)) (x1_openCount : Int32) (x1_seen : Int64) (x1_edgeCount : Int32) (x1_aim : Int32) (p1 : Int32)  {out : Int32} (hf : fX4_changesAt n (x0_left, x0_earned, x0_turnCost, x0_turnWayless) (x1_edgeA, x1_edgeB, x1_edgeCost, x1_edgeLine, x1_change, x1_away, x1_steps, x1_nodes, x1_stepCount, x1_open, x1_openCount, x1_seen, x1_edgeCount, x1_aim) p1 = some out) : Ct l d yX4_changesAt cX4_changesAt 4 (some .int) { frames := 2, cells := 0, slots := 0, locals := 43 } [.ref (h0 0), .int p1] [gTr d h0 (h1 0) x0_left x0_earned x0_turnCost x0_turnWayless, gWy d h1 x1_edgeA x1_edgeB x1_edgeCost x1_edgeLine x1_change x1_away x1_steps x1_nodes x1_stepCount x1_open x1_openCount x1_seen x1_edgeCount x1_aim] (fun _ : Unit => (some (.int out), [gTr d h0 (h1 0) x0_left x0_earned x0_turnCost x0_turnWayless, gWy d h1 x1_edgeA x1_edgeB x1_edgeCost x1_edgeLine x1_change x1_away x1_steps x1_nodes x1_stepCount x1_open x1_openCount x1_seen x1_edgeCount x1_aim])) := by
  refine Ct.of (by decide) (Nat.le_of_ble_eq_true rfl) ?_
  intro Φ hl hK hR
  subst hl
  have hK : Ok d Φ RX4 "changesAt" cX4_changesAt 4 (some .int) { frames := 2, cells := 0, slots := 0, locals := 43 } := hK
  unfold fX4_changesAt at hf
  have hf := un4 hf
  have hf := un14 hf
  show J d Φ 4 [gTr d h0 (h1 0) x0_left x0_earned x0_turnCost x0_turnWayless, gWy d h1 x1_edgeA x1_edgeB x1_edgeCost x1_edgeLine x1_change x1_away x1_steps x1_nodes x1_stepCount x1_open x1_openCount x1_seen x1_edgeCount x1_aim] 0 0 0 [(0, .ref (h0 0)), (1, .int p1)] []
  refine J_iconst (v := 0) hK dX4_changesAt_0 rfl (by decide) ?_
  refine J_istore_n (L' := [(2, .int (0)), (0, .ref (h0 0)), (1, .int p1)]) hK dX4_changesAt_1 rfl rfl (by decide) rfl ?_
  refine J_iconst (v := 1) hK dX4_changesAt_2 rfl (by decide) ?_
  refine J_istore_n (L' := [(3, .int (1)), (2, .int (0)), (0, .ref (h0 0)), (1, .int p1)]) hK dX4_changesAt_3 rfl rfl (by decide) rfl ?_
  obtain ⟨e4, hl1, hf⟩ := bs hf
  have hx1_47 : ∀ (w5 : Int32), w5 = e4 → J d Φ 4 [gTr d h0 (h1 0) x0_left x0_earned x0_turnCost x0_turnWayless, gWy d h1 x1_edgeA x1_edgeB x1_edgeCost x1_edgeLine x1_change x1_away x1_steps x1_nodes x1_stepCount x1_open x1_openCount x1_seen x1_edgeCount x1_aim] 0 0 47 [(2, .int w5)] [] := by
    intro w5 he
    rw [← he] at hf
    refine J_iload_n hK dX4_changesAt_47 rfl 0 rfl rfl ?_
    obtain rfl := Option.some.inj hf
    exact J_iret hK hR dX4_changesAt_48 () rfl (by decide) (by decide)
  have lo1 : ∀ (k : Nat) (z2 : Int32) (z3 : Int32), lp (u2 (fX4_changesAt_s4 p1 x1_edgeA x1_edgeB x1_edgeCost x1_edgeLine x1_change x1_away x1_steps x1_nodes x1_stepCount x1_open x1_openCount x1_seen x1_edgeCount x1_aim)) k (z2, z3) = some e4 → J d Φ 4 [gTr d h0 (h1 0) x0_left x0_earned x0_turnCost x0_turnWayless, gWy d h1 x1_edgeA x1_edgeB x1_edgeCost x1_edgeLine x1_change x1_away x1_steps x1_nodes x1_stepCount x1_open x1_openCount x1_seen x1_edgeCount x1_aim] 0 0 4 [(0, .ref (h0 0)), (1, .int p1), (2, .int z2), (3, .int z3)] [] := by
    intro k
    induction k with
    | zero => intro z2 z3 h; cases h
    | succ k ih1 =>
      intro z2 z3 h
      obtain ⟨k2, rr1, hk2, hs1, hr1⟩ := lp_ok h
      cases hk2
      have hs1 : fX4_changesAt_s4 p1 x1_edgeA x1_edgeB x1_edgeCost x1_edgeLine x1_change x1_away x1_steps x1_nodes x1_stepCount x1_open x1_openCount x1_seen x1_edgeCount x1_aim z2 z3 = some rr1 := hs1
      unfold fX4_changesAt_s4 at hs1
      refine J_iload_n hK dX4_changesAt_4 rfl 3 rfl rfl ?_
      refine J_aload_n hK dX4_changesAt_5 rfl 0 rfl rfl ?_
      refine J_get hK fo_RX4_12 dX4_changesAt_6 rfl 0 0 rfl rfl rfl ?_
      refine J_get hK fo_RX4_74 dX4_changesAt_9 rfl 1 0 rfl rfl rfl ?_
      refine J_icmp_ge (tg := 47) hK dX4_changesAt_12 rfl rfl (fun hc12 => ?_) (fun hc12 => ?_)
      · have hs1 := ip hc12 hs1
        exact J_loc [2] rfl (hx1_47 z2 (lpx hs1 hr1))
      · have hs1 := iq hc12 hs1
        refine J_aload_n hK dX4_changesAt_15 rfl 0 rfl rfl ?_
        refine J_get hK fo_RX4_12 dX4_changesAt_16 rfl 0 0 rfl rfl rfl ?_
        refine J_iload_n hK dX4_changesAt_19 rfl 3 rfl rfl ?_
        obtain ⟨v6, e7, hs1⟩ := bs hs1
        refine J_callV (m' := 2) (ce' := 0) (sl' := 0) (gr := [gTr d h0 (h1 0) x0_left x0_earned x0_turnCost x0_turnWayless]) (gs' := fun _ => [gTr d h0 (h1 0) x0_left x0_earned x0_turnCost x0_turnWayless, gWy d h1 x1_edgeA x1_edgeB x1_edgeCost x1_edgeLine x1_change x1_away x1_steps x1_nodes x1_stepCount x1_open x1_openCount x1_seen x1_edgeCount x1_aim]) (st' := fun _ => [.int v6]) (st := []) hK dX4_changesAt_20 cv_RX4_108 iv_yX5_isChange (As := [.int z3]) (kX5_isChange _ d h1 x1_edgeA x1_edgeB x1_edgeCost x1_edgeLine x1_change x1_away x1_steps x1_nodes x1_stepCount x1_open x1_openCount x1_seen x1_edgeCount x1_aim z3 e7) rfl rfl (Nat.le_of_ble_eq_true rfl) (by decide) 1 0 rfl rfl rfl [1] [0] rfl rfl rfl rfl [0, 1] rfl (fun _ => rfl) (fun _ => rfl) rfl rfl rfl (fun _ => rfl) (fun _ => ?_)
        refine J_if_eq (tg := 41) hK dX4_changesAt_23 rfl rfl (fun hc23 => ?_) (fun hc23 => ?_)
        · have hs1 := ip hc23 hs1
          refine J_iinc (L' := [(3, .int (z3 + 1)), (0, .ref (h0 0)), (1, .int p1), (2, .int z2)]) (v := (z3 + 1)) hK dX4_changesAt_41 rfl 3 rfl rfl (by decide) rfl ?_
          refine J_goto hK dX4_changesAt_44 (n := 4) rfl ?_
          exact J_loc [1, 2, 3, 0] rfl (ih1 z2 (z3 + 1) (lpc hs1 hr1))
        · have hs1 := iq hc23 hs1
          refine J_aload_n hK dX4_changesAt_26 rfl 0 rfl rfl ?_
          refine J_get hK fo_RX4_12 dX4_changesAt_27 rfl 0 0 rfl rfl rfl ?_
          refine J_iload_n hK dX4_changesAt_30 rfl 3 rfl rfl ?_
          obtain ⟨v8, e9, hs1⟩ := bs hs1
          refine J_callV (m' := 2) (ce' := 0) (sl' := 0) (gr := [gTr d h0 (h1 0) x0_left x0_earned x0_turnCost x0_turnWayless]) (gs' := fun _ => [gTr d h0 (h1 0) x0_left x0_earned x0_turnCost x0_turnWayless, gWy d h1 x1_edgeA x1_edgeB x1_edgeCost x1_edgeLine x1_change x1_away x1_steps x1_nodes x1_stepCount x1_open x1_openCount x1_seen x1_edgeCount x1_aim]) (st' := fun _ => [.int v8]) (st := []) hK dX4_changesAt_31 cv_RX4_111 iv_yX5_placeAfter (As := [.int z3]) (kX5_placeAfter _ d h1 x1_edgeA x1_edgeB x1_edgeCost x1_edgeLine x1_change x1_away x1_steps x1_nodes x1_stepCount x1_open x1_openCount x1_seen x1_edgeCount x1_aim z3 e9) rfl rfl (Nat.le_of_ble_eq_true rfl) (by decide) 1 0 rfl rfl rfl [1] [0] rfl rfl rfl rfl [0, 1] rfl (fun _ => rfl) (fun _ => rfl) rfl rfl rfl (fun _ => rfl) (fun _ => ?_)
          refine J_iload_n hK dX4_changesAt_34 rfl 1 rfl rfl ?_
          refine J_icmp_ne (tg := 41) hK dX4_changesAt_35 rfl rfl (fun hc35 => ?_) (fun hc35 => ?_)
          · have hs1 := iq hc35 hs1
            refine J_iinc (L' := [(3, .int (z3 + 1)), (0, .ref (h0 0)), (1, .int p1), (2, .int z2)]) (v := (z3 + 1)) hK dX4_changesAt_41 rfl 3 rfl rfl (by decide) rfl ?_
            refine J_goto hK dX4_changesAt_44 (n := 4) rfl ?_
            exact J_loc [1, 2, 3, 0] rfl (ih1 z2 (z3 + 1) (lpc hs1 hr1))
          · have hs1 := ip hc35 hs1
            refine J_iinc (L' := [(2, .int (z2 + 1)), (0, .ref (h0 0)), (1, .int p1), (3, .int z3)]) (v := (z2 + 1)) hK dX4_changesAt_38 rfl 2 rfl rfl (by decide) rfl ?_
            refine J_iinc (L' := [(3, .int (z3 + 1)), (2, .int (z2 + 1)), (0, .ref (h0 0)), (1, .int p1)]) (v := (z3 + 1)) hK dX4_changesAt_41 rfl 3 rfl rfl (by decide) rfl ?_
            refine J_goto hK dX4_changesAt_44 (n := 4) rfl ?_
            exact J_loc [2, 3, 1, 0] rfl (ih1 (z2 + 1) (z3 + 1) (lpc hs1 hr1))
  exact J_loc [2, 3, 1, 0] rfl (lo1 n (0) (1) hl1)

def fX4_stepsTo_s4 (p1 : Int32) (x1_edgeA : (Nat → Int32)) (x1_edgeB : (Nat → Int32)) (x1_edgeCost : (Nat → Int32)) (x1_edgeLine : (Nat → Int32)) (x1_change : (Nat → Int32)) (x1_away : (Nat → Int32)) (x1_steps : (Nat → Int32)) (x1_nodes : (Nat → Int32)) (x1_stepCount : Int32) (x1_open : (Nat → Int32)) (x1_openCount : Int32) (x1_seen : Int64) (x1_edgeCount : Int32) (x1_aim : Int32) (z2 : Int32) (z3 : Int32) : Option ((Int32 × Int32) ⊕ (Int32)) :=
  if x1_stepCount ≤ z3 then (some (.inr z2)) else ((fX5_placeAfter (x1_edgeA, x1_edgeB, x1_edgeCost, x1_edgeLine, x1_change, x1_away, x1_steps, x1_nodes, x1_stepCount, x1_open, x1_openCount, x1_seen, x1_edgeCount, x1_aim) z3).bind (fun v6 => if v6 = p1 then (some (.inl ((z2 + 1), (z3 + 1)))) else (some (.inl (z2, (z3 + 1))))))
def fX4_stepsTo (n : Nat) (X0 : TrT) (X1 : WyT) (p1 : Int32) : Option (Int32) :=
  u4 (fun (x0_left : (Nat → Int32)) (x0_earned : (Nat → Int32)) (x0_turnCost : Int32) (x0_turnWayless : Int32) => u14 (fun (x1_edgeA : (Nat → Int32)) (x1_edgeB : (Nat → Int32)) (x1_edgeCost : (Nat → Int32)) (x1_edgeLine : (Nat → Int32)) (x1_change : (Nat → Int32)) (x1_away : (Nat → Int32)) (x1_steps : (Nat → Int32)) (x1_nodes : (Nat → Int32)) (x1_stepCount : Int32) (x1_open : (Nat → Int32)) (x1_openCount : Int32) (x1_seen : Int64) (x1_edgeCount : Int32) (x1_aim : Int32) => (lp (u2 (fX4_stepsTo_s4 p1 x1_edgeA x1_edgeB x1_edgeCost x1_edgeLine x1_change x1_away x1_steps x1_nodes x1_stepCount x1_open x1_openCount x1_seen x1_edgeCount x1_aim)) n (0, 0)).bind (fun w5 => some w5)) X1) X0
set_option maxHeartbeats 4000000 in
set_option maxRecDepth 100000 in
theorem kX4_stepsTo (l : Launch) (d : DT) (h0 : Nat → Nat) (h1 : Nat → Nat) (n : Nat) (x0_left : (Nat → Int32)) (x0_earned : (Nat → Int32)) (x0_turnCost : Int32) (x0_turnWayless : Int32) (x1_edgeA : (Nat → Int32)) (x1_edgeB : (Nat → Int32)) (x1_edgeCost : (Nat → Int32)) (x1_edgeLine : (Nat → Int32)) (x1_change : (Nat → Int32)) (x1_away : (Nat → Int32)) (x1_steps : (Nat → Int32)) (x1_nodes : (Nat → Int32)) (x1_stepCount : Int32) (x1_open : (Nat → Int32)) (x1_openCount : Int32) (x1_seen : Int64) (x1_edgeCount : Int32) (x1_aim : Int32) (p1 : Int32)  {out : Int32} (hf : fX4_stepsTo n (x0_left, x0_earned, x0_turnCost, x0_turnWayless) (x1_edgeA, x1_edgeB, x1_edgeCost, x1_edgeLine, x1_change, x1_away, x1_steps, x1_nodes, x1_stepCount, x1_open, x1_openCount, x1_seen, x1_edgeCount, x1_aim) p1 = some out) : Ct l d yX4_stepsTo cX4_stepsTo 4 (some .int) { frames := 2, cells := 0, slots := 0, locals := 43 } [.ref (h0 0), .int p1] [gTr d h0 (h1 0) x0_left x0_earned x0_turnCost x0_turnWayless, gWy d h1 x1_edgeA x1_edgeB x1_edgeCost x1_edgeLine x1_change x1_away x1_steps x1_nodes x1_stepCount x1_open x1_openCount x1_seen x1_edgeCount x1_aim] (fun _ : Unit => (some (.int out), [gTr d h0 (h1 0) x0_left x0_earned x0_turnCost x0_turnWayless, gWy d h1 x1_edgeA x1_edgeB x1_edgeCost x1_edgeLine x1_change x1_away x1_steps x1_nodes x1_stepCount x1_open x1_openCount x1_seen x1_edgeCount x1_aim])) := by
  refine Ct.of (by decide) (Nat.le_of_ble_eq_true rfl) ?_
  intro Φ hl hK hR
  subst hl
  have hK : Ok d Φ RX4 "stepsTo" cX4_stepsTo 4 (some .int) { frames := 2, cells := 0, slots := 0, locals := 43 } := hK
  unfold fX4_stepsTo at hf
  have hf := un4 hf
  have hf := un14 hf
  show J d Φ 4 [gTr d h0 (h1 0) x0_left x0_earned x0_turnCost x0_turnWayless, gWy d h1 x1_edgeA x1_edgeB x1_edgeCost x1_edgeLine x1_change x1_away x1_steps x1_nodes x1_stepCount x1_open x1_openCount x1_seen x1_edgeCount x1_aim] 0 0 0 [(0, .ref (h0 0)), (1, .int p1)] []
  refine J_iconst (v := 0) hK dX4_stepsTo_0 rfl (by decide) ?_
  refine J_istore_n (L' := [(2, .int (0)), (0, .ref (h0 0)), (1, .int p1)]) hK dX4_stepsTo_1 rfl rfl (by decide) rfl ?_
  refine J_iconst (v := 0) hK dX4_stepsTo_2 rfl (by decide) ?_
  refine J_istore_n (L' := [(3, .int (0)), (2, .int (0)), (0, .ref (h0 0)), (1, .int p1)]) hK dX4_stepsTo_3 rfl rfl (by decide) rfl ?_
  obtain ⟨e4, hl1, hf⟩ := bs hf
  have hx1_36 : ∀ (w5 : Int32), w5 = e4 → J d Φ 4 [gTr d h0 (h1 0) x0_left x0_earned x0_turnCost x0_turnWayless, gWy d h1 x1_edgeA x1_edgeB x1_edgeCost x1_edgeLine x1_change x1_away x1_steps x1_nodes x1_stepCount x1_open x1_openCount x1_seen x1_edgeCount x1_aim] 0 0 36 [(2, .int w5)] [] := by
    intro w5 he
    rw [← he] at hf
    refine J_iload_n hK dX4_stepsTo_36 rfl 0 rfl rfl ?_
    obtain rfl := Option.some.inj hf
    exact J_iret hK hR dX4_stepsTo_37 () rfl (by decide) (by decide)
  have lo1 : ∀ (k : Nat) (z2 : Int32) (z3 : Int32), lp (u2 (fX4_stepsTo_s4 p1 x1_edgeA x1_edgeB x1_edgeCost x1_edgeLine x1_change x1_away x1_steps x1_nodes x1_stepCount x1_open x1_openCount x1_seen x1_edgeCount x1_aim)) k (z2, z3) = some e4 → J d Φ 4 [gTr d h0 (h1 0) x0_left x0_earned x0_turnCost x0_turnWayless, gWy d h1 x1_edgeA x1_edgeB x1_edgeCost x1_edgeLine x1_change x1_away x1_steps x1_nodes x1_stepCount x1_open x1_openCount x1_seen x1_edgeCount x1_aim] 0 0 4 [(0, .ref (h0 0)), (1, .int p1), (2, .int z2), (3, .int z3)] [] := by
    intro k
    induction k with
    | zero => intro z2 z3 h; cases h
    | succ k ih1 =>
      intro z2 z3 h
      obtain ⟨k2, rr1, hk2, hs1, hr1⟩ := lp_ok h
      cases hk2
      have hs1 : fX4_stepsTo_s4 p1 x1_edgeA x1_edgeB x1_edgeCost x1_edgeLine x1_change x1_away x1_steps x1_nodes x1_stepCount x1_open x1_openCount x1_seen x1_edgeCount x1_aim z2 z3 = some rr1 := hs1
      unfold fX4_stepsTo_s4 at hs1
      refine J_iload_n hK dX4_stepsTo_4 rfl 3 rfl rfl ?_
      refine J_aload_n hK dX4_stepsTo_5 rfl 0 rfl rfl ?_
      refine J_get hK fo_RX4_12 dX4_stepsTo_6 rfl 0 0 rfl rfl rfl ?_
      refine J_get hK fo_RX4_74 dX4_stepsTo_9 rfl 1 0 rfl rfl rfl ?_
      refine J_icmp_ge (tg := 36) hK dX4_stepsTo_12 rfl rfl (fun hc12 => ?_) (fun hc12 => ?_)
      · have hs1 := ip hc12 hs1
        exact J_loc [2] rfl (hx1_36 z2 (lpx hs1 hr1))
      · have hs1 := iq hc12 hs1
        refine J_aload_n hK dX4_stepsTo_15 rfl 0 rfl rfl ?_
        refine J_get hK fo_RX4_12 dX4_stepsTo_16 rfl 0 0 rfl rfl rfl ?_
        refine J_iload_n hK dX4_stepsTo_19 rfl 3 rfl rfl ?_
        obtain ⟨v6, e7, hs1⟩ := bs hs1
        refine J_callV (m' := 2) (ce' := 0) (sl' := 0) (gr := [gTr d h0 (h1 0) x0_left x0_earned x0_turnCost x0_turnWayless]) (gs' := fun _ => [gTr d h0 (h1 0) x0_left x0_earned x0_turnCost x0_turnWayless, gWy d h1 x1_edgeA x1_edgeB x1_edgeCost x1_edgeLine x1_change x1_away x1_steps x1_nodes x1_stepCount x1_open x1_openCount x1_seen x1_edgeCount x1_aim]) (st' := fun _ => [.int v6]) (st := []) hK dX4_stepsTo_20 cv_RX4_111 iv_yX5_placeAfter (As := [.int z3]) (kX5_placeAfter _ d h1 x1_edgeA x1_edgeB x1_edgeCost x1_edgeLine x1_change x1_away x1_steps x1_nodes x1_stepCount x1_open x1_openCount x1_seen x1_edgeCount x1_aim z3 e7) rfl rfl (Nat.le_of_ble_eq_true rfl) (by decide) 1 0 rfl rfl rfl [1] [0] rfl rfl rfl rfl [0, 1] rfl (fun _ => rfl) (fun _ => rfl) rfl rfl rfl (fun _ => rfl) (fun _ => ?_)
        refine J_iload_n hK dX4_stepsTo_23 rfl 1 rfl rfl ?_
        refine J_icmp_ne (tg := 30) hK dX4_stepsTo_24 rfl rfl (fun hc24 => ?_) (fun hc24 => ?_)
        · have hs1 := iq hc24 hs1
          refine J_iinc (L' := [(3, .int (z3 + 1)), (0, .ref (h0 0)), (1, .int p1), (2, .int z2)]) (v := (z3 + 1)) hK dX4_stepsTo_30 rfl 3 rfl rfl (by decide) rfl ?_
          refine J_goto hK dX4_stepsTo_33 (n := 4) rfl ?_
          exact J_loc [1, 2, 3, 0] rfl (ih1 z2 (z3 + 1) (lpc hs1 hr1))
        · have hs1 := ip hc24 hs1
          refine J_iinc (L' := [(2, .int (z2 + 1)), (0, .ref (h0 0)), (1, .int p1), (3, .int z3)]) (v := (z2 + 1)) hK dX4_stepsTo_27 rfl 2 rfl rfl (by decide) rfl ?_
          refine J_iinc (L' := [(3, .int (z3 + 1)), (2, .int (z2 + 1)), (0, .ref (h0 0)), (1, .int p1)]) (v := (z3 + 1)) hK dX4_stepsTo_30 rfl 3 rfl rfl (by decide) rfl ?_
          refine J_goto hK dX4_stepsTo_33 (n := 4) rfl ?_
          exact J_loc [2, 3, 1, 0] rfl (ih1 (z2 + 1) (z3 + 1) (lpc hs1 hr1))
  exact J_loc [2, 3, 1, 0] rfl (lo1 n (0) (0) hl1)

def fX4_tonsAt_j72 (x2_lineCount : Int32) (x2_goodsCount : Int32) (x2_workCount : Int32) (x2_years : Int32) (x2_lines : (Nat → Int32)) (x2_goods : (Nat → Int32)) (x2_works : (Nat → Int32)) (x2_change : (Nat → Int32)) (x2_coin : (Nat → Int32)) (x2_knownFree : (Nat → Int32)) (x2_isKnown : Int32) (z13 : Int32) (z14 : Int32) (g39 : (Nat → Int32)) (g40 : (Nat → Int32)) (g41 : (Nat → Int32)) (g42 : Int32) (g43 : (Nat → Int32)) (g44 : Int32) (g45 : Int64) (g46 : Int32) (y48 : Int32) : Option ((Int32 × Int32 × (Nat → Int32) × (Nat → Int32) × (Nat → Int32) × Int32 × (Nat → Int32) × Int32 × Int64 × Int32) ⊕ (Int32 × (Nat → Int32) × (Nat → Int32) × (Nat → Int32) × Int32 × (Nat → Int32) × Int32 × Int64 × Int32)) :=
  (fX1_ofGoods (x2_lineCount, x2_goodsCount, x2_workCount, x2_years, x2_lines, x2_goods, x2_works, x2_change, x2_coin, x2_knownFree, x2_isKnown) z14 (2)).bind (fun v49 => some (.inl ((z13 + (v49 * y48)), (z14 + 1), g39, g40, g41, g42, g43, g44, g45, g46)))
def fX4_tonsAt_s18 (n : Nat) (p2 : Int32) (p3 : Int32) (x0_left : (Nat → Int32)) (x0_earned : (Nat → Int32)) (x0_turnCost : Int32) (x0_turnWayless : Int32) (x2_lineCount : Int32) (x2_goodsCount : Int32) (x2_workCount : Int32) (x2_years : Int32) (x2_lines : (Nat → Int32)) (x2_goods : (Nat → Int32)) (x2_works : (Nat → Int32)) (x2_change : (Nat → Int32)) (x2_coin : (Nat → Int32)) (x2_knownFree : (Nat → Int32)) (x2_isKnown : Int32) (g4 : (Nat → Int32)) (g5 : (Nat → Int32)) (g6 : (Nat → Int32)) (g7 : (Nat → Int32)) (g8 : (Nat → Int32)) (g9 : Int32) (z13 : Int32) (z14 : Int32) (z15 : (Nat → Int32)) (z16 : (Nat → Int32)) (z17 : (Nat → Int32)) (z18 : Int32) (z19 : (Nat → Int32)) (z20 : Int32) (z21 : Int64) (z22 : Int32) : Option ((Int32 × Int32 × (Nat → Int32) × (Nat → Int32) × (Nat → Int32) × Int32 × (Nat → Int32) × Int32 × Int64 × Int32) ⊕ (Int32 × (Nat → Int32) × (Nat → Int32) × (Nat → Int32) × Int32 × (Nat → Int32) × Int32 × Int64 × Int32)) :=
  if x2_goodsCount ≤ z14 then (some (.inr (z13, z15, z16, z17, z18, z19, z20, z21, z22))) else ((fX1_ofGoods (x2_lineCount, x2_goodsCount, x2_workCount, x2_years, x2_lines, x2_goods, x2_works, x2_change, x2_coin, x2_knownFree, x2_isKnown) z14 (0)).bind (fun v33 => (fX1_ofGoods (x2_lineCount, x2_goodsCount, x2_workCount, x2_years, x2_lines, x2_goods, x2_works, x2_change, x2_coin, x2_knownFree, x2_isKnown) z14 (1)).bind (fun v35 => (fX5_trace n (g4, g5, g6, g7, g8, z15, z16, z17, z18, z19, z20, z21, g9, z22) v33 v35).bind (u2 fun v37 G38 => u8 (fun g39 g40 g41 g42 g43 g44 g45 g46 => if v37 = 0 then (some (.inl (z13, (z14 + 1), g39, g40, g41, g42, g43, g44, g45, g46))) else (if p3 = 0 then ((fX4_stepsTo n (x0_left, x0_earned, x0_turnCost, x0_turnWayless) (g4, g5, g6, g7, g8, g39, g40, g41, g42, g43, g44, g45, g9, g46) p2).bind (fun v51 => fX4_tonsAt_j72 x2_lineCount x2_goodsCount x2_workCount x2_years x2_lines x2_goods x2_works x2_change x2_coin x2_knownFree x2_isKnown z13 z14 g39 g40 g41 g42 g43 g44 g45 g46 (mmin (1) v51))) else ((fX4_changesAt n (x0_left, x0_earned, x0_turnCost, x0_turnWayless) (g4, g5, g6, g7, g8, g39, g40, g41, g42, g43, g44, g45, g9, g46) p2).bind (fun v53 => fX4_tonsAt_j72 x2_lineCount x2_goodsCount x2_workCount x2_years x2_lines x2_goods x2_works x2_change x2_coin x2_knownFree x2_isKnown z13 z14 g39 g40 g41 g42 g43 g44 g45 g46 v53)))) G38))))
def fX4_tonsAt (n : Nat) (X0 : TrT) (X1 : WyT) (X2 : LdT) (p2 : Int32) (p3 : Int32) : Option (Int32 × ((Nat → Int32) × (Nat → Int32) × (Nat → Int32) × (Nat → Int32) × (Nat → Int32) × (Nat → Int32) × (Nat → Int32) × (Nat → Int32) × Int32 × (Nat → Int32) × Int32 × Int64 × Int32 × Int32)) :=
  u4 (fun (x0_left : (Nat → Int32)) (x0_earned : (Nat → Int32)) (x0_turnCost : Int32) (x0_turnWayless : Int32) => u14 (fun (x1_edgeA : (Nat → Int32)) (x1_edgeB : (Nat → Int32)) (x1_edgeCost : (Nat → Int32)) (x1_edgeLine : (Nat → Int32)) (x1_change : (Nat → Int32)) (x1_away : (Nat → Int32)) (x1_steps : (Nat → Int32)) (x1_nodes : (Nat → Int32)) (x1_stepCount : Int32) (x1_open : (Nat → Int32)) (x1_openCount : Int32) (x1_seen : Int64) (x1_edgeCount : Int32) (x1_aim : Int32) => u11 (fun (x2_lineCount : Int32) (x2_goodsCount : Int32) (x2_workCount : Int32) (x2_years : Int32) (x2_lines : (Nat → Int32)) (x2_goods : (Nat → Int32)) (x2_works : (Nat → Int32)) (x2_change : (Nat → Int32)) (x2_coin : (Nat → Int32)) (x2_knownFree : (Nat → Int32)) (x2_isKnown : Int32) => (fX1_linesThere n (x2_lineCount, x2_goodsCount, x2_workCount, x2_years, x2_lines, x2_goods, x2_works, x2_change, x2_coin, x2_knownFree, x2_isKnown)).bind (fun v1 => (fX5_prepare n (x1_edgeA, x1_edgeB, x1_edgeCost, x1_edgeLine, x1_change, x1_away, x1_steps, x1_nodes, x1_stepCount, x1_open, x1_openCount, x1_seen, x1_edgeCount, x1_aim) (x2_lineCount, x2_goodsCount, x2_workCount, x2_years, x2_lines, x2_goods, x2_works, x2_change, x2_coin, x2_knownFree, x2_isKnown) v1).bind (fun G3 => u7 (fun g4 g5 g6 g7 g8 g9 g10 => (lp (u10 (fX4_tonsAt_s18 n p2 p3 x0_left x0_earned x0_turnCost x0_turnWayless x2_lineCount x2_goodsCount x2_workCount x2_years x2_lines x2_goods x2_works x2_change x2_coin x2_knownFree x2_isKnown g4 g5 g6 g7 g8 g9)) n (0, 0, x1_away, x1_steps, x1_nodes, x1_stepCount, x1_open, x1_openCount, x1_seen, g10)).bind (u9 fun w24 w25 w26 w27 w28 w29 w30 w31 w32 => some (w24, (g4, g5, g6, g7, g8, w25, w26, w27, w28, w29, w30, w31, g9, w32)))) G3))) X2) X1) X0
set_option maxHeartbeats 4000000 in
set_option maxRecDepth 100000 in
theorem kX4_tonsAt (l : Launch) (d : DT) (h0 : Nat → Nat) (h1 : Nat → Nat) (h2 : Nat → Nat) (n : Nat) (x0_left : (Nat → Int32)) (x0_earned : (Nat → Int32)) (x0_turnCost : Int32) (x0_turnWayless : Int32) (x1_edgeA : (Nat → Int32)) (x1_edgeB : (Nat → Int32)) (x1_edgeCost : (Nat → Int32)) (x1_edgeLine : (Nat → Int32)) (x1_change : (Nat → Int32)) (x1_away : (Nat → Int32)) (x1_steps : (Nat → Int32)) (x1_nodes : (Nat → Int32)) (x1_stepCount : Int32) (x1_open : (Nat → Int32)) (x1_openCount : Int32) (x1_seen : Int64) (x1_edgeCount : Int32) (x1_aim : Int32) (x2_lineCount : Int32) (x2_goodsCount : Int32) (x2_workCount : Int32) (x2_years : Int32) (x2_lines : (Nat → Int32)) (x2_goods : (Nat → Int32)) (x2_works : (Nat → Int32)) (x2_change : (Nat → Int32)) (x2_coin : (Nat → Int32)) (x2_knownFree : (Nat → Int32)) (x2_isKnown : Int32) (p2 : Int32) (p3 : Int32)  {out : Int32 × ((Nat → Int32) × (Nat → Int32) × (Nat → Int32) × (Nat → Int32) × (Nat → Int32) × (Nat → Int32) × (Nat → Int32) × (Nat → Int32) × Int32 × (Nat → Int32) × Int32 × Int64 × Int32 × Int32)} (hf : fX4_tonsAt n (x0_left, x0_earned, x0_turnCost, x0_turnWayless) (x1_edgeA, x1_edgeB, x1_edgeCost, x1_edgeLine, x1_change, x1_away, x1_steps, x1_nodes, x1_stepCount, x1_open, x1_openCount, x1_seen, x1_edgeCount, x1_aim) (x2_lineCount, x2_goodsCount, x2_workCount, x2_years, x2_lines, x2_goods, x2_works, x2_change, x2_coin, x2_knownFree, x2_isKnown) p2 p3 = some out) : Ct l d yX4_tonsAt cX4_tonsAt 7 (some .int) { frames := 5, cells := 0, slots := 0, locals := 131 } [.ref (h0 0), .ref (h2 0), .int p2, .int p3] [gTr d h0 (h1 0) x0_left x0_earned x0_turnCost x0_turnWayless, gWy d h1 x1_edgeA x1_edgeB x1_edgeCost x1_edgeLine x1_change x1_away x1_steps x1_nodes x1_stepCount x1_open x1_openCount x1_seen x1_edgeCount x1_aim, gLd d h2 x2_lineCount x2_goodsCount x2_workCount x2_years x2_lines x2_goods x2_works x2_change x2_coin x2_knownFree x2_isKnown] (fun _ : Unit => (some (.int out.1), [gTr d h0 (h1 0) x0_left x0_earned x0_turnCost x0_turnWayless, gWy d h1 (out.2.1) (out.2.2.1) (out.2.2.2.1) (out.2.2.2.2.1) (out.2.2.2.2.2.1) (out.2.2.2.2.2.2.1) (out.2.2.2.2.2.2.2.1) (out.2.2.2.2.2.2.2.2.1) (out.2.2.2.2.2.2.2.2.2.1) (out.2.2.2.2.2.2.2.2.2.2.1) (out.2.2.2.2.2.2.2.2.2.2.2.1) (out.2.2.2.2.2.2.2.2.2.2.2.2.1) (out.2.2.2.2.2.2.2.2.2.2.2.2.2.1) (out.2.2.2.2.2.2.2.2.2.2.2.2.2.2), gLd d h2 x2_lineCount x2_goodsCount x2_workCount x2_years x2_lines x2_goods x2_works x2_change x2_coin x2_knownFree x2_isKnown])) := by
  refine Ct.of (by decide) (Nat.le_of_ble_eq_true rfl) ?_
  intro Φ hl hK hR
  subst hl
  have hK : Ok d Φ RX4 "tonsAt" cX4_tonsAt 7 (some .int) { frames := 5, cells := 0, slots := 0, locals := 131 } := hK
  unfold fX4_tonsAt at hf
  have hf := un4 hf
  have hf := un14 hf
  have hf := un11 hf
  show J d Φ 7 [gTr d h0 (h1 0) x0_left x0_earned x0_turnCost x0_turnWayless, gWy d h1 x1_edgeA x1_edgeB x1_edgeCost x1_edgeLine x1_change x1_away x1_steps x1_nodes x1_stepCount x1_open x1_openCount x1_seen x1_edgeCount x1_aim, gLd d h2 x2_lineCount x2_goodsCount x2_workCount x2_years x2_lines x2_goods x2_works x2_change x2_coin x2_knownFree x2_isKnown] 0 0 0 [(0, .ref (h0 0)), (1, .ref (h2 0)), (2, .int p2), (3, .int p3)] []
  refine J_aload_n hK dX4_tonsAt_0 rfl 0 rfl rfl ?_
  refine J_get hK fo_RX4_12 dX4_tonsAt_1 rfl 0 0 rfl rfl rfl ?_
  refine J_aload_n hK dX4_tonsAt_4 rfl 1 rfl rfl ?_
  refine J_aload_n hK dX4_tonsAt_5 rfl 1 rfl rfl ?_
  obtain ⟨v1, e2, hf⟩ := bs hf
  refine J_callV (m' := 3) (ce' := 0) (sl' := 0) (gr := [gTr d h0 (h1 0) x0_left x0_earned x0_turnCost x0_turnWayless, gWy d h1 x1_edgeA x1_edgeB x1_edgeCost x1_edgeLine x1_change x1_away x1_steps x1_nodes x1_stepCount x1_open x1_openCount x1_seen x1_edgeCount x1_aim]) (gs' := fun _ => [gTr d h0 (h1 0) x0_left x0_earned x0_turnCost x0_turnWayless, gWy d h1 x1_edgeA x1_edgeB x1_edgeCost x1_edgeLine x1_change x1_away x1_steps x1_nodes x1_stepCount x1_open x1_openCount x1_seen x1_edgeCount x1_aim, gLd d h2 x2_lineCount x2_goodsCount x2_workCount x2_years x2_lines x2_goods x2_works x2_change x2_coin x2_knownFree x2_isKnown]) (st' := fun _ => [.int v1, .ref (h2 0), .ref (h1 0)]) (st := [.ref (h2 0), .ref (h1 0)]) hK dX4_tonsAt_6 cv_RX4_25 iv_yX1_linesThere (As := []) (kX1_linesThere _ d h2 n x2_lineCount x2_goodsCount x2_workCount x2_years x2_lines x2_goods x2_works x2_change x2_coin x2_knownFree x2_isKnown e2) rfl rfl (Nat.le_of_ble_eq_true rfl) (by decide) 2 0 rfl rfl rfl [2] [0, 1] rfl rfl rfl rfl [0, 1, 2] rfl (fun _ => rfl) (fun _ => rfl) rfl rfl rfl (fun _ => rfl) (fun _ => ?_)
  obtain ⟨⟨g4, g5, g6, g7, g8, g9, g10⟩, e11, hf⟩ := bs hf
  have hf := un7 hf
  refine J_callV (m' := 3) (ce' := 0) (sl' := 0) (gr := [gTr d h0 (h1 0) x0_left x0_earned x0_turnCost x0_turnWayless]) (gs' := fun _ => [gTr d h0 (h1 0) x0_left x0_earned x0_turnCost x0_turnWayless, gWy d h1 g4 g5 g6 g7 g8 x1_away x1_steps x1_nodes x1_stepCount x1_open x1_openCount x1_seen g9 g10, gLd d h2 x2_lineCount x2_goodsCount x2_workCount x2_years x2_lines x2_goods x2_works x2_change x2_coin x2_knownFree x2_isKnown]) (st' := fun _ => []) (st := []) hK dX4_tonsAt_9 cv_RX4_31 iv_yX5_prepare (As := [.ref (h2 0), .int v1]) (kX5_prepare _ d h1 h2 n x1_edgeA x1_edgeB x1_edgeCost x1_edgeLine x1_change x1_away x1_steps x1_nodes x1_stepCount x1_open x1_openCount x1_seen x1_edgeCount x1_aim x2_lineCount x2_goodsCount x2_workCount x2_years x2_lines x2_goods x2_works x2_change x2_coin x2_knownFree x2_isKnown v1 e11) rfl rfl (Nat.le_of_ble_eq_true rfl) (by decide) 1 0 rfl rfl rfl [1, 2] [0] rfl rfl rfl rfl [0, 1, 2] rfl (fun _ => rfl) (fun _ => rfl) rfl rfl rfl (fun _ => rfl) (fun _ => ?_)
  refine J_iconst (v := 0) hK dX4_tonsAt_12 rfl (by decide) ?_
  refine J_istore (L' := [(4, .int (0)), (0, .ref (h0 0)), (1, .ref (h2 0)), (2, .int p2), (3, .int p3)]) hK dX4_tonsAt_13 rfl (by decide) rfl ?_
  refine J_iconst (v := 0) hK dX4_tonsAt_15 rfl (by decide) ?_
  refine J_istore (L' := [(5, .int (0)), (4, .int (0)), (0, .ref (h0 0)), (1, .ref (h2 0)), (2, .int p2), (3, .int p3)]) hK dX4_tonsAt_16 rfl (by decide) rfl ?_
  obtain ⟨e23, hl12, hf⟩ := bs hf
  have hx12_95 : ∀ (w24 : Int32) (w25 : (Nat → Int32)) (w26 : (Nat → Int32)) (w27 : (Nat → Int32)) (w28 : Int32) (w29 : (Nat → Int32)) (w30 : Int32) (w31 : Int64) (w32 : Int32), (w24, w25, w26, w27, w28, w29, w30, w31, w32) = e23 → J d Φ 7 [gTr d h0 (h1 0) x0_left x0_earned x0_turnCost x0_turnWayless, gWy d h1 g4 g5 g6 g7 g8 w25 w26 w27 w28 w29 w30 w31 g9 w32, gLd d h2 x2_lineCount x2_goodsCount x2_workCount x2_years x2_lines x2_goods x2_works x2_change x2_coin x2_knownFree x2_isKnown] 0 0 95 [(4, .int w24)] [] := by
    intro w24 w25 w26 w27 w28 w29 w30 w31 w32 he
    rw [← he] at hf
    have hf := un9 hf
    refine J_iload hK dX4_tonsAt_95 rfl 0 rfl ?_
    obtain rfl := Option.some.inj hf
    exact J_iret hK hR dX4_tonsAt_97 () rfl (by decide) (by decide)
  have lo12 : ∀ (k : Nat) (z13 : Int32) (z14 : Int32) (z15 : (Nat → Int32)) (z16 : (Nat → Int32)) (z17 : (Nat → Int32)) (z18 : Int32) (z19 : (Nat → Int32)) (z20 : Int32) (z21 : Int64) (z22 : Int32), lp (u10 (fX4_tonsAt_s18 n p2 p3 x0_left x0_earned x0_turnCost x0_turnWayless x2_lineCount x2_goodsCount x2_workCount x2_years x2_lines x2_goods x2_works x2_change x2_coin x2_knownFree x2_isKnown g4 g5 g6 g7 g8 g9)) k (z13, z14, z15, z16, z17, z18, z19, z20, z21, z22) = some e23 → J d Φ 7 [gTr d h0 (h1 0) x0_left x0_earned x0_turnCost x0_turnWayless, gWy d h1 g4 g5 g6 g7 g8 z15 z16 z17 z18 z19 z20 z21 g9 z22, gLd d h2 x2_lineCount x2_goodsCount x2_workCount x2_years x2_lines x2_goods x2_works x2_change x2_coin x2_knownFree x2_isKnown] 0 0 18 [(0, .ref (h0 0)), (1, .ref (h2 0)), (2, .int p2), (3, .int p3), (4, .int z13), (5, .int z14)] [] := by
    intro k
    induction k with
    | zero => intro z13 z14 z15 z16 z17 z18 z19 z20 z21 z22 h; cases h
    | succ k ih12 =>
      intro z13 z14 z15 z16 z17 z18 z19 z20 z21 z22 h
      obtain ⟨k2, rr12, hk2, hs12, hr12⟩ := lp_ok h
      cases hk2
      have hs12 : fX4_tonsAt_s18 n p2 p3 x0_left x0_earned x0_turnCost x0_turnWayless x2_lineCount x2_goodsCount x2_workCount x2_years x2_lines x2_goods x2_works x2_change x2_coin x2_knownFree x2_isKnown g4 g5 g6 g7 g8 g9 z13 z14 z15 z16 z17 z18 z19 z20 z21 z22 = some rr12 := hs12
      unfold fX4_tonsAt_s18 at hs12
      refine J_iload hK dX4_tonsAt_18 rfl 5 rfl ?_
      refine J_aload_n hK dX4_tonsAt_20 rfl 1 rfl rfl ?_
      refine J_get hK fo_RX4_43 dX4_tonsAt_21 rfl 2 0 rfl rfl rfl ?_
      refine J_icmp_ge (tg := 95) hK dX4_tonsAt_24 rfl rfl (fun hc24 => ?_) (fun hc24 => ?_)
      · have hs12 := ip hc24 hs12
        exact J_loc [4] rfl (hx12_95 z13 z15 z16 z17 z18 z19 z20 z21 z22 (lpx hs12 hr12))
      · have hs12 := iq hc24 hs12
        refine J_aload_n hK dX4_tonsAt_27 rfl 0 rfl rfl ?_
        refine J_get hK fo_RX4_12 dX4_tonsAt_28 rfl 0 0 rfl rfl rfl ?_
        refine J_aload_n hK dX4_tonsAt_31 rfl 1 rfl rfl ?_
        refine J_iload hK dX4_tonsAt_32 rfl 5 rfl ?_
        refine J_iconst (v := 0) hK dX4_tonsAt_34 rfl (by decide) ?_
        obtain ⟨v33, e34, hs12⟩ := bs hs12
        refine J_callV (m' := 3) (ce' := 0) (sl' := 0) (gr := [gTr d h0 (h1 0) x0_left x0_earned x0_turnCost x0_turnWayless, gWy d h1 g4 g5 g6 g7 g8 z15 z16 z17 z18 z19 z20 z21 g9 z22]) (gs' := fun _ => [gTr d h0 (h1 0) x0_left x0_earned x0_turnCost x0_turnWayless, gWy d h1 g4 g5 g6 g7 g8 z15 z16 z17 z18 z19 z20 z21 g9 z22, gLd d h2 x2_lineCount x2_goodsCount x2_workCount x2_years x2_lines x2_goods x2_works x2_change x2_coin x2_knownFree x2_isKnown]) (st' := fun _ => [.int v33, .ref (h1 0)]) (st := [.ref (h1 0)]) hK dX4_tonsAt_35 cv_RX4_47 iv_yX1_ofGoods (As := [.int z14, .int (0)]) (kX1_ofGoods _ d h2 x2_lineCount x2_goodsCount x2_workCount x2_years x2_lines x2_goods x2_works x2_change x2_coin x2_knownFree x2_isKnown z14 (0) e34) rfl rfl (Nat.le_of_ble_eq_true rfl) (by decide) 2 0 rfl rfl rfl [2] [0, 1] rfl rfl rfl rfl [0, 1, 2] rfl (fun _ => rfl) (fun _ => rfl) rfl rfl rfl (fun _ => rfl) (fun _ => ?_)
        refine J_aload_n hK dX4_tonsAt_38 rfl 1 rfl rfl ?_
        refine J_iload hK dX4_tonsAt_39 rfl 5 rfl ?_
        refine J_iconst (v := 1) hK dX4_tonsAt_41 rfl (by decide) ?_
        obtain ⟨v35, e36, hs12⟩ := bs hs12
        refine J_callV (m' := 3) (ce' := 0) (sl' := 0) (gr := [gTr d h0 (h1 0) x0_left x0_earned x0_turnCost x0_turnWayless, gWy d h1 g4 g5 g6 g7 g8 z15 z16 z17 z18 z19 z20 z21 g9 z22]) (gs' := fun _ => [gTr d h0 (h1 0) x0_left x0_earned x0_turnCost x0_turnWayless, gWy d h1 g4 g5 g6 g7 g8 z15 z16 z17 z18 z19 z20 z21 g9 z22, gLd d h2 x2_lineCount x2_goodsCount x2_workCount x2_years x2_lines x2_goods x2_works x2_change x2_coin x2_knownFree x2_isKnown]) (st' := fun _ => [.int v35, .int v33, .ref (h1 0)]) (st := [.int v33, .ref (h1 0)]) hK dX4_tonsAt_42 cv_RX4_47 iv_yX1_ofGoods (As := [.int z14, .int (1)]) (kX1_ofGoods _ d h2 x2_lineCount x2_goodsCount x2_workCount x2_years x2_lines x2_goods x2_works x2_change x2_coin x2_knownFree x2_isKnown z14 (1) e36) rfl rfl (Nat.le_of_ble_eq_true rfl) (by decide) 2 0 rfl rfl rfl [2] [0, 1] rfl rfl rfl rfl [0, 1, 2] rfl (fun _ => rfl) (fun _ => rfl) rfl rfl rfl (fun _ => rfl) (fun _ => ?_)
        obtain ⟨⟨v37, ⟨g39, g40, g41, g42, g43, g44, g45, g46⟩⟩, e47, hs12⟩ := bs hs12
        have hs12 := un2 hs12
        have hs12 := un8 hs12
        refine J_callV (m' := 3) (ce' := 0) (sl' := 0) (gr := [gTr d h0 (h1 0) x0_left x0_earned x0_turnCost x0_turnWayless, gLd d h2 x2_lineCount x2_goodsCount x2_workCount x2_years x2_lines x2_goods x2_works x2_change x2_coin x2_knownFree x2_isKnown]) (gs' := fun _ => [gTr d h0 (h1 0) x0_left x0_earned x0_turnCost x0_turnWayless, gWy d h1 g4 g5 g6 g7 g8 g39 g40 g41 g42 g43 g44 g45 g9 g46, gLd d h2 x2_lineCount x2_goodsCount x2_workCount x2_years x2_lines x2_goods x2_works x2_change x2_coin x2_knownFree x2_isKnown]) (st' := fun _ => [.int v37]) (st := []) hK dX4_tonsAt_45 cv_RX4_67 iv_yX5_trace (As := [.int v33, .int v35]) (kX5_trace _ d h1 n g4 g5 g6 g7 g8 z15 z16 z17 z18 z19 z20 z21 g9 z22 v33 v35 e47) rfl rfl (Nat.le_of_ble_eq_true rfl) (by decide) 1 0 rfl rfl rfl [1] [0, 2] rfl rfl rfl rfl [0, 2, 1] rfl (fun _ => rfl) (fun _ => rfl) rfl rfl rfl (fun _ => rfl) (fun _ => ?_)
        refine J_if_eq (tg := 89) hK dX4_tonsAt_48 rfl rfl (fun hc48 => ?_) (fun hc48 => ?_)
        · have hs12 := ip hc48 hs12
          refine J_iinc (L' := [(5, .int (z14 + 1)), (0, .ref (h0 0)), (1, .ref (h2 0)), (2, .int p2), (3, .int p3), (4, .int z13)]) (v := (z14 + 1)) hK dX4_tonsAt_89 rfl 5 rfl rfl (by decide) rfl ?_
          refine J_goto hK dX4_tonsAt_92 (n := 18) rfl ?_
          exact J_loc [1, 2, 3, 4, 5, 0] rfl (ih12 z13 (z14 + 1) g39 g40 g41 g42 g43 g44 g45 g46 (lpc hs12 hr12))
        · have hs12 := iq hc48 hs12
          refine J_iload_n hK dX4_tonsAt_51 rfl 3 rfl rfl ?_
          have j72 : ∀ (y48 : Int32), fX4_tonsAt_j72 x2_lineCount x2_goodsCount x2_workCount x2_years x2_lines x2_goods x2_works x2_change x2_coin x2_knownFree x2_isKnown z13 z14 g39 g40 g41 g42 g43 g44 g45 g46 y48 = some rr12 → J d Φ 7 [gTr d h0 (h1 0) x0_left x0_earned x0_turnCost x0_turnWayless, gWy d h1 g4 g5 g6 g7 g8 g39 g40 g41 g42 g43 g44 g45 g9 g46, gLd d h2 x2_lineCount x2_goodsCount x2_workCount x2_years x2_lines x2_goods x2_works x2_change x2_coin x2_knownFree x2_isKnown] 0 0 72 [(0, .ref (h0 0)), (1, .ref (h2 0)), (2, .int p2), (3, .int p3), (4, .int z13), (5, .int z14)] [.int y48] := by
            intro y48 hs12
            unfold fX4_tonsAt_j72 at hs12
            refine J_istore (L' := [(6, .int y48), (0, .ref (h0 0)), (1, .ref (h2 0)), (2, .int p2), (3, .int p3), (4, .int z13), (5, .int z14)]) hK dX4_tonsAt_72 rfl (by decide) rfl ?_
            refine J_iload hK dX4_tonsAt_74 rfl 5 rfl ?_
            refine J_aload_n hK dX4_tonsAt_76 rfl 2 rfl rfl ?_
            refine J_iload hK dX4_tonsAt_77 rfl 6 rfl ?_
            refine J_iconst (v := 2) hK dX4_tonsAt_79 rfl (by decide) ?_
            obtain ⟨v49, e50, hs12⟩ := bs hs12
            refine J_callV (m' := 3) (ce' := 0) (sl' := 0) (gr := [gTr d h0 (h1 0) x0_left x0_earned x0_turnCost x0_turnWayless, gWy d h1 g4 g5 g6 g7 g8 g39 g40 g41 g42 g43 g44 g45 g9 g46]) (gs' := fun _ => [gTr d h0 (h1 0) x0_left x0_earned x0_turnCost x0_turnWayless, gWy d h1 g4 g5 g6 g7 g8 g39 g40 g41 g42 g43 g44 g45 g9 g46, gLd d h2 x2_lineCount x2_goodsCount x2_workCount x2_years x2_lines x2_goods x2_works x2_change x2_coin x2_knownFree x2_isKnown]) (st' := fun _ => [.int v49, .int z13]) (st := [.int z13]) hK dX4_tonsAt_80 cv_RX4_47 iv_yX1_ofGoods (As := [.int z14, .int (2)]) (kX1_ofGoods _ d h2 x2_lineCount x2_goodsCount x2_workCount x2_years x2_lines x2_goods x2_works x2_change x2_coin x2_knownFree x2_isKnown z14 (2) e50) rfl rfl (Nat.le_of_ble_eq_true rfl) (by decide) 2 0 rfl rfl rfl [2] [0, 1] rfl rfl rfl rfl [0, 1, 2] rfl (fun _ => rfl) (fun _ => rfl) rfl rfl rfl (fun _ => rfl) (fun _ => ?_)
            refine J_iload hK dX4_tonsAt_83 rfl 0 rfl ?_
            refine J_imul hK dX4_tonsAt_85 rfl ?_
            refine J_iadd hK dX4_tonsAt_86 rfl ?_
            refine J_istore (L' := [(4, .int (z13 + (v49 * y48))), (6, .int y48), (0, .ref (h0 0)), (1, .ref (h2 0)), (2, .int p2), (3, .int p3), (5, .int z14)]) hK dX4_tonsAt_87 rfl (by decide) rfl ?_
            refine J_iinc (L' := [(5, .int (z14 + 1)), (4, .int (z13 + (v49 * y48))), (6, .int y48), (0, .ref (h0 0)), (1, .ref (h2 0)), (2, .int p2), (3, .int p3)]) (v := (z14 + 1)) hK dX4_tonsAt_89 rfl 6 rfl rfl (by decide) rfl ?_
            refine J_goto hK dX4_tonsAt_92 (n := 18) rfl ?_
            exact J_loc [3, 4, 5, 6, 1, 0] rfl (ih12 (z13 + (v49 * y48)) (z14 + 1) g39 g40 g41 g42 g43 g44 g45 g46 (lpc hs12 hr12))
          refine J_if_eq (tg := 63) hK dX4_tonsAt_52 rfl rfl (fun hc52 => ?_) (fun hc52 => ?_)
          · have hs12 := ip hc52 hs12
            refine J_iconst (v := 1) hK dX4_tonsAt_63 rfl (by decide) ?_
            refine J_aload_n hK dX4_tonsAt_64 rfl 0 rfl rfl ?_
            refine J_iload_n hK dX4_tonsAt_65 rfl 2 rfl rfl ?_
            obtain ⟨v51, e52, hs12⟩ := bs hs12
            refine J_callV (m' := 3) (ce' := 0) (sl' := 0) (gr := [gLd d h2 x2_lineCount x2_goodsCount x2_workCount x2_years x2_lines x2_goods x2_works x2_change x2_coin x2_knownFree x2_isKnown]) (gs' := fun _ => [gTr d h0 (h1 0) x0_left x0_earned x0_turnCost x0_turnWayless, gWy d h1 g4 g5 g6 g7 g8 g39 g40 g41 g42 g43 g44 g45 g9 g46, gLd d h2 x2_lineCount x2_goodsCount x2_workCount x2_years x2_lines x2_goods x2_works x2_change x2_coin x2_knownFree x2_isKnown]) (st' := fun _ => [.int v51, .int (1)]) (st := [.int (1)]) hK dX4_tonsAt_66 cv_RX4_102 iv_yX4_stepsTo (As := [.int p2]) (kX4_stepsTo _ d h0 h1 n x0_left x0_earned x0_turnCost x0_turnWayless g4 g5 g6 g7 g8 g39 g40 g41 g42 g43 g44 g45 g9 g46 p2 e52) rfl rfl (Nat.le_of_ble_eq_true rfl) (by decide) 0 0 rfl rfl rfl [0, 1] [2] rfl rfl rfl rfl [1, 2, 0] rfl (fun _ => rfl) (fun _ => rfl) rfl rfl rfl (fun _ => rfl) (fun _ => ?_)
            refine J_min hK dX4_tonsAt_69 rfl mm_RX4_105 (by decide) (Nat.le_of_ble_eq_true rfl) (by decide) (by decide) ?_
            exact (j72 (mmin (1) v51) hs12)
          · have hs12 := iq hc52 hs12
            refine J_aload_n hK dX4_tonsAt_55 rfl 0 rfl rfl ?_
            refine J_iload_n hK dX4_tonsAt_56 rfl 2 rfl rfl ?_
            obtain ⟨v53, e54, hs12⟩ := bs hs12
            refine J_callV (m' := 3) (ce' := 0) (sl' := 0) (gr := [gLd d h2 x2_lineCount x2_goodsCount x2_workCount x2_years x2_lines x2_goods x2_works x2_change x2_coin x2_knownFree x2_isKnown]) (gs' := fun _ => [gTr d h0 (h1 0) x0_left x0_earned x0_turnCost x0_turnWayless, gWy d h1 g4 g5 g6 g7 g8 g39 g40 g41 g42 g43 g44 g45 g9 g46, gLd d h2 x2_lineCount x2_goodsCount x2_workCount x2_years x2_lines x2_goods x2_works x2_change x2_coin x2_knownFree x2_isKnown]) (st' := fun _ => [.int v53]) (st := []) hK dX4_tonsAt_57 cv_RX4_99 iv_yX4_changesAt (As := [.int p2]) (kX4_changesAt _ d h0 h1 n x0_left x0_earned x0_turnCost x0_turnWayless g4 g5 g6 g7 g8 g39 g40 g41 g42 g43 g44 g45 g9 g46 p2 e54) rfl rfl (Nat.le_of_ble_eq_true rfl) (by decide) 0 0 rfl rfl rfl [0, 1] [2] rfl rfl rfl rfl [1, 2, 0] rfl (fun _ => rfl) (fun _ => rfl) rfl rfl rfl (fun _ => rfl) (fun _ => ?_)
            refine J_goto hK dX4_tonsAt_60 (n := 72) rfl ?_
            exact (j72 v53 hs12)
  exact J_loc [2, 3, 4, 5, 1, 0] rfl (lo12 n (0) (0) x1_away x1_steps x1_nodes x1_stepCount x1_open x1_openCount x1_seen g10 hl12)

def fX4_dearestLoss_s13 (n : Nat) (x0_left : (Nat → Int32)) (x0_earned : (Nat → Int32)) (x0_turnCost : Int32) (x0_turnWayless : Int32) (x1_steps : (Nat → Int32)) (x1_nodes : (Nat → Int32)) (x1_stepCount : Int32) (x1_open : (Nat → Int32)) (x1_openCount : Int32) (x1_seen : Int64) (x2_lineCount : Int32) (x2_goodsCount : Int32) (x2_workCount : Int32) (x2_years : Int32) (x2_lines : (Nat → Int32)) (x2_goods : (Nat → Int32)) (x2_works : (Nat → Int32)) (x2_change : (Nat → Int32)) (x2_coin : (Nat → Int32)) (x2_knownFree : (Nat → Int32)) (x2_isKnown : Int32) (v1 : Int32) (z4 : Int32) (z5 : Int32) (z6 : Int32) (z7 : (Nat → Int32)) (z8 : (Nat → Int32)) (z9 : (Nat → Int32)) (z10 : (Nat → Int32)) (z11 : (Nat → Int32)) (z12 : (Nat → Int32)) (z13 : Int32) (z14 : Int32) : Option ((Int32 × Int32 × Int32 × (Nat → Int32) × (Nat → Int32) × (Nat → Int32) × (Nat → Int32) × (Nat → Int32) × (Nat → Int32) × Int32 × Int32) ⊕ (Int32 × (Nat → Int32) × (Nat → Int32) × (Nat → Int32) × (Nat → Int32) × (Nat → Int32) × (Nat → Int32) × Int32 × Int32)) :=
  if x2_lineCount ≤ z6 then (some (.inr (z4, z7, z8, z9, z10, z11, z12, z13, z14))) else (if ((v1 >>> (z6 &&& 31)) &&& 1) = 0 then (some (.inl (z4, z5, (z6 + 1), z7, z8, z9, z10, z11, z12, z13, z14))) else ((fX4_freeBy n (x0_left, x0_earned, x0_turnCost, x0_turnWayless) (z7, z8, z9, z10, z11, z12, x1_steps, x1_nodes, x1_stepCount, x1_open, x1_openCount, x1_seen, z13, z14) (x2_lineCount, x2_goodsCount, x2_workCount, x2_years, x2_lines, x2_goods, x2_works, x2_change, x2_coin, x2_knownFree, x2_isKnown) (v1 &&& (((1 : Int32) <<< (z6 &&& 31)) ^^^ (-1)))).bind (u2 fun v25 G26 => u8 (fun g27 g28 g29 g30 g31 g32 g33 g34 => if v25 ≤ z5 then (some (.inl (z4, z5, (z6 + 1), g27, g28, g29, g30, g31, g32, g33, g34))) else (some (.inl (z6, v25, (z6 + 1), g27, g28, g29, g30, g31, g32, g33, g34)))) G26)))
def fX4_dearestLoss (n : Nat) (X0 : TrT) (X1 : WyT) (X2 : LdT) : Option (Int32 × ((Nat → Int32) × (Nat → Int32) × (Nat → Int32) × (Nat → Int32) × (Nat → Int32) × (Nat → Int32) × Int32 × Int32)) :=
  u4 (fun (x0_left : (Nat → Int32)) (x0_earned : (Nat → Int32)) (x0_turnCost : Int32) (x0_turnWayless : Int32) => u14 (fun (x1_edgeA : (Nat → Int32)) (x1_edgeB : (Nat → Int32)) (x1_edgeCost : (Nat → Int32)) (x1_edgeLine : (Nat → Int32)) (x1_change : (Nat → Int32)) (x1_away : (Nat → Int32)) (x1_steps : (Nat → Int32)) (x1_nodes : (Nat → Int32)) (x1_stepCount : Int32) (x1_open : (Nat → Int32)) (x1_openCount : Int32) (x1_seen : Int64) (x1_edgeCount : Int32) (x1_aim : Int32) => u11 (fun (x2_lineCount : Int32) (x2_goodsCount : Int32) (x2_workCount : Int32) (x2_years : Int32) (x2_lines : (Nat → Int32)) (x2_goods : (Nat → Int32)) (x2_works : (Nat → Int32)) (x2_change : (Nat → Int32)) (x2_coin : (Nat → Int32)) (x2_knownFree : (Nat → Int32)) (x2_isKnown : Int32) => (fX1_linesThere n (x2_lineCount, x2_goodsCount, x2_workCount, x2_years, x2_lines, x2_goods, x2_works, x2_change, x2_coin, x2_knownFree, x2_isKnown)).bind (fun v1 => (lp (u11 (fX4_dearestLoss_s13 n x0_left x0_earned x0_turnCost x0_turnWayless x1_steps x1_nodes x1_stepCount x1_open x1_openCount x1_seen x2_lineCount x2_goodsCount x2_workCount x2_years x2_lines x2_goods x2_works x2_change x2_coin x2_knownFree x2_isKnown v1)) n ((-1), (-1), 0, x1_edgeA, x1_edgeB, x1_edgeCost, x1_edgeLine, x1_change, x1_away, x1_edgeCount, x1_aim)).bind (u9 fun w16 w17 w18 w19 w20 w21 w22 w23 w24 => some (w16, (w17, w18, w19, w20, w21, w22, w23, w24))))) X2) X1) X0
set_option maxHeartbeats 4000000 in
set_option maxRecDepth 100000 in
theorem kX4_dearestLoss (l : Launch) (d : DT) (h0 : Nat → Nat) (h1 : Nat → Nat) (h2 : Nat → Nat) (n : Nat) (x0_left : (Nat → Int32)) (x0_earned : (Nat → Int32)) (x0_turnCost : Int32) (x0_turnWayless : Int32) (x1_edgeA : (Nat → Int32)) (x1_edgeB : (Nat → Int32)) (x1_edgeCost : (Nat → Int32)) (x1_edgeLine : (Nat → Int32)) (x1_change : (Nat → Int32)) (x1_away : (Nat → Int32)) (x1_steps : (Nat → Int32)) (x1_nodes : (Nat → Int32)) (x1_stepCount : Int32) (x1_open : (Nat → Int32)) (x1_openCount : Int32) (x1_seen : Int64) (x1_edgeCount : Int32) (x1_aim : Int32) (x2_lineCount : Int32) (x2_goodsCount : Int32) (x2_workCount : Int32) (x2_years : Int32) (x2_lines : (Nat → Int32)) (x2_goods : (Nat → Int32)) (x2_works : (Nat → Int32)) (x2_change : (Nat → Int32)) (x2_coin : (Nat → Int32)) (x2_knownFree : (Nat → Int32)) (x2_isKnown : Int32)  {out : Int32 × ((Nat → Int32) × (Nat → Int32) × (Nat → Int32) × (Nat → Int32) × (Nat → Int32) × (Nat → Int32) × Int32 × Int32)} (hf : fX4_dearestLoss n (x0_left, x0_earned, x0_turnCost, x0_turnWayless) (x1_edgeA, x1_edgeB, x1_edgeCost, x1_edgeLine, x1_change, x1_away, x1_steps, x1_nodes, x1_stepCount, x1_open, x1_openCount, x1_seen, x1_edgeCount, x1_aim) (x2_lineCount, x2_goodsCount, x2_workCount, x2_years, x2_lines, x2_goods, x2_works, x2_change, x2_coin, x2_knownFree, x2_isKnown) = some out) : Ct l d yX4_dearestLoss cX4_dearestLoss 7 (some .int) { frames := 3, cells := 0, slots := 0, locals := 77 } [.ref (h0 0), .ref (h2 0)] [gTr d h0 (h1 0) x0_left x0_earned x0_turnCost x0_turnWayless, gWy d h1 x1_edgeA x1_edgeB x1_edgeCost x1_edgeLine x1_change x1_away x1_steps x1_nodes x1_stepCount x1_open x1_openCount x1_seen x1_edgeCount x1_aim, gLd d h2 x2_lineCount x2_goodsCount x2_workCount x2_years x2_lines x2_goods x2_works x2_change x2_coin x2_knownFree x2_isKnown] (fun _ : Unit => (some (.int out.1), [gTr d h0 (h1 0) x0_left x0_earned x0_turnCost x0_turnWayless, gWy d h1 (out.2.1) (out.2.2.1) (out.2.2.2.1) (out.2.2.2.2.1) (out.2.2.2.2.2.1) (out.2.2.2.2.2.2.1) x1_steps x1_nodes x1_stepCount x1_open x1_openCount x1_seen (out.2.2.2.2.2.2.2.1) (out.2.2.2.2.2.2.2.2), gLd d h2 x2_lineCount x2_goodsCount x2_workCount x2_years x2_lines x2_goods x2_works x2_change x2_coin x2_knownFree x2_isKnown])) := by
  refine Ct.of (by decide) (Nat.le_of_ble_eq_true rfl) ?_
  intro Φ hl hK hR
  subst hl
  have hK : Ok d Φ RX4 "dearestLoss" cX4_dearestLoss 7 (some .int) { frames := 3, cells := 0, slots := 0, locals := 77 } := hK
  unfold fX4_dearestLoss at hf
  have hf := un4 hf
  have hf := un14 hf
  have hf := un11 hf
  show J d Φ 7 [gTr d h0 (h1 0) x0_left x0_earned x0_turnCost x0_turnWayless, gWy d h1 x1_edgeA x1_edgeB x1_edgeCost x1_edgeLine x1_change x1_away x1_steps x1_nodes x1_stepCount x1_open x1_openCount x1_seen x1_edgeCount x1_aim, gLd d h2 x2_lineCount x2_goodsCount x2_workCount x2_years x2_lines x2_goods x2_works x2_change x2_coin x2_knownFree x2_isKnown] 0 0 0 [(0, .ref (h0 0)), (1, .ref (h2 0))] []
  refine J_aload_n hK dX4_dearestLoss_0 rfl 1 rfl rfl ?_
  obtain ⟨v1, e2, hf⟩ := bs hf
  refine J_callV (m' := 3) (ce' := 0) (sl' := 0) (gr := [gTr d h0 (h1 0) x0_left x0_earned x0_turnCost x0_turnWayless, gWy d h1 x1_edgeA x1_edgeB x1_edgeCost x1_edgeLine x1_change x1_away x1_steps x1_nodes x1_stepCount x1_open x1_openCount x1_seen x1_edgeCount x1_aim]) (gs' := fun _ => [gTr d h0 (h1 0) x0_left x0_earned x0_turnCost x0_turnWayless, gWy d h1 x1_edgeA x1_edgeB x1_edgeCost x1_edgeLine x1_change x1_away x1_steps x1_nodes x1_stepCount x1_open x1_openCount x1_seen x1_edgeCount x1_aim, gLd d h2 x2_lineCount x2_goodsCount x2_workCount x2_years x2_lines x2_goods x2_works x2_change x2_coin x2_knownFree x2_isKnown]) (st' := fun _ => [.int v1]) (st := []) hK dX4_dearestLoss_1 cv_RX4_25 iv_yX1_linesThere (As := []) (kX1_linesThere _ d h2 n x2_lineCount x2_goodsCount x2_workCount x2_years x2_lines x2_goods x2_works x2_change x2_coin x2_knownFree x2_isKnown e2) rfl rfl (Nat.le_of_ble_eq_true rfl) (by decide) 2 0 rfl rfl rfl [2] [0, 1] rfl rfl rfl rfl [0, 1, 2] rfl (fun _ => rfl) (fun _ => rfl) rfl rfl rfl (fun _ => rfl) (fun _ => ?_)
  refine J_istore_n (L' := [(2, .int v1), (0, .ref (h0 0)), (1, .ref (h2 0))]) hK dX4_dearestLoss_4 rfl rfl (by decide) rfl ?_
  refine J_iconst (v := (-1)) hK dX4_dearestLoss_5 rfl (by decide) ?_
  refine J_istore_n (L' := [(3, .int (-1)), (2, .int v1), (0, .ref (h0 0)), (1, .ref (h2 0))]) hK dX4_dearestLoss_6 rfl rfl (by decide) rfl ?_
  refine J_iconst (v := (-1)) hK dX4_dearestLoss_7 rfl (by decide) ?_
  refine J_istore (L' := [(4, .int (-1)), (3, .int (-1)), (2, .int v1), (0, .ref (h0 0)), (1, .ref (h2 0))]) hK dX4_dearestLoss_8 rfl (by decide) rfl ?_
  refine J_iconst (v := 0) hK dX4_dearestLoss_10 rfl (by decide) ?_
  refine J_istore (L' := [(5, .int (0)), (4, .int (-1)), (3, .int (-1)), (2, .int v1), (0, .ref (h0 0)), (1, .ref (h2 0))]) hK dX4_dearestLoss_11 rfl (by decide) rfl ?_
  obtain ⟨e15, hl3, hf⟩ := bs hf
  have hx3_66 : ∀ (w16 : Int32) (w17 : (Nat → Int32)) (w18 : (Nat → Int32)) (w19 : (Nat → Int32)) (w20 : (Nat → Int32)) (w21 : (Nat → Int32)) (w22 : (Nat → Int32)) (w23 : Int32) (w24 : Int32), (w16, w17, w18, w19, w20, w21, w22, w23, w24) = e15 → J d Φ 7 [gTr d h0 (h1 0) x0_left x0_earned x0_turnCost x0_turnWayless, gWy d h1 w17 w18 w19 w20 w21 w22 x1_steps x1_nodes x1_stepCount x1_open x1_openCount x1_seen w23 w24, gLd d h2 x2_lineCount x2_goodsCount x2_workCount x2_years x2_lines x2_goods x2_works x2_change x2_coin x2_knownFree x2_isKnown] 0 0 66 [(3, .int w16)] [] := by
    intro w16 w17 w18 w19 w20 w21 w22 w23 w24 he
    rw [← he] at hf
    have hf := un9 hf
    refine J_iload_n hK dX4_dearestLoss_66 rfl 0 rfl rfl ?_
    obtain rfl := Option.some.inj hf
    exact J_iret hK hR dX4_dearestLoss_67 () rfl (by decide) (by decide)
  have lo3 : ∀ (k : Nat) (z4 : Int32) (z5 : Int32) (z6 : Int32) (z7 : (Nat → Int32)) (z8 : (Nat → Int32)) (z9 : (Nat → Int32)) (z10 : (Nat → Int32)) (z11 : (Nat → Int32)) (z12 : (Nat → Int32)) (z13 : Int32) (z14 : Int32), lp (u11 (fX4_dearestLoss_s13 n x0_left x0_earned x0_turnCost x0_turnWayless x1_steps x1_nodes x1_stepCount x1_open x1_openCount x1_seen x2_lineCount x2_goodsCount x2_workCount x2_years x2_lines x2_goods x2_works x2_change x2_coin x2_knownFree x2_isKnown v1)) k (z4, z5, z6, z7, z8, z9, z10, z11, z12, z13, z14) = some e15 → J d Φ 7 [gTr d h0 (h1 0) x0_left x0_earned x0_turnCost x0_turnWayless, gWy d h1 z7 z8 z9 z10 z11 z12 x1_steps x1_nodes x1_stepCount x1_open x1_openCount x1_seen z13 z14, gLd d h2 x2_lineCount x2_goodsCount x2_workCount x2_years x2_lines x2_goods x2_works x2_change x2_coin x2_knownFree x2_isKnown] 0 0 13 [(0, .ref (h0 0)), (1, .ref (h2 0)), (2, .int v1), (3, .int z4), (4, .int z5), (5, .int z6)] [] := by
    intro k
    induction k with
    | zero => intro z4 z5 z6 z7 z8 z9 z10 z11 z12 z13 z14 h; cases h
    | succ k ih3 =>
      intro z4 z5 z6 z7 z8 z9 z10 z11 z12 z13 z14 h
      obtain ⟨k2, rr3, hk2, hs3, hr3⟩ := lp_ok h
      cases hk2
      have hs3 : fX4_dearestLoss_s13 n x0_left x0_earned x0_turnCost x0_turnWayless x1_steps x1_nodes x1_stepCount x1_open x1_openCount x1_seen x2_lineCount x2_goodsCount x2_workCount x2_years x2_lines x2_goods x2_works x2_change x2_coin x2_knownFree x2_isKnown v1 z4 z5 z6 z7 z8 z9 z10 z11 z12 z13 z14 = some rr3 := hs3
      unfold fX4_dearestLoss_s13 at hs3
      refine J_iload hK dX4_dearestLoss_13 rfl 5 rfl ?_
      refine J_aload_n hK dX4_dearestLoss_15 rfl 1 rfl rfl ?_
      refine J_get hK fo_RX4_57 dX4_dearestLoss_16 rfl 2 0 rfl rfl rfl ?_
      refine J_icmp_ge (tg := 66) hK dX4_dearestLoss_19 rfl rfl (fun hc19 => ?_) (fun hc19 => ?_)
      · have hs3 := ip hc19 hs3
        exact J_loc [3] rfl (hx3_66 z4 z7 z8 z9 z10 z11 z12 z13 z14 (lpx hs3 hr3))
      · have hs3 := iq hc19 hs3
        refine J_iload_n hK dX4_dearestLoss_22 rfl 2 rfl rfl ?_
        refine J_iload hK dX4_dearestLoss_23 rfl 5 rfl ?_
        refine J_ishr hK dX4_dearestLoss_25 rfl ?_
        refine J_iconst (v := 1) hK dX4_dearestLoss_26 rfl (by decide) ?_
        refine J_iand hK dX4_dearestLoss_27 rfl ?_
        refine J_if_eq (tg := 60) hK dX4_dearestLoss_28 rfl rfl (fun hc28 => ?_) (fun hc28 => ?_)
        · have hs3 := ip hc28 hs3
          refine J_iinc (L' := [(5, .int (z6 + 1)), (0, .ref (h0 0)), (1, .ref (h2 0)), (2, .int v1), (3, .int z4), (4, .int z5)]) (v := (z6 + 1)) hK dX4_dearestLoss_60 rfl 5 rfl rfl (by decide) rfl ?_
          refine J_goto hK dX4_dearestLoss_63 (n := 13) rfl ?_
          exact J_loc [1, 2, 3, 4, 5, 0] rfl (ih3 z4 z5 (z6 + 1) z7 z8 z9 z10 z11 z12 z13 z14 (lpc hs3 hr3))
        · have hs3 := iq hc28 hs3
          refine J_aload_n hK dX4_dearestLoss_31 rfl 0 rfl rfl ?_
          refine J_aload_n hK dX4_dearestLoss_32 rfl 1 rfl rfl ?_
          refine J_iload_n hK dX4_dearestLoss_33 rfl 2 rfl rfl ?_
          refine J_iconst (v := 1) hK dX4_dearestLoss_34 rfl (by decide) ?_
          refine J_iload hK dX4_dearestLoss_35 rfl 5 rfl ?_
          refine J_ishl hK dX4_dearestLoss_37 rfl ?_
          refine J_iconst (v := (-1)) hK dX4_dearestLoss_38 rfl (by decide) ?_
          refine J_ixor hK dX4_dearestLoss_39 rfl ?_
          refine J_iand hK dX4_dearestLoss_40 rfl ?_
          obtain ⟨⟨v25, ⟨g27, g28, g29, g30, g31, g32, g33, g34⟩⟩, e35, hs3⟩ := bs hs3
          have hs3 := un2 hs3
          have hs3 := un8 hs3
          refine J_callV (m' := 3) (ce' := 0) (sl' := 0) (gr := []) (gs' := fun _ => [gTr d h0 (h1 0) x0_left x0_earned x0_turnCost x0_turnWayless, gWy d h1 g27 g28 g29 g30 g31 g32 x1_steps x1_nodes x1_stepCount x1_open x1_openCount x1_seen g33 g34, gLd d h2 x2_lineCount x2_goodsCount x2_workCount x2_years x2_lines x2_goods x2_works x2_change x2_coin x2_knownFree x2_isKnown]) (st' := fun _ => [.int v25]) (st := []) hK dX4_dearestLoss_41 cv_RX4_114 iv_yX4_freeBy (As := [.ref (h2 0), .int (v1 &&& (((1 : Int32) <<< (z6 &&& 31)) ^^^ (-1)))]) (kX4_freeBy _ d h0 h1 h2 n x0_left x0_earned x0_turnCost x0_turnWayless z7 z8 z9 z10 z11 z12 x1_steps x1_nodes x1_stepCount x1_open x1_openCount x1_seen z13 z14 x2_lineCount x2_goodsCount x2_workCount x2_years x2_lines x2_goods x2_works x2_change x2_coin x2_knownFree x2_isKnown (v1 &&& (((1 : Int32) <<< (z6 &&& 31)) ^^^ (-1))) e35) rfl rfl (Nat.le_of_ble_eq_true rfl) (by decide) 0 0 rfl rfl rfl [0, 1, 2] [] rfl rfl rfl rfl [0, 1, 2] rfl (fun _ => rfl) (fun _ => rfl) rfl rfl rfl (fun _ => rfl) (fun _ => ?_)
          refine J_istore (L' := [(6, .int v25), (0, .ref (h0 0)), (1, .ref (h2 0)), (2, .int v1), (3, .int z4), (4, .int z5), (5, .int z6)]) hK dX4_dearestLoss_44 rfl (by decide) rfl ?_
          refine J_iload hK dX4_dearestLoss_46 rfl 0 rfl ?_
          refine J_iload hK dX4_dearestLoss_48 rfl 5 rfl ?_
          refine J_icmp_le (tg := 60) hK dX4_dearestLoss_50 rfl rfl (fun hc50 => ?_) (fun hc50 => ?_)
          · have hs3 := ip hc50 hs3
            refine J_iinc (L' := [(5, .int (z6 + 1)), (6, .int v25), (0, .ref (h0 0)), (1, .ref (h2 0)), (2, .int v1), (3, .int z4), (4, .int z5)]) (v := (z6 + 1)) hK dX4_dearestLoss_60 rfl 6 rfl rfl (by decide) rfl ?_
            refine J_goto hK dX4_dearestLoss_63 (n := 13) rfl ?_
            exact J_loc [2, 3, 4, 5, 6, 0] rfl (ih3 z4 z5 (z6 + 1) g27 g28 g29 g30 g31 g32 g33 g34 (lpc hs3 hr3))
          · have hs3 := iq hc50 hs3
            refine J_iload hK dX4_dearestLoss_53 rfl 0 rfl ?_
            refine J_istore (L' := [(4, .int v25), (6, .int v25), (0, .ref (h0 0)), (1, .ref (h2 0)), (2, .int v1), (3, .int z4), (5, .int z6)]) hK dX4_dearestLoss_55 rfl (by decide) rfl ?_
            refine J_iload hK dX4_dearestLoss_57 rfl 6 rfl ?_
            refine J_istore_n (L' := [(3, .int z6), (4, .int v25), (6, .int v25), (0, .ref (h0 0)), (1, .ref (h2 0)), (2, .int v1), (5, .int z6)]) hK dX4_dearestLoss_59 rfl rfl (by decide) rfl ?_
            refine J_iinc (L' := [(5, .int (z6 + 1)), (3, .int z6), (4, .int v25), (6, .int v25), (0, .ref (h0 0)), (1, .ref (h2 0)), (2, .int v1)]) (v := (z6 + 1)) hK dX4_dearestLoss_60 rfl 6 rfl rfl (by decide) rfl ?_
            refine J_goto hK dX4_dearestLoss_63 (n := 13) rfl ?_
            exact J_loc [4, 5, 6, 1, 2, 0] rfl (ih3 z6 v25 (z6 + 1) g27 g28 g29 g30 g31 g32 g33 g34 (lpc hs3 hr3))
  exact J_loc [4, 5, 3, 2, 1, 0] rfl (lo3 n (-1) (-1) (0) x1_edgeA x1_edgeB x1_edgeCost x1_edgeLine x1_change x1_away x1_edgeCount x1_aim hl3)

def fX5_widthAfter (X0 : WyT) (p1 : Int32) : Option (Int32) :=
  u14 (fun (x0_edgeA : (Nat → Int32)) (x0_edgeB : (Nat → Int32)) (x0_edgeCost : (Nat → Int32)) (x0_edgeLine : (Nat → Int32)) (x0_change : (Nat → Int32)) (x0_away : (Nat → Int32)) (x0_steps : (Nat → Int32)) (x0_nodes : (Nat → Int32)) (x0_stepCount : Int32) (x0_open : (Nat → Int32)) (x0_openCount : Int32) (x0_seen : Int64) (x0_edgeCount : Int32) (x0_aim : Int32) => (fX6_within p1 (0) (x0_stepCount - 1)).bind (fun v1 => if v1 = 0 then (some (-1)) else ((rd 36 x0_nodes p1).bind fun v3 => some (v3 - v3 / 3 * 3)))) X0
set_option maxHeartbeats 4000000 in
set_option maxRecDepth 100000 in
theorem kX5_widthAfter (l : Launch) (d : DT) (h0 : Nat → Nat) (x0_edgeA : (Nat → Int32)) (x0_edgeB : (Nat → Int32)) (x0_edgeCost : (Nat → Int32)) (x0_edgeLine : (Nat → Int32)) (x0_change : (Nat → Int32)) (x0_away : (Nat → Int32)) (x0_steps : (Nat → Int32)) (x0_nodes : (Nat → Int32)) (x0_stepCount : Int32) (x0_open : (Nat → Int32)) (x0_openCount : Int32) (x0_seen : Int64) (x0_edgeCount : Int32) (x0_aim : Int32) (p1 : Int32)  {out : Int32} (hf : fX5_widthAfter (x0_edgeA, x0_edgeB, x0_edgeCost, x0_edgeLine, x0_change, x0_away, x0_steps, x0_nodes, x0_stepCount, x0_open, x0_openCount, x0_seen, x0_edgeCount, x0_aim) p1 = some out) : Ct l d yX5_widthAfter cX5_widthAfter 2 (some .int) { frames := 1, cells := 0, slots := 0, locals := 22 } [.ref (h0 0), .int p1] [gWy d h0 x0_edgeA x0_edgeB x0_edgeCost x0_edgeLine x0_change x0_away x0_steps x0_nodes x0_stepCount x0_open x0_openCount x0_seen x0_edgeCount x0_aim] (fun _ : Unit => (some (.int out), [gWy d h0 x0_edgeA x0_edgeB x0_edgeCost x0_edgeLine x0_change x0_away x0_steps x0_nodes x0_stepCount x0_open x0_openCount x0_seen x0_edgeCount x0_aim])) := by
  refine Ct.of (by decide) (Nat.le_of_ble_eq_true rfl) ?_
  intro Φ hl hK hR
  subst hl
  have hK : Ok d Φ RX5 "widthAfter" cX5_widthAfter 2 (some .int) { frames := 1, cells := 0, slots := 0, locals := 22 } := hK
  unfold fX5_widthAfter at hf
  have hf := un14 hf
  show J d Φ 2 [gWy d h0 x0_edgeA x0_edgeB x0_edgeCost x0_edgeLine x0_change x0_away x0_steps x0_nodes x0_stepCount x0_open x0_openCount x0_seen x0_edgeCount x0_aim] 0 0 0 [(0, .ref (h0 0)), (1, .int p1)] []
  refine J_iload_n hK dX5_widthAfter_0 rfl 1 rfl rfl ?_
  refine J_iconst (v := 0) hK dX5_widthAfter_1 rfl (by decide) ?_
  refine J_aload_n hK dX5_widthAfter_2 rfl 0 rfl rfl ?_
  refine J_get hK fo_RX5_79 dX5_widthAfter_3 rfl 0 0 rfl rfl rfl ?_
  refine J_iconst (v := 1) hK dX5_widthAfter_6 rfl (by decide) ?_
  refine J_isub hK dX5_widthAfter_7 rfl ?_
  obtain ⟨v1, e2, hf⟩ := bs hf
  refine J_callN (m' := 1) (ce' := 0) (sl' := 0) (gr := [gWy d h0 x0_edgeA x0_edgeB x0_edgeCost x0_edgeLine x0_change x0_away x0_steps x0_nodes x0_stepCount x0_open x0_openCount x0_seen x0_edgeCount x0_aim]) (gs' := fun _ => [gWy d h0 x0_edgeA x0_edgeB x0_edgeCost x0_edgeLine x0_change x0_away x0_steps x0_nodes x0_stepCount x0_open x0_openCount x0_seen x0_edgeCount x0_aim]) (st' := fun _ => [.int v1]) (st := []) hK dX5_widthAfter_8 cn_RX5_120 (As := [.int p1, .int (0), .int (x0_stepCount - 1)]) (kX6_within _ d p1 (0) (x0_stepCount - 1) e2) rfl rfl (Nat.le_of_ble_eq_true rfl) (by decide) [] [0] rfl rfl rfl rfl [0] rfl (fun _ => rfl) (fun _ => rfl) rfl rfl rfl (fun _ => rfl) (fun _ => ?_)
  refine J_if_eq (tg := 25) hK dX5_widthAfter_11 rfl rfl (fun hc11 => ?_) (fun hc11 => ?_)
  · have hf := ip hc11 hf
    refine J_iconst (v := (-1)) hK dX5_widthAfter_25 rfl (by decide) ?_
    obtain rfl := Option.some.inj hf
    exact J_iret hK hR dX5_widthAfter_26 () rfl (by decide) (by decide)
  · have hf := iq hc11 hf
    refine J_aload_n hK dX5_widthAfter_14 rfl 0 rfl rfl ?_
    refine J_get hK fo_RX5_33 dX5_widthAfter_15 rfl 0 0 rfl rfl rfl ?_
    refine J_iload_n hK dX5_widthAfter_18 rfl 1 rfl rfl ?_
    obtain ⟨v3, ev3, hf⟩ := bs hf
    refine J_iald hK dX5_widthAfter_19 rfl 0 8 rfl rfl ev3 ?_
    refine J_iconst (v := 3) hK dX5_widthAfter_20 rfl (by decide) ?_
    refine J_irem hK dX5_widthAfter_21 rfl (by decide) ?_
    refine J_goto hK dX5_widthAfter_22 (n := 26) rfl ?_
    obtain rfl := Option.some.inj hf
    exact J_iret hK hR dX5_widthAfter_26 () rfl (by decide) (by decide)

def fX5_changesOnWay_s4 (x0_edgeA : (Nat → Int32)) (x0_edgeB : (Nat → Int32)) (x0_edgeCost : (Nat → Int32)) (x0_edgeLine : (Nat → Int32)) (x0_change : (Nat → Int32)) (x0_away : (Nat → Int32)) (x0_steps : (Nat → Int32)) (x0_nodes : (Nat → Int32)) (x0_stepCount : Int32) (x0_open : (Nat → Int32)) (x0_openCount : Int32) (x0_seen : Int64) (x0_edgeCount : Int32) (x0_aim : Int32) (z2 : Int32) (z3 : Int32) : Option ((Int32 × Int32) ⊕ (Int32)) :=
  if x0_stepCount ≤ z3 then (some (.inr z2)) else ((fX5_isChange (x0_edgeA, x0_edgeB, x0_edgeCost, x0_edgeLine, x0_change, x0_away, x0_steps, x0_nodes, x0_stepCount, x0_open, x0_openCount, x0_seen, x0_edgeCount, x0_aim) z3).bind (fun v6 => if v6 = 0 then (some (.inl (z2, (z3 + 1)))) else (some (.inl ((z2 + 1), (z3 + 1))))))
def fX5_changesOnWay (n : Nat) (X0 : WyT) : Option (Int32) :=
  u14 (fun (x0_edgeA : (Nat → Int32)) (x0_edgeB : (Nat → Int32)) (x0_edgeCost : (Nat → Int32)) (x0_edgeLine : (Nat → Int32)) (x0_change : (Nat → Int32)) (x0_away : (Nat → Int32)) (x0_steps : (Nat → Int32)) (x0_nodes : (Nat → Int32)) (x0_stepCount : Int32) (x0_open : (Nat → Int32)) (x0_openCount : Int32) (x0_seen : Int64) (x0_edgeCount : Int32) (x0_aim : Int32) => (lp (u2 (fX5_changesOnWay_s4 x0_edgeA x0_edgeB x0_edgeCost x0_edgeLine x0_change x0_away x0_steps x0_nodes x0_stepCount x0_open x0_openCount x0_seen x0_edgeCount x0_aim)) n (0, 1)).bind (fun w5 => some w5)) X0
set_option maxHeartbeats 4000000 in
set_option maxRecDepth 100000 in
theorem kX5_changesOnWay (l : Launch) (d : DT) (h0 : Nat → Nat) (n : Nat) (x0_edgeA : (Nat → Int32)) (x0_edgeB : (Nat → Int32)) (x0_edgeCost : (Nat → Int32)) (x0_edgeLine : (Nat → Int32)) (x0_change : (Nat → Int32)) (x0_away : (Nat → Int32)) (x0_steps : (Nat → Int32)) (x0_nodes : (Nat → Int32)) (x0_stepCount : Int32) (x0_open : (Nat → Int32)) (x0_openCount : Int32) (x0_seen : Int64) (x0_edgeCount : Int32) (x0_aim : Int32)  {out : Int32} (hf : fX5_changesOnWay n (x0_edgeA, x0_edgeB, x0_edgeCost, x0_edgeLine, x0_change, x0_away, x0_steps, x0_nodes, x0_stepCount, x0_open, x0_openCount, x0_seen, x0_edgeCount, x0_aim) = some out) : Ct l d yX5_changesOnWay cX5_changesOnWay 3 (some .int) { frames := 2, cells := 0, slots := 0, locals := 43 } [.ref (h0 0)] [gWy d h0 x0_edgeA x0_edgeB x0_edgeCost x0_edgeLine x0_change x0_away x0_steps x0_nodes x0_stepCount x0_open x0_openCount x0_seen x0_edgeCount x0_aim] (fun _ : Unit => (some (.int out), [gWy d h0 x0_edgeA x0_edgeB x0_edgeCost x0_edgeLine x0_change x0_away x0_steps x0_nodes x0_stepCount x0_open x0_openCount x0_seen x0_edgeCount x0_aim])) := by
  refine Ct.of (by decide) (Nat.le_of_ble_eq_true rfl) ?_
  intro Φ hl hK hR
  subst hl
  have hK : Ok d Φ RX5 "changesOnWay" cX5_changesOnWay 3 (some .int) { frames := 2, cells := 0, slots := 0, locals := 43 } := hK
  unfold fX5_changesOnWay at hf
  have hf := un14 hf
  show J d Φ 3 [gWy d h0 x0_edgeA x0_edgeB x0_edgeCost x0_edgeLine x0_change x0_away x0_steps x0_nodes x0_stepCount x0_open x0_openCount x0_seen x0_edgeCount x0_aim] 0 0 0 [(0, .ref (h0 0))] []
  refine J_iconst (v := 0) hK dX5_changesOnWay_0 rfl (by decide) ?_
  refine J_istore_n (L' := [(1, .int (0)), (0, .ref (h0 0))]) hK dX5_changesOnWay_1 rfl rfl (by decide) rfl ?_
  refine J_iconst (v := 1) hK dX5_changesOnWay_2 rfl (by decide) ?_
  refine J_istore_n (L' := [(2, .int (1)), (1, .int (0)), (0, .ref (h0 0))]) hK dX5_changesOnWay_3 rfl rfl (by decide) rfl ?_
  obtain ⟨e4, hl1, hf⟩ := bs hf
  have hx1_29 : ∀ (w5 : Int32), w5 = e4 → J d Φ 3 [gWy d h0 x0_edgeA x0_edgeB x0_edgeCost x0_edgeLine x0_change x0_away x0_steps x0_nodes x0_stepCount x0_open x0_openCount x0_seen x0_edgeCount x0_aim] 0 0 29 [(1, .int w5)] [] := by
    intro w5 he
    rw [← he] at hf
    refine J_iload_n hK dX5_changesOnWay_29 rfl 0 rfl rfl ?_
    obtain rfl := Option.some.inj hf
    exact J_iret hK hR dX5_changesOnWay_30 () rfl (by decide) (by decide)
  have lo1 : ∀ (k : Nat) (z2 : Int32) (z3 : Int32), lp (u2 (fX5_changesOnWay_s4 x0_edgeA x0_edgeB x0_edgeCost x0_edgeLine x0_change x0_away x0_steps x0_nodes x0_stepCount x0_open x0_openCount x0_seen x0_edgeCount x0_aim)) k (z2, z3) = some e4 → J d Φ 3 [gWy d h0 x0_edgeA x0_edgeB x0_edgeCost x0_edgeLine x0_change x0_away x0_steps x0_nodes x0_stepCount x0_open x0_openCount x0_seen x0_edgeCount x0_aim] 0 0 4 [(0, .ref (h0 0)), (1, .int z2), (2, .int z3)] [] := by
    intro k
    induction k with
    | zero => intro z2 z3 h; cases h
    | succ k ih1 =>
      intro z2 z3 h
      obtain ⟨k2, rr1, hk2, hs1, hr1⟩ := lp_ok h
      cases hk2
      have hs1 : fX5_changesOnWay_s4 x0_edgeA x0_edgeB x0_edgeCost x0_edgeLine x0_change x0_away x0_steps x0_nodes x0_stepCount x0_open x0_openCount x0_seen x0_edgeCount x0_aim z2 z3 = some rr1 := hs1
      unfold fX5_changesOnWay_s4 at hs1
      refine J_iload_n hK dX5_changesOnWay_4 rfl 2 rfl rfl ?_
      refine J_aload_n hK dX5_changesOnWay_5 rfl 0 rfl rfl ?_
      refine J_get hK fo_RX5_79 dX5_changesOnWay_6 rfl 0 0 rfl rfl rfl ?_
      refine J_icmp_ge (tg := 29) hK dX5_changesOnWay_9 rfl rfl (fun hc9 => ?_) (fun hc9 => ?_)
      · have hs1 := ip hc9 hs1
        exact J_loc [1] rfl (hx1_29 z2 (lpx hs1 hr1))
      · have hs1 := iq hc9 hs1
        refine J_aload_n hK dX5_changesOnWay_12 rfl 0 rfl rfl ?_
        refine J_iload_n hK dX5_changesOnWay_13 rfl 2 rfl rfl ?_
        obtain ⟨v6, e7, hs1⟩ := bs hs1
        refine J_callV (m' := 1) (ce' := 0) (sl' := 0) (gr := []) (gs' := fun _ => [gWy d h0 x0_edgeA x0_edgeB x0_edgeCost x0_edgeLine x0_change x0_away x0_steps x0_nodes x0_stepCount x0_open x0_openCount x0_seen x0_edgeCount x0_aim]) (st' := fun _ => [.int v6]) (st := []) hK dX5_changesOnWay_14 cv_RX5_124 iv_yX5_isChange (As := [.int z3]) (kX5_isChange _ d h0 x0_edgeA x0_edgeB x0_edgeCost x0_edgeLine x0_change x0_away x0_steps x0_nodes x0_stepCount x0_open x0_openCount x0_seen x0_edgeCount x0_aim z3 e7) rfl rfl (Nat.le_of_ble_eq_true rfl) (by decide) 0 0 rfl rfl rfl [0] [] rfl rfl rfl rfl [0] rfl (fun _ => rfl) (fun _ => rfl) rfl rfl rfl (fun _ => rfl) (fun _ => ?_)
        refine J_if_eq (tg := 23) hK dX5_changesOnWay_17 rfl rfl (fun hc17 => ?_) (fun hc17 => ?_)
        · have hs1 := ip hc17 hs1
          refine J_iinc (L' := [(2, .int (z3 + 1)), (0, .ref (h0 0)), (1, .int z2)]) (v := (z3 + 1)) hK dX5_changesOnWay_23 rfl 2 rfl rfl (by decide) rfl ?_
          refine J_goto hK dX5_changesOnWay_26 (n := 4) rfl ?_
          exact J_loc [1, 2, 0] rfl (ih1 z2 (z3 + 1) (lpc hs1 hr1))
        · have hs1 := iq hc17 hs1
          refine J_iinc (L' := [(1, .int (z2 + 1)), (0, .ref (h0 0)), (2, .int z3)]) (v := (z2 + 1)) hK dX5_changesOnWay_20 rfl 1 rfl rfl (by decide) rfl ?_
          refine J_iinc (L' := [(2, .int (z3 + 1)), (1, .int (z2 + 1)), (0, .ref (h0 0))]) (v := (z3 + 1)) hK dX5_changesOnWay_23 rfl 2 rfl rfl (by decide) rfl ?_
          refine J_goto hK dX5_changesOnWay_26 (n := 4) rfl ?_
          exact J_loc [2, 1, 0] rfl (ih1 (z2 + 1) (z3 + 1) (lpc hs1 hr1))
  exact J_loc [2, 1, 0] rfl (lo1 n (0) (1) hl1)

def fX5_linesOnWay (n : Nat) (X0 : WyT) : Option (Int32) :=
  u14 (fun (x0_edgeA : (Nat → Int32)) (x0_edgeB : (Nat → Int32)) (x0_edgeCost : (Nat → Int32)) (x0_edgeLine : (Nat → Int32)) (x0_change : (Nat → Int32)) (x0_away : (Nat → Int32)) (x0_steps : (Nat → Int32)) (x0_nodes : (Nat → Int32)) (x0_stepCount : Int32) (x0_open : (Nat → Int32)) (x0_openCount : Int32) (x0_seen : Int64) (x0_edgeCount : Int32) (x0_aim : Int32) => (fX5_changesOnWay n (x0_edgeA, x0_edgeB, x0_edgeCost, x0_edgeLine, x0_change, x0_away, x0_steps, x0_nodes, x0_stepCount, x0_open, x0_openCount, x0_seen, x0_edgeCount, x0_aim)).bind (fun v1 => some (mmax (0) ((x0_stepCount - 1) - v1)))) X0
set_option maxHeartbeats 4000000 in
set_option maxRecDepth 100000 in
theorem kX5_linesOnWay (l : Launch) (d : DT) (h0 : Nat → Nat) (n : Nat) (x0_edgeA : (Nat → Int32)) (x0_edgeB : (Nat → Int32)) (x0_edgeCost : (Nat → Int32)) (x0_edgeLine : (Nat → Int32)) (x0_change : (Nat → Int32)) (x0_away : (Nat → Int32)) (x0_steps : (Nat → Int32)) (x0_nodes : (Nat → Int32)) (x0_stepCount : Int32) (x0_open : (Nat → Int32)) (x0_openCount : Int32) (x0_seen : Int64) (x0_edgeCount : Int32) (x0_aim : Int32)  {out : Int32} (hf : fX5_linesOnWay n (x0_edgeA, x0_edgeB, x0_edgeCost, x0_edgeLine, x0_change, x0_away, x0_steps, x0_nodes, x0_stepCount, x0_open, x0_openCount, x0_seen, x0_edgeCount, x0_aim) = some out) : Ct l d yX5_linesOnWay cX5_linesOnWay 1 (some .int) { frames := 3, cells := 0, slots := 0, locals := 65 } [.ref (h0 0)] [gWy d h0 x0_edgeA x0_edgeB x0_edgeCost x0_edgeLine x0_change x0_away x0_steps x0_nodes x0_stepCount x0_open x0_openCount x0_seen x0_edgeCount x0_aim] (fun _ : Unit => (some (.int out), [gWy d h0 x0_edgeA x0_edgeB x0_edgeCost x0_edgeLine x0_change x0_away x0_steps x0_nodes x0_stepCount x0_open x0_openCount x0_seen x0_edgeCount x0_aim])) := by
  refine Ct.of (by decide) (Nat.le_of_ble_eq_true rfl) ?_
  intro Φ hl hK hR
  subst hl
  have hK : Ok d Φ RX5 "linesOnWay" cX5_linesOnWay 1 (some .int) { frames := 3, cells := 0, slots := 0, locals := 65 } := hK
  unfold fX5_linesOnWay at hf
  have hf := un14 hf
  show J d Φ 1 [gWy d h0 x0_edgeA x0_edgeB x0_edgeCost x0_edgeLine x0_change x0_away x0_steps x0_nodes x0_stepCount x0_open x0_openCount x0_seen x0_edgeCount x0_aim] 0 0 0 [(0, .ref (h0 0))] []
  refine J_iconst (v := 0) hK dX5_linesOnWay_0 rfl (by decide) ?_
  refine J_aload_n hK dX5_linesOnWay_1 rfl 0 rfl rfl ?_
  refine J_get hK fo_RX5_79 dX5_linesOnWay_2 rfl 0 0 rfl rfl rfl ?_
  refine J_iconst (v := 1) hK dX5_linesOnWay_5 rfl (by decide) ?_
  refine J_isub hK dX5_linesOnWay_6 rfl ?_
  refine J_aload_n hK dX5_linesOnWay_7 rfl 0 rfl rfl ?_
  obtain ⟨v1, e2, hf⟩ := bs hf
  refine J_callV (m' := 1) (ce' := 0) (sl' := 0) (gr := []) (gs' := fun _ => [gWy d h0 x0_edgeA x0_edgeB x0_edgeCost x0_edgeLine x0_change x0_away x0_steps x0_nodes x0_stepCount x0_open x0_openCount x0_seen x0_edgeCount x0_aim]) (st' := fun _ => [.int v1, .int (x0_stepCount - 1), .int (0)]) (st := [.int (x0_stepCount - 1), .int (0)]) hK dX5_linesOnWay_8 cv_RX5_128 iv_yX5_changesOnWay (As := []) (kX5_changesOnWay _ d h0 n x0_edgeA x0_edgeB x0_edgeCost x0_edgeLine x0_change x0_away x0_steps x0_nodes x0_stepCount x0_open x0_openCount x0_seen x0_edgeCount x0_aim e2) rfl rfl (Nat.le_of_ble_eq_true rfl) (by decide) 0 0 rfl rfl rfl [0] [] rfl rfl rfl rfl [0] rfl (fun _ => rfl) (fun _ => rfl) rfl rfl rfl (fun _ => rfl) (fun _ => ?_)
  refine J_isub hK dX5_linesOnWay_11 rfl ?_
  refine J_max hK dX5_linesOnWay_12 rfl mm_RX5_132 (by decide) (Nat.le_of_ble_eq_true rfl) (by decide) (by decide) ?_
  obtain rfl := Option.some.inj hf
  exact J_iret hK hR dX5_linesOnWay_15 () rfl (by decide) (by decide)

def fX5_lineAt_s4 (p1 : Int32) (x0_edgeA : (Nat → Int32)) (x0_edgeB : (Nat → Int32)) (x0_edgeCost : (Nat → Int32)) (x0_edgeLine : (Nat → Int32)) (x0_change : (Nat → Int32)) (x0_away : (Nat → Int32)) (x0_steps : (Nat → Int32)) (x0_nodes : (Nat → Int32)) (x0_stepCount : Int32) (x0_open : (Nat → Int32)) (x0_openCount : Int32) (x0_seen : Int64) (x0_edgeCount : Int32) (x0_aim : Int32) (z2 : Int32) (z3 : Int32) : Option ((Int32 × Int32) ⊕ (((Int32) ⊕ (Unit)))) :=
  if x0_stepCount ≤ z3 then (some (.inr (.inr ()))) else ((fX5_lineOn (x0_edgeA, x0_edgeB, x0_edgeCost, x0_edgeLine, x0_change, x0_away, x0_steps, x0_nodes, x0_stepCount, x0_open, x0_openCount, x0_seen, x0_edgeCount, x0_aim) z3).bind (fun v6 => if v6 = (-1) then (some (.inl (z2, (z3 + 1)))) else (if z2 = p1 then (some (.inr (.inl v6))) else (some (.inl ((z2 + 1), (z3 + 1)))))))
def fX5_lineAt (n : Nat) (X0 : WyT) (p1 : Int32) : Option (Int32) :=
  u14 (fun (x0_edgeA : (Nat → Int32)) (x0_edgeB : (Nat → Int32)) (x0_edgeCost : (Nat → Int32)) (x0_edgeLine : (Nat → Int32)) (x0_change : (Nat → Int32)) (x0_away : (Nat → Int32)) (x0_steps : (Nat → Int32)) (x0_nodes : (Nat → Int32)) (x0_stepCount : Int32) (x0_open : (Nat → Int32)) (x0_openCount : Int32) (x0_seen : Int64) (x0_edgeCount : Int32) (x0_aim : Int32) => (lp (u2 (fX5_lineAt_s4 p1 x0_edgeA x0_edgeB x0_edgeCost x0_edgeLine x0_change x0_away x0_steps x0_nodes x0_stepCount x0_open x0_openCount x0_seen x0_edgeCount x0_aim)) n (0, 1)).bind (Sum.elim (fun w5 => some w5) (fun _ => some (-1)))) X0
set_option maxHeartbeats 4000000 in
set_option maxRecDepth 100000 in
theorem kX5_lineAt (l : Launch) (d : DT) (h0 : Nat → Nat) (n : Nat) (x0_edgeA : (Nat → Int32)) (x0_edgeB : (Nat → Int32)) (x0_edgeCost : (Nat → Int32)) (x0_edgeLine : (Nat → Int32)) (x0_change : (Nat → Int32)) (x0_away : (Nat → Int32)) (x0_steps : (Nat → Int32)) (x0_nodes : (Nat → Int32)) (x0_stepCount : Int32) (x0_open : (Nat → Int32)) (x0_openCount : Int32) (x0_seen : Int64) (x0_edgeCount : Int32) (x0_aim : Int32) (p1 : Int32)  {out : Int32} (hf : fX5_lineAt n (x0_edgeA, x0_edgeB, x0_edgeCost, x0_edgeLine, x0_change, x0_away, x0_steps, x0_nodes, x0_stepCount, x0_open, x0_openCount, x0_seen, x0_edgeCount, x0_aim) p1 = some out) : Ct l d yX5_lineAt cX5_lineAt 5 (some .int) { frames := 2, cells := 0, slots := 0, locals := 43 } [.ref (h0 0), .int p1] [gWy d h0 x0_edgeA x0_edgeB x0_edgeCost x0_edgeLine x0_change x0_away x0_steps x0_nodes x0_stepCount x0_open x0_openCount x0_seen x0_edgeCount x0_aim] (fun _ : Unit => (some (.int out), [gWy d h0 x0_edgeA x0_edgeB x0_edgeCost x0_edgeLine x0_change x0_away x0_steps x0_nodes x0_stepCount x0_open x0_openCount x0_seen x0_edgeCount x0_aim])) := by
  refine Ct.of (by decide) (Nat.le_of_ble_eq_true rfl) ?_
  intro Φ hl hK hR
  subst hl
  have hK : Ok d Φ RX5 "lineAt" cX5_lineAt 5 (some .int) { frames := 2, cells := 0, slots := 0, locals := 43 } := hK
  unfold fX5_lineAt at hf
  have hf := un14 hf
  show J d Φ 5 [gWy d h0 x0_edgeA x0_edgeB x0_edgeCost x0_edgeLine x0_change x0_away x0_steps x0_nodes x0_stepCount x0_open x0_openCount x0_seen x0_edgeCount x0_aim] 0 0 0 [(0, .ref (h0 0)), (1, .int p1)] []
  refine J_iconst (v := 0) hK dX5_lineAt_0 rfl (by decide) ?_
  refine J_istore_n (L' := [(2, .int (0)), (0, .ref (h0 0)), (1, .int p1)]) hK dX5_lineAt_1 rfl rfl (by decide) rfl ?_
  refine J_iconst (v := 1) hK dX5_lineAt_2 rfl (by decide) ?_
  refine J_istore_n (L' := [(3, .int (1)), (2, .int (0)), (0, .ref (h0 0)), (1, .int p1)]) hK dX5_lineAt_3 rfl rfl (by decide) rfl ?_
  obtain ⟨e4, hl1, hf⟩ := bs hf
  have hx1_30 : ∀ (w5 : Int32), (.inl w5) = e4 → J d Φ 5 [gWy d h0 x0_edgeA x0_edgeB x0_edgeCost x0_edgeLine x0_change x0_away x0_steps x0_nodes x0_stepCount x0_open x0_openCount x0_seen x0_edgeCount x0_aim] 0 0 30 [(4, .int w5)] [] := by
    intro w5 he
    rw [← he] at hf
    simp only [Sum.elim_inl, Sum.elim_inr] at hf
    refine J_iload hK dX5_lineAt_30 rfl 0 rfl ?_
    obtain rfl := Option.some.inj hf
    exact J_iret hK hR dX5_lineAt_32 () rfl (by decide) (by decide)
  have hx1_42 : (.inr ()) = e4 → J d Φ 5 [gWy d h0 x0_edgeA x0_edgeB x0_edgeCost x0_edgeLine x0_change x0_away x0_steps x0_nodes x0_stepCount x0_open x0_openCount x0_seen x0_edgeCount x0_aim] 0 0 42 [] [] := by
    intro  he
    rw [← he] at hf
    simp only [Sum.elim_inl, Sum.elim_inr] at hf
    refine J_iconst (v := (-1)) hK dX5_lineAt_42 rfl (by decide) ?_
    obtain rfl := Option.some.inj hf
    exact J_iret hK hR dX5_lineAt_43 () rfl (by decide) (by decide)
  have lo1 : ∀ (k : Nat) (z2 : Int32) (z3 : Int32), lp (u2 (fX5_lineAt_s4 p1 x0_edgeA x0_edgeB x0_edgeCost x0_edgeLine x0_change x0_away x0_steps x0_nodes x0_stepCount x0_open x0_openCount x0_seen x0_edgeCount x0_aim)) k (z2, z3) = some e4 → J d Φ 5 [gWy d h0 x0_edgeA x0_edgeB x0_edgeCost x0_edgeLine x0_change x0_away x0_steps x0_nodes x0_stepCount x0_open x0_openCount x0_seen x0_edgeCount x0_aim] 0 0 4 [(0, .ref (h0 0)), (1, .int p1), (2, .int z2), (3, .int z3)] [] := by
    intro k
    induction k with
    | zero => intro z2 z3 h; cases h
    | succ k ih1 =>
      intro z2 z3 h
      obtain ⟨k2, rr1, hk2, hs1, hr1⟩ := lp_ok h
      cases hk2
      have hs1 : fX5_lineAt_s4 p1 x0_edgeA x0_edgeB x0_edgeCost x0_edgeLine x0_change x0_away x0_steps x0_nodes x0_stepCount x0_open x0_openCount x0_seen x0_edgeCount x0_aim z2 z3 = some rr1 := hs1
      unfold fX5_lineAt_s4 at hs1
      refine J_iload_n hK dX5_lineAt_4 rfl 3 rfl rfl ?_
      refine J_aload_n hK dX5_lineAt_5 rfl 0 rfl rfl ?_
      refine J_get hK fo_RX5_79 dX5_lineAt_6 rfl 0 0 rfl rfl rfl ?_
      refine J_icmp_ge (tg := 42) hK dX5_lineAt_9 rfl rfl (fun hc9 => ?_) (fun hc9 => ?_)
      · have hs1 := ip hc9 hs1
        exact J_loc [] rfl (hx1_42  (lpx hs1 hr1))
      · have hs1 := iq hc9 hs1
        refine J_aload_n hK dX5_lineAt_12 rfl 0 rfl rfl ?_
        refine J_iload_n hK dX5_lineAt_13 rfl 3 rfl rfl ?_
        obtain ⟨v6, e7, hs1⟩ := bs hs1
        refine J_callV (m' := 1) (ce' := 0) (sl' := 0) (gr := []) (gs' := fun _ => [gWy d h0 x0_edgeA x0_edgeB x0_edgeCost x0_edgeLine x0_change x0_away x0_steps x0_nodes x0_stepCount x0_open x0_openCount x0_seen x0_edgeCount x0_aim]) (st' := fun _ => [.int v6]) (st := []) hK dX5_lineAt_14 cv_RX5_137 iv_yX5_lineOn (As := [.int z3]) (kX5_lineOn _ d h0 x0_edgeA x0_edgeB x0_edgeCost x0_edgeLine x0_change x0_away x0_steps x0_nodes x0_stepCount x0_open x0_openCount x0_seen x0_edgeCount x0_aim z3 e7) rfl rfl (Nat.le_of_ble_eq_true rfl) (by decide) 0 0 rfl rfl rfl [0] [] rfl rfl rfl rfl [0] rfl (fun _ => rfl) (fun _ => rfl) rfl rfl rfl (fun _ => rfl) (fun _ => ?_)
        refine J_istore (L' := [(4, .int v6), (0, .ref (h0 0)), (1, .int p1), (2, .int z2), (3, .int z3)]) hK dX5_lineAt_17 rfl (by decide) rfl ?_
        refine J_iload hK dX5_lineAt_19 rfl 0 rfl ?_
        refine J_iconst (v := (-1)) hK dX5_lineAt_21 rfl (by decide) ?_
        refine J_icmp_eq (tg := 36) hK dX5_lineAt_22 rfl rfl (fun hc22 => ?_) (fun hc22 => ?_)
        · have hs1 := ip hc22 hs1
          refine J_iinc (L' := [(3, .int (z3 + 1)), (4, .int v6), (0, .ref (h0 0)), (1, .int p1), (2, .int z2)]) (v := (z3 + 1)) hK dX5_lineAt_36 rfl 4 rfl rfl (by decide) rfl ?_
          refine J_goto hK dX5_lineAt_39 (n := 4) rfl ?_
          exact J_loc [2, 3, 4, 0] rfl (ih1 z2 (z3 + 1) (lpc hs1 hr1))
        · have hs1 := iq hc22 hs1
          refine J_iload_n hK dX5_lineAt_25 rfl 3 rfl rfl ?_
          refine J_iload_n hK dX5_lineAt_26 rfl 2 rfl rfl ?_
          refine J_icmp_ne (tg := 33) hK dX5_lineAt_27 rfl rfl (fun hc27 => ?_) (fun hc27 => ?_)
          · have hs1 := iq hc27 hs1
            refine J_iinc (L' := [(2, .int (z2 + 1)), (4, .int v6), (0, .ref (h0 0)), (1, .int p1), (3, .int z3)]) (v := (z2 + 1)) hK dX5_lineAt_33 rfl 3 rfl rfl (by decide) rfl ?_
            refine J_iinc (L' := [(3, .int (z3 + 1)), (2, .int (z2 + 1)), (4, .int v6), (0, .ref (h0 0)), (1, .int p1)]) (v := (z3 + 1)) hK dX5_lineAt_36 rfl 4 rfl rfl (by decide) rfl ?_
            refine J_goto hK dX5_lineAt_39 (n := 4) rfl ?_
            exact J_loc [3, 4, 1, 0] rfl (ih1 (z2 + 1) (z3 + 1) (lpc hs1 hr1))
          · have hs1 := ip hc27 hs1
            exact J_loc [0] rfl (hx1_30 v6 (lpx hs1 hr1))
  exact J_loc [2, 3, 1, 0] rfl (lo1 n (0) (1) hl1)

def fX6_refuse (X0 : TwT) (p1 : Int32) : Option (Int32 × (Nat → Int32)) :=
  u4 (fun (x0_refused : (Nat → Int32)) (x0_isKept : Int32) (x0_gone : Int32) (x0_spent : Int32) => (fX6_within p1 (-6) (-2)).bind (fun v1 => if v1 = 0 then (some (p1, x0_refused)) else ((rd 5 x0_refused ((-2) - p1)).bind fun v3 => (wr 5 x0_refused ((-2) - p1) (v3 + 1)).bind fun f4 => some (p1, f4)))) X0
set_option maxHeartbeats 4000000 in
set_option maxRecDepth 100000 in
theorem kX6_refuse (l : Launch) (d : DT) (h0 : Nat → Nat) (a0_state : Nat) (a0_kept : Nat) (a0_tape : Nat) (a0_shelves : Nat) (a0_choice : Nat) (a0_traffic : Nat) (x0_refused : (Nat → Int32)) (x0_isKept : Int32) (x0_gone : Int32) (x0_spent : Int32) (p1 : Int32)  {out : Int32 × (Nat → Int32)} (hf : fX6_refuse (x0_refused, x0_isKept, x0_gone, x0_spent) p1 = some out) : Ct l d yX6_refuse cX6_refuse 2 (some .int) { frames := 1, cells := 0, slots := 0, locals := 22 } [.ref (h0 0), .int p1] [gTw d h0 a0_state a0_kept a0_tape a0_shelves a0_choice a0_traffic x0_refused x0_isKept x0_gone x0_spent] (fun _ : Unit => (some (.int out.1), [gTw d h0 a0_state a0_kept a0_tape a0_shelves a0_choice a0_traffic (out.2) x0_isKept x0_gone x0_spent])) := by
  refine Ct.of (by decide) (Nat.le_of_ble_eq_true rfl) ?_
  intro Φ hl hK hR
  subst hl
  have hK : Ok d Φ RX6 "refuse" cX6_refuse 2 (some .int) { frames := 1, cells := 0, slots := 0, locals := 22 } := hK
  unfold fX6_refuse at hf
  have hf := un4 hf
  show J d Φ 2 [gTw d h0 a0_state a0_kept a0_tape a0_shelves a0_choice a0_traffic x0_refused x0_isKept x0_gone x0_spent] 0 0 0 [(0, .ref (h0 0)), (1, .int p1)] []
  refine J_iload_n hK dX6_refuse_0 rfl 1 rfl rfl ?_
  refine J_bipush (v := (-6)) hK dX6_refuse_1 rfl (by decide) ?_
  refine J_bipush (v := (-2)) hK dX6_refuse_3 rfl (by decide) ?_
  obtain ⟨v1, e2, hf⟩ := bs hf
  refine J_callS (m' := 1) (ce' := 0) (sl' := 0) (gr := [gTw d h0 a0_state a0_kept a0_tape a0_shelves a0_choice a0_traffic x0_refused x0_isKept x0_gone x0_spent]) (gs' := fun _ => [gTw d h0 a0_state a0_kept a0_tape a0_shelves a0_choice a0_traffic x0_refused x0_isKept x0_gone x0_spent]) (st' := fun _ => [.int v1]) (st := []) hK dX6_refuse_5 cv_RX6_64 ws_yX6_within (As := [.int p1, .int (-6), .int (-2)]) (kX6_within _ d p1 (-6) (-2) e2) rfl rfl (Nat.le_of_ble_eq_true rfl) (by decide) [] [0] rfl rfl rfl rfl [0] rfl (fun _ => rfl) (fun _ => rfl) rfl rfl rfl (fun _ => rfl) (fun _ => ?_)
  refine J_if_eq (tg := 24) hK dX6_refuse_8 rfl rfl (fun hc8 => ?_) (fun hc8 => ?_)
  · have hf := ip hc8 hf
    refine J_iload_n hK dX6_refuse_24 rfl 1 rfl rfl ?_
    obtain rfl := Option.some.inj hf
    exact J_iret hK hR dX6_refuse_25 () rfl (by decide) (by decide)
  · have hf := iq hc8 hf
    refine J_aload_n hK dX6_refuse_11 rfl 0 rfl rfl ?_
    refine J_get hK fo_RX6_45 dX6_refuse_12 rfl 0 0 rfl rfl rfl ?_
    refine J_bipush (v := (-2)) hK dX6_refuse_15 rfl (by decide) ?_
    refine J_iload_n hK dX6_refuse_17 rfl 1 rfl rfl ?_
    refine J_isub hK dX6_refuse_18 rfl ?_
    refine J_dup2 hK dX6_refuse_19 rfl rfl rfl ?_
    obtain ⟨v3, ev3, hf⟩ := bs hf
    refine J_iald hK dX6_refuse_20 rfl 0 1 rfl rfl ev3 ?_
    refine J_iconst (v := 1) hK dX6_refuse_21 rfl (by decide) ?_
    refine J_iadd hK dX6_refuse_22 rfl ?_
    obtain ⟨f4, ef4, hf⟩ := bs hf
    refine J_iast (g' := gTw d h0 a0_state a0_kept a0_tape a0_shelves a0_choice a0_traffic f4 x0_isKept x0_gone x0_spent) (gs' := [gTw d h0 a0_state a0_kept a0_tape a0_shelves a0_choice a0_traffic f4 x0_isKept x0_gone x0_spent]) hK dX6_refuse_23 rfl 0 1 rfl rfl ef4 rfl rfl ?_
    refine J_iload_n hK dX6_refuse_24 rfl 1 rfl rfl ?_
    obtain rfl := Option.some.inj hf
    exact J_iret hK hR dX6_refuse_25 () rfl (by decide) (by decide)

def fX6_row (n : Nat) (X0 : TwT) (X1 : ShT) (p1 : Int32) (p2 : Int32) (p3 : Int32) : Option (Int32 × (Nat → Int32) × (Nat → Nat → Int64) × (Nat → Int32) × (Nat → Int32)) :=
  u4 (fun (x0_refused : (Nat → Int32)) (x0_isKept : Int32) (x0_gone : Int32) (x0_spent : Int32) => u3 (fun (x1_elements : (Nat → Nat → Int64)) (x1_held : (Nat → Int32)) (x1_sizes : (Nat → Int32)) => (fX2_has p1).bind (fun v1 => if v1 = 0 then ((fX6_refuse (x0_refused, x0_isKept, x0_gone, x0_spent) (-2)).bind (u2 fun v3 g4 => some (v3, g4, x1_elements, x1_held, x1_sizes))) else ((fX6_within p2 (0) (4)).bind (fun v6 => if v6 = 0 then ((fX6_refuse (x0_refused, x0_isKept, x0_gone, x0_spent) (-2)).bind (u2 fun v8 g9 => some (v8, g9, x1_elements, x1_held, x1_sizes))) else ((fX6_within p3 (0) (40)).bind (fun v11 => if v11 = 0 then ((fX6_refuse (x0_refused, x0_isKept, x0_gone, x0_spent) (-2)).bind (u2 fun v17 g18 => some (v17, g18, x1_elements, x1_held, x1_sizes))) else ((fX2_putRow n (x1_elements, x1_held, x1_sizes) p1 p2 p3).bind (u3 fun g13 g14 g15 => some (1, x0_refused, g13, g14, g15))))))))) X1) X0
set_option maxHeartbeats 4000000 in
set_option maxRecDepth 100000 in
theorem kX6_row (l : Launch) (d : DT) (h0 : Nat → Nat) (a0_state : Nat) (a0_kept : Nat) (a0_tape : Nat) (a0_choice : Nat) (a0_traffic : Nat) (h1 : Nat → Nat) (r1_elements : Nat → Nat) (n : Nat) (x0_refused : (Nat → Int32)) (x0_isKept : Int32) (x0_gone : Int32) (x0_spent : Int32) (x1_elements : (Nat → Nat → Int64)) (x1_held : (Nat → Int32)) (x1_sizes : (Nat → Int32)) (p1 : Int32) (p2 : Int32) (p3 : Int32)  {out : Int32 × (Nat → Int32) × (Nat → Nat → Int64) × (Nat → Int32) × (Nat → Int32)} (hf : fX6_row n (x0_refused, x0_isKept, x0_gone, x0_spent) (x1_elements, x1_held, x1_sizes) p1 p2 p3 = some out) : Ct l d yX6_row cX6_row 4 (some .int) { frames := 2, cells := 0, slots := 0, locals := 47 } [.ref (h0 0), .int p1, .int p2, .int p3] [gTw d h0 a0_state a0_kept a0_tape (h1 0) a0_choice a0_traffic x0_refused x0_isKept x0_gone x0_spent, gSh d h1 r1_elements x1_held x1_sizes, gridJ d r1_elements 8 40 x1_elements] (fun _ : Unit => (some (.int out.1), [gTw d h0 a0_state a0_kept a0_tape (h1 0) a0_choice a0_traffic (out.2.1) x0_isKept x0_gone x0_spent, gSh d h1 r1_elements (out.2.2.2.1) (out.2.2.2.2), gridJ d r1_elements 8 40 (out.2.2.1)])) := by
  refine Ct.of (by decide) (Nat.le_of_ble_eq_true rfl) ?_
  intro Φ hl hK hR
  subst hl
  have hK : Ok d Φ RX6 "row" cX6_row 4 (some .int) { frames := 2, cells := 0, slots := 0, locals := 47 } := hK
  unfold fX6_row at hf
  have hf := un4 hf
  have hf := un3 hf
  show J d Φ 4 [gTw d h0 a0_state a0_kept a0_tape (h1 0) a0_choice a0_traffic x0_refused x0_isKept x0_gone x0_spent, gSh d h1 r1_elements x1_held x1_sizes, gridJ d r1_elements 8 40 x1_elements] 0 0 0 [(0, .ref (h0 0)), (1, .int p1), (2, .int p2), (3, .int p3)] []
  refine J_iload_n hK dX6_row_0 rfl 1 rfl rfl ?_
  obtain ⟨v1, e2, hf⟩ := bs hf
  refine J_callS (m' := 3) (ce' := 0) (sl' := 0) (gr := [gTw d h0 a0_state a0_kept a0_tape (h1 0) a0_choice a0_traffic x0_refused x0_isKept x0_gone x0_spent, gSh d h1 r1_elements x1_held x1_sizes, gridJ d r1_elements 8 40 x1_elements]) (gs' := fun _ => [gTw d h0 a0_state a0_kept a0_tape (h1 0) a0_choice a0_traffic x0_refused x0_isKept x0_gone x0_spent, gSh d h1 r1_elements x1_held x1_sizes, gridJ d r1_elements 8 40 x1_elements]) (st' := fun _ => [.int v1]) (st := []) hK dX6_row_1 cv_RX6_60 ws_yX2_has (As := [.int p1]) (kX2_has _ d p1 e2) rfl rfl (Nat.le_of_ble_eq_true rfl) (by decide) [] [0, 1, 2] rfl rfl rfl rfl [0, 1, 2] rfl (fun _ => rfl) (fun _ => rfl) rfl rfl rfl (fun _ => rfl) (fun _ => ?_)
  refine J_if_eq (tg := 26) hK dX6_row_4 rfl rfl (fun hc4 => ?_) (fun hc4 => ?_)
  · have hf := ip hc4 hf
    refine J_aload_n hK dX6_row_26 rfl 0 rfl rfl ?_
    refine J_bipush (v := (-2)) hK dX6_row_27 rfl (by decide) ?_
    obtain ⟨⟨v3, g4⟩, e5, hf⟩ := bs hf
    have hf := un2 hf
    refine J_callV (m' := 3) (ce' := 0) (sl' := 0) (gr := [gSh d h1 r1_elements x1_held x1_sizes, gridJ d r1_elements 8 40 x1_elements]) (gs' := fun _ => [gTw d h0 a0_state a0_kept a0_tape (h1 0) a0_choice a0_traffic g4 x0_isKept x0_gone x0_spent, gSh d h1 r1_elements x1_held x1_sizes, gridJ d r1_elements 8 40 x1_elements]) (st' := fun _ => [.int v3]) (st := []) hK dX6_row_29 cv_RX6_68 iv_yX6_refuse (As := [.int (-2)]) (kX6_refuse _ d h0 a0_state a0_kept a0_tape (h1 0) a0_choice a0_traffic x0_refused x0_isKept x0_gone x0_spent (-2) e5) rfl rfl (Nat.le_of_ble_eq_true rfl) (by decide) 0 0 rfl rfl rfl [0] [1, 2] rfl rfl rfl rfl [2, 0, 1] rfl (fun _ => rfl) (fun _ => rfl) rfl rfl rfl (fun _ => rfl) (fun _ => ?_)
    obtain rfl := Option.some.inj hf
    exact J_iret hK hR dX6_row_32 () rfl (by decide) (by decide)
  · have hf := iq hc4 hf
    refine J_iload_n hK dX6_row_7 rfl 2 rfl rfl ?_
    refine J_iconst (v := 0) hK dX6_row_8 rfl (by decide) ?_
    refine J_iconst (v := 4) hK dX6_row_9 rfl (by decide) ?_
    obtain ⟨v6, e7, hf⟩ := bs hf
    refine J_callS (m' := 3) (ce' := 0) (sl' := 0) (gr := [gTw d h0 a0_state a0_kept a0_tape (h1 0) a0_choice a0_traffic x0_refused x0_isKept x0_gone x0_spent, gSh d h1 r1_elements x1_held x1_sizes, gridJ d r1_elements 8 40 x1_elements]) (gs' := fun _ => [gTw d h0 a0_state a0_kept a0_tape (h1 0) a0_choice a0_traffic x0_refused x0_isKept x0_gone x0_spent, gSh d h1 r1_elements x1_held x1_sizes, gridJ d r1_elements 8 40 x1_elements]) (st' := fun _ => [.int v6]) (st := []) hK dX6_row_10 cv_RX6_64 ws_yX6_within (As := [.int p2, .int (0), .int (4)]) (kX6_within _ d p2 (0) (4) e7) rfl rfl (Nat.le_of_ble_eq_true rfl) (by decide) [] [0, 1, 2] rfl rfl rfl rfl [0, 1, 2] rfl (fun _ => rfl) (fun _ => rfl) rfl rfl rfl (fun _ => rfl) (fun _ => ?_)
    refine J_if_eq (tg := 26) hK dX6_row_13 rfl rfl (fun hc13 => ?_) (fun hc13 => ?_)
    · have hf := ip hc13 hf
      refine J_aload_n hK dX6_row_26 rfl 0 rfl rfl ?_
      refine J_bipush (v := (-2)) hK dX6_row_27 rfl (by decide) ?_
      obtain ⟨⟨v8, g9⟩, e10, hf⟩ := bs hf
      have hf := un2 hf
      refine J_callV (m' := 3) (ce' := 0) (sl' := 0) (gr := [gSh d h1 r1_elements x1_held x1_sizes, gridJ d r1_elements 8 40 x1_elements]) (gs' := fun _ => [gTw d h0 a0_state a0_kept a0_tape (h1 0) a0_choice a0_traffic g9 x0_isKept x0_gone x0_spent, gSh d h1 r1_elements x1_held x1_sizes, gridJ d r1_elements 8 40 x1_elements]) (st' := fun _ => [.int v8]) (st := []) hK dX6_row_29 cv_RX6_68 iv_yX6_refuse (As := [.int (-2)]) (kX6_refuse _ d h0 a0_state a0_kept a0_tape (h1 0) a0_choice a0_traffic x0_refused x0_isKept x0_gone x0_spent (-2) e10) rfl rfl (Nat.le_of_ble_eq_true rfl) (by decide) 0 0 rfl rfl rfl [0] [1, 2] rfl rfl rfl rfl [2, 0, 1] rfl (fun _ => rfl) (fun _ => rfl) rfl rfl rfl (fun _ => rfl) (fun _ => ?_)
      obtain rfl := Option.some.inj hf
      exact J_iret hK hR dX6_row_32 () rfl (by decide) (by decide)
    · have hf := iq hc13 hf
      refine J_iload_n hK dX6_row_16 rfl 3 rfl rfl ?_
      refine J_iconst (v := 0) hK dX6_row_17 rfl (by decide) ?_
      refine J_bipush (v := 40) hK dX6_row_18 rfl (by decide) ?_
      obtain ⟨v11, e12, hf⟩ := bs hf
      refine J_callS (m' := 3) (ce' := 0) (sl' := 0) (gr := [gTw d h0 a0_state a0_kept a0_tape (h1 0) a0_choice a0_traffic x0_refused x0_isKept x0_gone x0_spent, gSh d h1 r1_elements x1_held x1_sizes, gridJ d r1_elements 8 40 x1_elements]) (gs' := fun _ => [gTw d h0 a0_state a0_kept a0_tape (h1 0) a0_choice a0_traffic x0_refused x0_isKept x0_gone x0_spent, gSh d h1 r1_elements x1_held x1_sizes, gridJ d r1_elements 8 40 x1_elements]) (st' := fun _ => [.int v11]) (st := []) hK dX6_row_20 cv_RX6_64 ws_yX6_within (As := [.int p3, .int (0), .int (40)]) (kX6_within _ d p3 (0) (40) e12) rfl rfl (Nat.le_of_ble_eq_true rfl) (by decide) [] [0, 1, 2] rfl rfl rfl rfl [0, 1, 2] rfl (fun _ => rfl) (fun _ => rfl) rfl rfl rfl (fun _ => rfl) (fun _ => ?_)
      refine J_if_ne (tg := 33) hK dX6_row_23 rfl rfl (fun hc23 => ?_) (fun hc23 => ?_)
      · have hf := iq hc23 hf
        refine J_aload_n hK dX6_row_33 rfl 0 rfl rfl ?_
        refine J_get hK fo_RX6_29 dX6_row_34 rfl 0 0 rfl rfl rfl ?_
        refine J_iload_n hK dX6_row_37 rfl 1 rfl rfl ?_
        refine J_iload_n hK dX6_row_38 rfl 2 rfl rfl ?_
        refine J_iload_n hK dX6_row_39 rfl 3 rfl rfl ?_
        obtain ⟨⟨g13, g14, g15⟩, e16, hf⟩ := bs hf
        have hf := un3 hf
        refine J_callV (m' := 3) (ce' := 0) (sl' := 0) (gr := [gTw d h0 a0_state a0_kept a0_tape (h1 0) a0_choice a0_traffic x0_refused x0_isKept x0_gone x0_spent]) (gs' := fun _ => [gTw d h0 a0_state a0_kept a0_tape (h1 0) a0_choice a0_traffic x0_refused x0_isKept x0_gone x0_spent, gSh d h1 r1_elements g14 g15, gridJ d r1_elements 8 40 g13]) (st' := fun _ => []) (st := []) hK dX6_row_40 cv_RX6_72 iv_yX2_putRow (As := [.int p1, .int p2, .int p3]) (kX2_putRow _ d h1 r1_elements n x1_elements x1_held x1_sizes p1 p2 p3 e16) rfl rfl (Nat.le_of_ble_eq_true rfl) (by decide) 1 0 rfl rfl rfl [1, 2] [0] rfl rfl rfl rfl [0, 1, 2] rfl (fun _ => rfl) (fun _ => rfl) rfl rfl rfl (fun _ => rfl) (fun _ => ?_)
        refine J_iconst (v := 1) hK dX6_row_43 rfl (by decide) ?_
        obtain rfl := Option.some.inj hf
        exact J_iret hK hR dX6_row_44 () rfl (by decide) (by decide)
      · have hf := ip hc23 hf
        refine J_aload_n hK dX6_row_26 rfl 0 rfl rfl ?_
        refine J_bipush (v := (-2)) hK dX6_row_27 rfl (by decide) ?_
        obtain ⟨⟨v17, g18⟩, e19, hf⟩ := bs hf
        have hf := un2 hf
        refine J_callV (m' := 3) (ce' := 0) (sl' := 0) (gr := [gSh d h1 r1_elements x1_held x1_sizes, gridJ d r1_elements 8 40 x1_elements]) (gs' := fun _ => [gTw d h0 a0_state a0_kept a0_tape (h1 0) a0_choice a0_traffic g18 x0_isKept x0_gone x0_spent, gSh d h1 r1_elements x1_held x1_sizes, gridJ d r1_elements 8 40 x1_elements]) (st' := fun _ => [.int v17]) (st := []) hK dX6_row_29 cv_RX6_68 iv_yX6_refuse (As := [.int (-2)]) (kX6_refuse _ d h0 a0_state a0_kept a0_tape (h1 0) a0_choice a0_traffic x0_refused x0_isKept x0_gone x0_spent (-2) e19) rfl rfl (Nat.le_of_ble_eq_true rfl) (by decide) 0 0 rfl rfl rfl [0] [1, 2] rfl rfl rfl rfl [2, 0, 1] rfl (fun _ => rfl) (fun _ => rfl) rfl rfl rfl (fun _ => rfl) (fun _ => ?_)
        obtain rfl := Option.some.inj hf
        exact J_iret hK hR dX6_row_32 () rfl (by decide) (by decide)

def fX6_noRow (X0 : TwT) (X1 : ShT) (p1 : Int32) : Option (Int32) :=
  u4 (fun (x0_refused : (Nat → Int32)) (x0_isKept : Int32) (x0_gone : Int32) (x0_spent : Int32) => u3 (fun (x1_elements : (Nat → Nat → Int64)) (x1_held : (Nat → Int32)) (x1_sizes : (Nat → Int32)) => (fX2_has p1).bind (fun v1 => if v1 = 0 then (some (-2)) else ((fX2_hasWork (x1_elements, x1_held, x1_sizes) p1).bind (fun v3 => if v3 = 0 then ((fX2_hasRow (x1_elements, x1_held, x1_sizes) p1).bind (fun v5 => if v5 = 0 then (some (-4)) else (some (0)))) else (some (-3)))))) X1) X0
set_option maxHeartbeats 4000000 in
set_option maxRecDepth 100000 in
theorem kX6_noRow (l : Launch) (d : DT) (h0 : Nat → Nat) (a0_state : Nat) (a0_kept : Nat) (a0_tape : Nat) (a0_choice : Nat) (a0_traffic : Nat) (h1 : Nat → Nat) (r1_elements : Nat → Nat) (x0_refused : (Nat → Int32)) (x0_isKept : Int32) (x0_gone : Int32) (x0_spent : Int32) (x1_elements : (Nat → Nat → Int64)) (x1_held : (Nat → Int32)) (x1_sizes : (Nat → Int32)) (p1 : Int32)  {out : Int32} (hf : fX6_noRow (x0_refused, x0_isKept, x0_gone, x0_spent) (x1_elements, x1_held, x1_sizes) p1 = some out) : Ct l d yX6_noRow cX6_noRow 2 (some .int) { frames := 2, cells := 0, slots := 0, locals := 43 } [.ref (h0 0), .int p1] [gTw d h0 a0_state a0_kept a0_tape (h1 0) a0_choice a0_traffic x0_refused x0_isKept x0_gone x0_spent, gSh d h1 r1_elements x1_held x1_sizes] (fun _ : Unit => (some (.int out), [gTw d h0 a0_state a0_kept a0_tape (h1 0) a0_choice a0_traffic x0_refused x0_isKept x0_gone x0_spent, gSh d h1 r1_elements x1_held x1_sizes])) := by
  refine Ct.of (by decide) (Nat.le_of_ble_eq_true rfl) ?_
  intro Φ hl hK hR
  subst hl
  have hK : Ok d Φ RX6 "noRow" cX6_noRow 2 (some .int) { frames := 2, cells := 0, slots := 0, locals := 43 } := hK
  unfold fX6_noRow at hf
  have hf := un4 hf
  have hf := un3 hf
  show J d Φ 2 [gTw d h0 a0_state a0_kept a0_tape (h1 0) a0_choice a0_traffic x0_refused x0_isKept x0_gone x0_spent, gSh d h1 r1_elements x1_held x1_sizes] 0 0 0 [(0, .ref (h0 0)), (1, .int p1)] []
  refine J_iload_n hK dX6_noRow_0 rfl 1 rfl rfl ?_
  obtain ⟨v1, e2, hf⟩ := bs hf
  refine J_callS (m' := 2) (ce' := 0) (sl' := 0) (gr := [gTw d h0 a0_state a0_kept a0_tape (h1 0) a0_choice a0_traffic x0_refused x0_isKept x0_gone x0_spent, gSh d h1 r1_elements x1_held x1_sizes]) (gs' := fun _ => [gTw d h0 a0_state a0_kept a0_tape (h1 0) a0_choice a0_traffic x0_refused x0_isKept x0_gone x0_spent, gSh d h1 r1_elements x1_held x1_sizes]) (st' := fun _ => [.int v1]) (st := []) hK dX6_noRow_1 cv_RX6_60 ws_yX2_has (As := [.int p1]) (kX2_has _ d p1 e2) rfl rfl (Nat.le_of_ble_eq_true rfl) (by decide) [] [0, 1] rfl rfl rfl rfl [0, 1] rfl (fun _ => rfl) (fun _ => rfl) rfl rfl rfl (fun _ => rfl) (fun _ => ?_)
  refine J_if_ne (tg := 10) hK dX6_noRow_4 rfl rfl (fun hc4 => ?_) (fun hc4 => ?_)
  · have hf := iq hc4 hf
    refine J_aload_n hK dX6_noRow_10 rfl 0 rfl rfl ?_
    refine J_get hK fo_RX6_29 dX6_noRow_11 rfl 0 0 rfl rfl rfl ?_
    refine J_iload_n hK dX6_noRow_14 rfl 1 rfl rfl ?_
    obtain ⟨v3, e4, hf⟩ := bs hf
    refine J_callV (m' := 2) (ce' := 0) (sl' := 0) (gr := [gTw d h0 a0_state a0_kept a0_tape (h1 0) a0_choice a0_traffic x0_refused x0_isKept x0_gone x0_spent]) (gs' := fun _ => [gTw d h0 a0_state a0_kept a0_tape (h1 0) a0_choice a0_traffic x0_refused x0_isKept x0_gone x0_spent, gSh d h1 r1_elements x1_held x1_sizes]) (st' := fun _ => [.int v3]) (st := []) hK dX6_noRow_15 cv_RX6_86 iv_yX2_hasWork (As := [.int p1]) (kX2_hasWork _ d h1 r1_elements x1_elements x1_held x1_sizes p1 e4) rfl rfl (Nat.le_of_ble_eq_true rfl) (by decide) 1 0 rfl rfl rfl [1] [0] rfl rfl rfl rfl [0, 1] rfl (fun _ => rfl) (fun _ => rfl) rfl rfl rfl (fun _ => rfl) (fun _ => ?_)
    refine J_if_eq (tg := 24) hK dX6_noRow_18 rfl rfl (fun hc18 => ?_) (fun hc18 => ?_)
    · have hf := ip hc18 hf
      refine J_aload_n hK dX6_noRow_24 rfl 0 rfl rfl ?_
      refine J_get hK fo_RX6_29 dX6_noRow_25 rfl 0 0 rfl rfl rfl ?_
      refine J_iload_n hK dX6_noRow_28 rfl 1 rfl rfl ?_
      obtain ⟨v5, e6, hf⟩ := bs hf
      refine J_callV (m' := 2) (ce' := 0) (sl' := 0) (gr := [gTw d h0 a0_state a0_kept a0_tape (h1 0) a0_choice a0_traffic x0_refused x0_isKept x0_gone x0_spent]) (gs' := fun _ => [gTw d h0 a0_state a0_kept a0_tape (h1 0) a0_choice a0_traffic x0_refused x0_isKept x0_gone x0_spent, gSh d h1 r1_elements x1_held x1_sizes]) (st' := fun _ => [.int v5]) (st := []) hK dX6_noRow_29 cv_RX6_106 iv_yX2_hasRow (As := [.int p1]) (kX2_hasRow _ d h1 r1_elements x1_elements x1_held x1_sizes p1 e6) rfl rfl (Nat.le_of_ble_eq_true rfl) (by decide) 1 0 rfl rfl rfl [1] [0] rfl rfl rfl rfl [0, 1] rfl (fun _ => rfl) (fun _ => rfl) rfl rfl rfl (fun _ => rfl) (fun _ => ?_)
      refine J_if_eq (tg := 39) hK dX6_noRow_32 rfl rfl (fun hc32 => ?_) (fun hc32 => ?_)
      · have hf := ip hc32 hf
        refine J_bipush (v := (-4)) hK dX6_noRow_39 rfl (by decide) ?_
        obtain rfl := Option.some.inj hf
        exact J_iret hK hR dX6_noRow_41 () rfl (by decide) (by decide)
      · have hf := iq hc32 hf
        refine J_iconst (v := 0) hK dX6_noRow_35 rfl (by decide) ?_
        refine J_goto hK dX6_noRow_36 (n := 41) rfl ?_
        obtain rfl := Option.some.inj hf
        exact J_iret hK hR dX6_noRow_41 () rfl (by decide) (by decide)
    · have hf := iq hc18 hf
      refine J_bipush (v := (-3)) hK dX6_noRow_21 rfl (by decide) ?_
      obtain rfl := Option.some.inj hf
      exact J_iret hK hR dX6_noRow_23 () rfl (by decide) (by decide)
  · have hf := ip hc4 hf
    refine J_bipush (v := (-2)) hK dX6_noRow_7 rfl (by decide) ?_
    obtain rfl := Option.some.inj hf
    exact J_iret hK hR dX6_noRow_9 () rfl (by decide) (by decide)

def fX6_set (X0 : TwT) (X1 : ShT) (p1 : Int32) (p2 : Int32) (p3 : Int64) : Option (Int32 × (Nat → Int32) × (Nat → Nat → Int64)) :=
  u4 (fun (x0_refused : (Nat → Int32)) (x0_isKept : Int32) (x0_gone : Int32) (x0_spent : Int32) => u3 (fun (x1_elements : (Nat → Nat → Int64)) (x1_held : (Nat → Int32)) (x1_sizes : (Nat → Int32)) => (fX6_noRow (x0_refused, x0_isKept, x0_gone, x0_spent) (x1_elements, x1_held, x1_sizes) p1).bind (fun v1 => if v1 = 0 then ((rd 8 x1_sizes p1).bind fun v3 => (fX6_within p2 (0) (v3 - 1)).bind (fun v4 => if v4 = 0 then ((fX6_refuse (x0_refused, x0_isKept, x0_gone, x0_spent) (-2)).bind (u2 fun v8 g9 => some (v8, g9, x1_elements))) else ((fX2_put (x1_elements, x1_held, x1_sizes) p1 p2 p3).bind (fun g6 => some (1, x0_refused, g6))))) else ((fX6_refuse (x0_refused, x0_isKept, x0_gone, x0_spent) v1).bind (u2 fun v11 g12 => some (v11, g12, x1_elements))))) X1) X0
set_option maxHeartbeats 4000000 in
set_option maxRecDepth 100000 in
theorem kX6_set (l : Launch) (d : DT) (h0 : Nat → Nat) (a0_state : Nat) (a0_kept : Nat) (a0_tape : Nat) (a0_choice : Nat) (a0_traffic : Nat) (h1 : Nat → Nat) (r1_elements : Nat → Nat) (x0_refused : (Nat → Int32)) (x0_isKept : Int32) (x0_gone : Int32) (x0_spent : Int32) (x1_elements : (Nat → Nat → Int64)) (x1_held : (Nat → Int32)) (x1_sizes : (Nat → Int32)) (p1 : Int32) (p2 : Int32) (p3 : Int64)  {out : Int32 × (Nat → Int32) × (Nat → Nat → Int64)} (hf : fX6_set (x0_refused, x0_isKept, x0_gone, x0_spent) (x1_elements, x1_held, x1_sizes) p1 p2 p3 = some out) : Ct l d yX6_set cX6_set 6 (some .int) { frames := 3, cells := 0, slots := 0, locals := 64 } [.ref (h0 0), .int p1, .int p2, .long p3] [gTw d h0 a0_state a0_kept a0_tape (h1 0) a0_choice a0_traffic x0_refused x0_isKept x0_gone x0_spent, gSh d h1 r1_elements x1_held x1_sizes, gridJ d r1_elements 8 40 x1_elements] (fun _ : Unit => (some (.int out.1), [gTw d h0 a0_state a0_kept a0_tape (h1 0) a0_choice a0_traffic (out.2.1) x0_isKept x0_gone x0_spent, gSh d h1 r1_elements x1_held x1_sizes, gridJ d r1_elements 8 40 (out.2.2)])) := by
  refine Ct.of (by decide) (Nat.le_of_ble_eq_true rfl) ?_
  intro Φ hl hK hR
  subst hl
  have hK : Ok d Φ RX6 "set" cX6_set 6 (some .int) { frames := 3, cells := 0, slots := 0, locals := 64 } := hK
  unfold fX6_set at hf
  have hf := un4 hf
  have hf := un3 hf
  show J d Φ 6 [gTw d h0 a0_state a0_kept a0_tape (h1 0) a0_choice a0_traffic x0_refused x0_isKept x0_gone x0_spent, gSh d h1 r1_elements x1_held x1_sizes, gridJ d r1_elements 8 40 x1_elements] 0 0 0 [(0, .ref (h0 0)), (1, .int p1), (2, .int p2), (3, .long p3)] []
  refine J_aload_n hK dX6_set_0 rfl 0 rfl rfl ?_
  refine J_iload_n hK dX6_set_1 rfl 1 rfl rfl ?_
  obtain ⟨v1, e2, hf⟩ := bs hf
  refine J_callV (m' := 3) (ce' := 0) (sl' := 0) (gr := [gridJ d r1_elements 8 40 x1_elements]) (gs' := fun _ => [gTw d h0 a0_state a0_kept a0_tape (h1 0) a0_choice a0_traffic x0_refused x0_isKept x0_gone x0_spent, gSh d h1 r1_elements x1_held x1_sizes, gridJ d r1_elements 8 40 x1_elements]) (st' := fun _ => [.int v1]) (st := []) hK dX6_set_2 cv_RX6_76 iv_yX6_noRow (As := [.int p1]) (kX6_noRow _ d h0 a0_state a0_kept a0_tape a0_choice a0_traffic h1 r1_elements x0_refused x0_isKept x0_gone x0_spent x1_elements x1_held x1_sizes p1 e2) rfl rfl (Nat.le_of_ble_eq_true rfl) (by decide) 0 0 rfl rfl rfl [0, 1] [2] rfl rfl rfl rfl [1, 2, 0] rfl (fun _ => rfl) (fun _ => rfl) rfl rfl rfl (fun _ => rfl) (fun _ => ?_)
  refine J_istore (L' := [(5, .int v1), (0, .ref (h0 0)), (1, .int p1), (2, .int p2), (3, .long p3)]) hK dX6_set_5 rfl (by decide) rfl ?_
  refine J_iload hK dX6_set_7 rfl 0 rfl ?_
  refine J_if_eq (tg := 19) hK dX6_set_9 rfl rfl (fun hc9 => ?_) (fun hc9 => ?_)
  · have hf := ip hc9 hf
    refine J_iload_n hK dX6_set_19 rfl 3 rfl rfl ?_
    refine J_iconst (v := 0) hK dX6_set_20 rfl (by decide) ?_
    refine J_aload_n hK dX6_set_21 rfl 1 rfl rfl ?_
    refine J_get hK fo_RX6_29 dX6_set_22 rfl 0 0 rfl rfl rfl ?_
    refine J_get hK fo_RX6_79 dX6_set_25 rfl 1 0 rfl rfl rfl ?_
    refine J_iload_n hK dX6_set_28 rfl 2 rfl rfl ?_
    obtain ⟨v3, ev3, hf⟩ := bs hf
    refine J_iald hK dX6_set_29 rfl 1 3 rfl rfl ev3 ?_
    refine J_iconst (v := 1) hK dX6_set_30 rfl (by decide) ?_
    refine J_isub hK dX6_set_31 rfl ?_
    obtain ⟨v4, e5, hf⟩ := bs hf
    refine J_callS (m' := 3) (ce' := 0) (sl' := 0) (gr := [gTw d h0 a0_state a0_kept a0_tape (h1 0) a0_choice a0_traffic x0_refused x0_isKept x0_gone x0_spent, gSh d h1 r1_elements x1_held x1_sizes, gridJ d r1_elements 8 40 x1_elements]) (gs' := fun _ => [gTw d h0 a0_state a0_kept a0_tape (h1 0) a0_choice a0_traffic x0_refused x0_isKept x0_gone x0_spent, gSh d h1 r1_elements x1_held x1_sizes, gridJ d r1_elements 8 40 x1_elements]) (st' := fun _ => [.int v4]) (st := []) hK dX6_set_32 cv_RX6_64 ws_yX6_within (As := [.int p2, .int (0), .int (v3 - 1)]) (kX6_within _ d p2 (0) (v3 - 1) e5) rfl rfl (Nat.le_of_ble_eq_true rfl) (by decide) [] [0, 1, 2] rfl rfl rfl rfl [0, 1, 2] rfl (fun _ => rfl) (fun _ => rfl) rfl rfl rfl (fun _ => rfl) (fun _ => ?_)
    refine J_if_ne (tg := 45) hK dX6_set_35 rfl rfl (fun hc35 => ?_) (fun hc35 => ?_)
    · have hf := iq hc35 hf
      refine J_aload_n hK dX6_set_45 rfl 1 rfl rfl ?_
      refine J_get hK fo_RX6_29 dX6_set_46 rfl 0 0 rfl rfl rfl ?_
      refine J_iload_n hK dX6_set_49 rfl 2 rfl rfl ?_
      refine J_iload_n hK dX6_set_50 rfl 3 rfl rfl ?_
      refine J_lload_n hK dX6_set_51 rfl 4 rfl rfl ?_
      obtain ⟨g6, e7, hf⟩ := bs hf
      refine J_callV (m' := 3) (ce' := 0) (sl' := 0) (gr := [gTw d h0 a0_state a0_kept a0_tape (h1 0) a0_choice a0_traffic x0_refused x0_isKept x0_gone x0_spent]) (gs' := fun _ => [gTw d h0 a0_state a0_kept a0_tape (h1 0) a0_choice a0_traffic x0_refused x0_isKept x0_gone x0_spent, gSh d h1 r1_elements x1_held x1_sizes, gridJ d r1_elements 8 40 g6]) (st' := fun _ => []) (st := []) hK dX6_set_52 cv_RX6_82 iv_yX2_put (As := [.int p1, .int p2, .long p3]) (kX2_put _ d h1 r1_elements x1_elements x1_held x1_sizes p1 p2 p3 e7) rfl rfl (Nat.le_of_ble_eq_true rfl) (by decide) 1 0 rfl rfl rfl [1, 2] [0] rfl rfl rfl rfl [0, 1, 2] rfl (fun _ => rfl) (fun _ => rfl) rfl rfl rfl (fun _ => rfl) (fun _ => ?_)
      refine J_iconst (v := 1) hK dX6_set_55 rfl (by decide) ?_
      obtain rfl := Option.some.inj hf
      exact J_iret hK hR dX6_set_56 () rfl (by decide) (by decide)
    · have hf := ip hc35 hf
      refine J_aload_n hK dX6_set_38 rfl 1 rfl rfl ?_
      refine J_bipush (v := (-2)) hK dX6_set_39 rfl (by decide) ?_
      obtain ⟨⟨v8, g9⟩, e10, hf⟩ := bs hf
      have hf := un2 hf
      refine J_callV (m' := 3) (ce' := 0) (sl' := 0) (gr := [gSh d h1 r1_elements x1_held x1_sizes, gridJ d r1_elements 8 40 x1_elements]) (gs' := fun _ => [gTw d h0 a0_state a0_kept a0_tape (h1 0) a0_choice a0_traffic g9 x0_isKept x0_gone x0_spent, gSh d h1 r1_elements x1_held x1_sizes, gridJ d r1_elements 8 40 x1_elements]) (st' := fun _ => [.int v8]) (st := []) hK dX6_set_41 cv_RX6_68 iv_yX6_refuse (As := [.int (-2)]) (kX6_refuse _ d h0 a0_state a0_kept a0_tape (h1 0) a0_choice a0_traffic x0_refused x0_isKept x0_gone x0_spent (-2) e10) rfl rfl (Nat.le_of_ble_eq_true rfl) (by decide) 0 0 rfl rfl rfl [0] [1, 2] rfl rfl rfl rfl [2, 0, 1] rfl (fun _ => rfl) (fun _ => rfl) rfl rfl rfl (fun _ => rfl) (fun _ => ?_)
      obtain rfl := Option.some.inj hf
      exact J_iret hK hR dX6_set_44 () rfl (by decide) (by decide)
  · have hf := iq hc9 hf
    refine J_aload_n hK dX6_set_12 rfl 1 rfl rfl ?_
    refine J_iload hK dX6_set_13 rfl 0 rfl ?_
    obtain ⟨⟨v11, g12⟩, e13, hf⟩ := bs hf
    have hf := un2 hf
    refine J_callV (m' := 3) (ce' := 0) (sl' := 0) (gr := [gSh d h1 r1_elements x1_held x1_sizes, gridJ d r1_elements 8 40 x1_elements]) (gs' := fun _ => [gTw d h0 a0_state a0_kept a0_tape (h1 0) a0_choice a0_traffic g12 x0_isKept x0_gone x0_spent, gSh d h1 r1_elements x1_held x1_sizes, gridJ d r1_elements 8 40 x1_elements]) (st' := fun _ => [.int v11]) (st := []) hK dX6_set_15 cv_RX6_68 iv_yX6_refuse (As := [.int v1]) (kX6_refuse _ d h0 a0_state a0_kept a0_tape (h1 0) a0_choice a0_traffic x0_refused x0_isKept x0_gone x0_spent v1 e13) rfl rfl (Nat.le_of_ble_eq_true rfl) (by decide) 0 0 rfl rfl rfl [0] [1, 2] rfl rfl rfl rfl [2, 0, 1] rfl (fun _ => rfl) (fun _ => rfl) rfl rfl rfl (fun _ => rfl) (fun _ => ?_)
    obtain rfl := Option.some.inj hf
    exact J_iret hK hR dX6_set_18 () rfl (by decide) (by decide)

def fX6_copy (X0 : TwT) (X1 : ShT) (p1 : Int32) (p2 : Int32) (p3 : Int32) (p4 : Int32) (p5 : Int32) : Option (Int32 × (Nat → Int32) × (Nat → Nat → Int64)) :=
  u4 (fun (x0_refused : (Nat → Int32)) (x0_isKept : Int32) (x0_gone : Int32) (x0_spent : Int32) => u3 (fun (x1_elements : (Nat → Nat → Int64)) (x1_held : (Nat → Int32)) (x1_sizes : (Nat → Int32)) => (fX2_has p1).bind (fun v1 => if v1 = 0 then ((fX6_refuse (x0_refused, x0_isKept, x0_gone, x0_spent) (-2)).bind (u2 fun v3 g4 => some (v3, g4, x1_elements))) else ((fX2_has p2).bind (fun v6 => if v6 = 0 then ((fX6_refuse (x0_refused, x0_isKept, x0_gone, x0_spent) (-2)).bind (u2 fun v51 g52 => some (v51, g52, x1_elements))) else ((fX2_hasWork (x1_elements, x1_held, x1_sizes) p1).bind (fun v8 => if v8 = 0 then ((fX2_hasWork (x1_elements, x1_held, x1_sizes) p2).bind (fun v13 => if v13 = 0 then ((fX2_differ (x1_elements, x1_held, x1_sizes) p1 p2).bind (fun v18 => if v18 = 0 then ((rd 8 x1_held p1).bind fun v20 => if v20 = (-1) then ((fX6_refuse (x0_refused, x0_isKept, x0_gone, x0_spent) (-4)).bind (u2 fun v21 g22 => some (v21, g22, x1_elements))) else ((rd 8 x1_held p2).bind fun v24 => if v24 = (-1) then ((fX6_refuse (x0_refused, x0_isKept, x0_gone, x0_spent) (-4)).bind (u2 fun v45 g46 => some (v45, g46, x1_elements))) else ((fX6_within p5 (0) (40)).bind (fun v25 => if v25 = 0 then ((fX6_refuse (x0_refused, x0_isKept, x0_gone, x0_spent) (-2)).bind (u2 fun v27 g28 => some (v27, g28, x1_elements))) else ((rd 8 x1_sizes p1).bind fun v30 => (fX6_within p3 (0) (v30 - p5)).bind (fun v31 => if v31 = 0 then ((fX6_refuse (x0_refused, x0_isKept, x0_gone, x0_spent) (-2)).bind (u2 fun v33 g34 => some (v33, g34, x1_elements))) else ((rd 8 x1_sizes p2).bind fun v36 => (fX6_within p4 (0) (v36 - p5)).bind (fun v37 => if v37 = 0 then ((fX6_refuse (x0_refused, x0_isKept, x0_gone, x0_spent) (-2)).bind (u2 fun v42 g43 => some (v42, g43, x1_elements))) else ((ck p1 8).bind fun q39 => (ck p2 8).bind fun q40 => (cpy 40 (x1_elements q39) 40 (x1_elements q40) p3 p4 p5).bind fun f41 => some (p5, x0_refused, (va_up x1_elements q40 f41))))))))))) else ((fX6_refuse (x0_refused, x0_isKept, x0_gone, x0_spent) (-3)).bind (u2 fun v48 g49 => some (v48, g49, x1_elements))))) else ((fX6_refuse (x0_refused, x0_isKept, x0_gone, x0_spent) (-3)).bind (u2 fun v15 g16 => some (v15, g16, x1_elements))))) else ((fX6_refuse (x0_refused, x0_isKept, x0_gone, x0_spent) (-3)).bind (u2 fun v10 g11 => some (v10, g11, x1_elements))))))))) X1) X0
set_option maxHeartbeats 4000000 in
set_option maxRecDepth 100000 in
theorem kX6_copy (l : Launch) (d : DT) (h0 : Nat → Nat) (a0_state : Nat) (a0_kept : Nat) (a0_tape : Nat) (a0_choice : Nat) (a0_traffic : Nat) (h1 : Nat → Nat) (r1_elements : Nat → Nat) (x0_refused : (Nat → Int32)) (x0_isKept : Int32) (x0_gone : Int32) (x0_spent : Int32) (x1_elements : (Nat → Nat → Int64)) (x1_held : (Nat → Int32)) (x1_sizes : (Nat → Int32)) (p1 : Int32) (p2 : Int32) (p3 : Int32) (p4 : Int32) (p5 : Int32)  {out : Int32 × (Nat → Int32) × (Nat → Nat → Int64)} (hf : fX6_copy (x0_refused, x0_isKept, x0_gone, x0_spent) (x1_elements, x1_held, x1_sizes) p1 p2 p3 p4 p5 = some out) : Ct l d yX6_copy cX6_copy 6 (some .int) { frames := 2, cells := 0, slots := 0, locals := 43 } [.ref (h0 0), .int p1, .int p2, .int p3, .int p4, .int p5] [gTw d h0 a0_state a0_kept a0_tape (h1 0) a0_choice a0_traffic x0_refused x0_isKept x0_gone x0_spent, gSh d h1 r1_elements x1_held x1_sizes, gridJ d r1_elements 8 40 x1_elements] (fun _ : Unit => (some (.int out.1), [gTw d h0 a0_state a0_kept a0_tape (h1 0) a0_choice a0_traffic (out.2.1) x0_isKept x0_gone x0_spent, gSh d h1 r1_elements x1_held x1_sizes, gridJ d r1_elements 8 40 (out.2.2)])) := by
  refine Ct.of (by decide) (Nat.le_of_ble_eq_true rfl) ?_
  intro Φ hl hK hR
  subst hl
  have hK : Ok d Φ RX6 "copy" cX6_copy 6 (some .int) { frames := 2, cells := 0, slots := 0, locals := 43 } := hK
  unfold fX6_copy at hf
  have hf := un4 hf
  have hf := un3 hf
  show J d Φ 6 [gTw d h0 a0_state a0_kept a0_tape (h1 0) a0_choice a0_traffic x0_refused x0_isKept x0_gone x0_spent, gSh d h1 r1_elements x1_held x1_sizes, gridJ d r1_elements 8 40 x1_elements] 0 0 0 [(0, .ref (h0 0)), (1, .int p1), (2, .int p2), (3, .int p3), (4, .int p4), (5, .int p5)] []
  refine J_iload_n hK dX6_copy_0 rfl 1 rfl rfl ?_
  obtain ⟨v1, e2, hf⟩ := bs hf
  refine J_callS (m' := 3) (ce' := 0) (sl' := 0) (gr := [gTw d h0 a0_state a0_kept a0_tape (h1 0) a0_choice a0_traffic x0_refused x0_isKept x0_gone x0_spent, gSh d h1 r1_elements x1_held x1_sizes, gridJ d r1_elements 8 40 x1_elements]) (gs' := fun _ => [gTw d h0 a0_state a0_kept a0_tape (h1 0) a0_choice a0_traffic x0_refused x0_isKept x0_gone x0_spent, gSh d h1 r1_elements x1_held x1_sizes, gridJ d r1_elements 8 40 x1_elements]) (st' := fun _ => [.int v1]) (st := []) hK dX6_copy_1 cv_RX6_60 ws_yX2_has (As := [.int p1]) (kX2_has _ d p1 e2) rfl rfl (Nat.le_of_ble_eq_true rfl) (by decide) [] [0, 1, 2] rfl rfl rfl rfl [0, 1, 2] rfl (fun _ => rfl) (fun _ => rfl) rfl rfl rfl (fun _ => rfl) (fun _ => ?_)
  refine J_if_eq (tg := 14) hK dX6_copy_4 rfl rfl (fun hc4 => ?_) (fun hc4 => ?_)
  · have hf := ip hc4 hf
    refine J_aload_n hK dX6_copy_14 rfl 0 rfl rfl ?_
    refine J_bipush (v := (-2)) hK dX6_copy_15 rfl (by decide) ?_
    obtain ⟨⟨v3, g4⟩, e5, hf⟩ := bs hf
    have hf := un2 hf
    refine J_callV (m' := 3) (ce' := 0) (sl' := 0) (gr := [gSh d h1 r1_elements x1_held x1_sizes, gridJ d r1_elements 8 40 x1_elements]) (gs' := fun _ => [gTw d h0 a0_state a0_kept a0_tape (h1 0) a0_choice a0_traffic g4 x0_isKept x0_gone x0_spent, gSh d h1 r1_elements x1_held x1_sizes, gridJ d r1_elements 8 40 x1_elements]) (st' := fun _ => [.int v3]) (st := []) hK dX6_copy_17 cv_RX6_68 iv_yX6_refuse (As := [.int (-2)]) (kX6_refuse _ d h0 a0_state a0_kept a0_tape (h1 0) a0_choice a0_traffic x0_refused x0_isKept x0_gone x0_spent (-2) e5) rfl rfl (Nat.le_of_ble_eq_true rfl) (by decide) 0 0 rfl rfl rfl [0] [1, 2] rfl rfl rfl rfl [2, 0, 1] rfl (fun _ => rfl) (fun _ => rfl) rfl rfl rfl (fun _ => rfl) (fun _ => ?_)
    obtain rfl := Option.some.inj hf
    exact J_iret hK hR dX6_copy_20 () rfl (by decide) (by decide)
  · have hf := iq hc4 hf
    refine J_iload_n hK dX6_copy_7 rfl 2 rfl rfl ?_
    obtain ⟨v6, e7, hf⟩ := bs hf
    refine J_callS (m' := 3) (ce' := 0) (sl' := 0) (gr := [gTw d h0 a0_state a0_kept a0_tape (h1 0) a0_choice a0_traffic x0_refused x0_isKept x0_gone x0_spent, gSh d h1 r1_elements x1_held x1_sizes, gridJ d r1_elements 8 40 x1_elements]) (gs' := fun _ => [gTw d h0 a0_state a0_kept a0_tape (h1 0) a0_choice a0_traffic x0_refused x0_isKept x0_gone x0_spent, gSh d h1 r1_elements x1_held x1_sizes, gridJ d r1_elements 8 40 x1_elements]) (st' := fun _ => [.int v6]) (st := []) hK dX6_copy_8 cv_RX6_60 ws_yX2_has (As := [.int p2]) (kX2_has _ d p2 e7) rfl rfl (Nat.le_of_ble_eq_true rfl) (by decide) [] [0, 1, 2] rfl rfl rfl rfl [0, 1, 2] rfl (fun _ => rfl) (fun _ => rfl) rfl rfl rfl (fun _ => rfl) (fun _ => ?_)
    refine J_if_ne (tg := 21) hK dX6_copy_11 rfl rfl (fun hc11 => ?_) (fun hc11 => ?_)
    · have hf := iq hc11 hf
      refine J_aload_n hK dX6_copy_21 rfl 0 rfl rfl ?_
      refine J_get hK fo_RX6_29 dX6_copy_22 rfl 0 0 rfl rfl rfl ?_
      refine J_iload_n hK dX6_copy_25 rfl 1 rfl rfl ?_
      obtain ⟨v8, e9, hf⟩ := bs hf
      refine J_callV (m' := 3) (ce' := 0) (sl' := 0) (gr := [gTw d h0 a0_state a0_kept a0_tape (h1 0) a0_choice a0_traffic x0_refused x0_isKept x0_gone x0_spent, gridJ d r1_elements 8 40 x1_elements]) (gs' := fun _ => [gTw d h0 a0_state a0_kept a0_tape (h1 0) a0_choice a0_traffic x0_refused x0_isKept x0_gone x0_spent, gSh d h1 r1_elements x1_held x1_sizes, gridJ d r1_elements 8 40 x1_elements]) (st' := fun _ => [.int v8]) (st := []) hK dX6_copy_26 cv_RX6_86 iv_yX2_hasWork (As := [.int p1]) (kX2_hasWork _ d h1 r1_elements x1_elements x1_held x1_sizes p1 e9) rfl rfl (Nat.le_of_ble_eq_true rfl) (by decide) 1 0 rfl rfl rfl [1] [0, 2] rfl rfl rfl rfl [0, 2, 1] rfl (fun _ => rfl) (fun _ => rfl) rfl rfl rfl (fun _ => rfl) (fun _ => ?_)
      refine J_if_ne (tg := 55) hK dX6_copy_29 rfl rfl (fun hc29 => ?_) (fun hc29 => ?_)
      · have hf := iq hc29 hf
        refine J_aload_n hK dX6_copy_55 rfl 0 rfl rfl ?_
        refine J_bipush (v := (-3)) hK dX6_copy_56 rfl (by decide) ?_
        obtain ⟨⟨v10, g11⟩, e12, hf⟩ := bs hf
        have hf := un2 hf
        refine J_callV (m' := 3) (ce' := 0) (sl' := 0) (gr := [gSh d h1 r1_elements x1_held x1_sizes, gridJ d r1_elements 8 40 x1_elements]) (gs' := fun _ => [gTw d h0 a0_state a0_kept a0_tape (h1 0) a0_choice a0_traffic g11 x0_isKept x0_gone x0_spent, gSh d h1 r1_elements x1_held x1_sizes, gridJ d r1_elements 8 40 x1_elements]) (st' := fun _ => [.int v10]) (st := []) hK dX6_copy_58 cv_RX6_68 iv_yX6_refuse (As := [.int (-3)]) (kX6_refuse _ d h0 a0_state a0_kept a0_tape (h1 0) a0_choice a0_traffic x0_refused x0_isKept x0_gone x0_spent (-3) e12) rfl rfl (Nat.le_of_ble_eq_true rfl) (by decide) 0 0 rfl rfl rfl [0] [1, 2] rfl rfl rfl rfl [2, 0, 1] rfl (fun _ => rfl) (fun _ => rfl) rfl rfl rfl (fun _ => rfl) (fun _ => ?_)
        obtain rfl := Option.some.inj hf
        exact J_iret hK hR dX6_copy_61 () rfl (by decide) (by decide)
      · have hf := ip hc29 hf
        refine J_aload_n hK dX6_copy_32 rfl 0 rfl rfl ?_
        refine J_get hK fo_RX6_29 dX6_copy_33 rfl 0 0 rfl rfl rfl ?_
        refine J_iload_n hK dX6_copy_36 rfl 2 rfl rfl ?_
        obtain ⟨v13, e14, hf⟩ := bs hf
        refine J_callV (m' := 3) (ce' := 0) (sl' := 0) (gr := [gTw d h0 a0_state a0_kept a0_tape (h1 0) a0_choice a0_traffic x0_refused x0_isKept x0_gone x0_spent, gridJ d r1_elements 8 40 x1_elements]) (gs' := fun _ => [gTw d h0 a0_state a0_kept a0_tape (h1 0) a0_choice a0_traffic x0_refused x0_isKept x0_gone x0_spent, gSh d h1 r1_elements x1_held x1_sizes, gridJ d r1_elements 8 40 x1_elements]) (st' := fun _ => [.int v13]) (st := []) hK dX6_copy_37 cv_RX6_86 iv_yX2_hasWork (As := [.int p2]) (kX2_hasWork _ d h1 r1_elements x1_elements x1_held x1_sizes p2 e14) rfl rfl (Nat.le_of_ble_eq_true rfl) (by decide) 1 0 rfl rfl rfl [1] [0, 2] rfl rfl rfl rfl [0, 2, 1] rfl (fun _ => rfl) (fun _ => rfl) rfl rfl rfl (fun _ => rfl) (fun _ => ?_)
        refine J_if_ne (tg := 55) hK dX6_copy_40 rfl rfl (fun hc40 => ?_) (fun hc40 => ?_)
        · have hf := iq hc40 hf
          refine J_aload_n hK dX6_copy_55 rfl 0 rfl rfl ?_
          refine J_bipush (v := (-3)) hK dX6_copy_56 rfl (by decide) ?_
          obtain ⟨⟨v15, g16⟩, e17, hf⟩ := bs hf
          have hf := un2 hf
          refine J_callV (m' := 3) (ce' := 0) (sl' := 0) (gr := [gSh d h1 r1_elements x1_held x1_sizes, gridJ d r1_elements 8 40 x1_elements]) (gs' := fun _ => [gTw d h0 a0_state a0_kept a0_tape (h1 0) a0_choice a0_traffic g16 x0_isKept x0_gone x0_spent, gSh d h1 r1_elements x1_held x1_sizes, gridJ d r1_elements 8 40 x1_elements]) (st' := fun _ => [.int v15]) (st := []) hK dX6_copy_58 cv_RX6_68 iv_yX6_refuse (As := [.int (-3)]) (kX6_refuse _ d h0 a0_state a0_kept a0_tape (h1 0) a0_choice a0_traffic x0_refused x0_isKept x0_gone x0_spent (-3) e17) rfl rfl (Nat.le_of_ble_eq_true rfl) (by decide) 0 0 rfl rfl rfl [0] [1, 2] rfl rfl rfl rfl [2, 0, 1] rfl (fun _ => rfl) (fun _ => rfl) rfl rfl rfl (fun _ => rfl) (fun _ => ?_)
          obtain rfl := Option.some.inj hf
          exact J_iret hK hR dX6_copy_61 () rfl (by decide) (by decide)
        · have hf := ip hc40 hf
          refine J_aload_n hK dX6_copy_43 rfl 0 rfl rfl ?_
          refine J_get hK fo_RX6_29 dX6_copy_44 rfl 0 0 rfl rfl rfl ?_
          refine J_iload_n hK dX6_copy_47 rfl 1 rfl rfl ?_
          refine J_iload_n hK dX6_copy_48 rfl 2 rfl rfl ?_
          obtain ⟨v18, e19, hf⟩ := bs hf
          refine J_callV (m' := 3) (ce' := 0) (sl' := 0) (gr := [gTw d h0 a0_state a0_kept a0_tape (h1 0) a0_choice a0_traffic x0_refused x0_isKept x0_gone x0_spent, gridJ d r1_elements 8 40 x1_elements]) (gs' := fun _ => [gTw d h0 a0_state a0_kept a0_tape (h1 0) a0_choice a0_traffic x0_refused x0_isKept x0_gone x0_spent, gSh d h1 r1_elements x1_held x1_sizes, gridJ d r1_elements 8 40 x1_elements]) (st' := fun _ => [.int v18]) (st := []) hK dX6_copy_49 cv_RX6_89 iv_yX2_differ (As := [.int p1, .int p2]) (kX2_differ _ d h1 r1_elements x1_elements x1_held x1_sizes p1 p2 e19) rfl rfl (Nat.le_of_ble_eq_true rfl) (by decide) 1 0 rfl rfl rfl [1] [0, 2] rfl rfl rfl rfl [0, 2, 1] rfl (fun _ => rfl) (fun _ => rfl) rfl rfl rfl (fun _ => rfl) (fun _ => ?_)
          refine J_if_eq (tg := 62) hK dX6_copy_52 rfl rfl (fun hc52 => ?_) (fun hc52 => ?_)
          · have hf := ip hc52 hf
            refine J_aload_n hK dX6_copy_62 rfl 0 rfl rfl ?_
            refine J_get hK fo_RX6_29 dX6_copy_63 rfl 0 0 rfl rfl rfl ?_
            refine J_get hK fo_RX6_93 dX6_copy_66 rfl 1 0 rfl rfl rfl ?_
            refine J_iload_n hK dX6_copy_69 rfl 1 rfl rfl ?_
            obtain ⟨v20, ev20, hf⟩ := bs hf
            refine J_iald hK dX6_copy_70 rfl 1 2 rfl rfl ev20 ?_
            refine J_iconst (v := (-1)) hK dX6_copy_71 rfl (by decide) ?_
            refine J_icmp_eq (tg := 88) hK dX6_copy_72 rfl rfl (fun hc72 => ?_) (fun hc72 => ?_)
            · have hf := ip hc72 hf
              refine J_aload_n hK dX6_copy_88 rfl 0 rfl rfl ?_
              refine J_bipush (v := (-4)) hK dX6_copy_89 rfl (by decide) ?_
              obtain ⟨⟨v21, g22⟩, e23, hf⟩ := bs hf
              have hf := un2 hf
              refine J_callV (m' := 3) (ce' := 0) (sl' := 0) (gr := [gSh d h1 r1_elements x1_held x1_sizes, gridJ d r1_elements 8 40 x1_elements]) (gs' := fun _ => [gTw d h0 a0_state a0_kept a0_tape (h1 0) a0_choice a0_traffic g22 x0_isKept x0_gone x0_spent, gSh d h1 r1_elements x1_held x1_sizes, gridJ d r1_elements 8 40 x1_elements]) (st' := fun _ => [.int v21]) (st := []) hK dX6_copy_91 cv_RX6_68 iv_yX6_refuse (As := [.int (-4)]) (kX6_refuse _ d h0 a0_state a0_kept a0_tape (h1 0) a0_choice a0_traffic x0_refused x0_isKept x0_gone x0_spent (-4) e23) rfl rfl (Nat.le_of_ble_eq_true rfl) (by decide) 0 0 rfl rfl rfl [0] [1, 2] rfl rfl rfl rfl [2, 0, 1] rfl (fun _ => rfl) (fun _ => rfl) rfl rfl rfl (fun _ => rfl) (fun _ => ?_)
              obtain rfl := Option.some.inj hf
              exact J_iret hK hR dX6_copy_94 () rfl (by decide) (by decide)
            · have hf := iq hc72 hf
              refine J_aload_n hK dX6_copy_75 rfl 0 rfl rfl ?_
              refine J_get hK fo_RX6_29 dX6_copy_76 rfl 0 0 rfl rfl rfl ?_
              refine J_get hK fo_RX6_93 dX6_copy_79 rfl 1 0 rfl rfl rfl ?_
              refine J_iload_n hK dX6_copy_82 rfl 2 rfl rfl ?_
              obtain ⟨v24, ev24, hf⟩ := bs hf
              refine J_iald hK dX6_copy_83 rfl 1 2 rfl rfl ev24 ?_
              refine J_iconst (v := (-1)) hK dX6_copy_84 rfl (by decide) ?_
              refine J_icmp_ne (tg := 95) hK dX6_copy_85 rfl rfl (fun hc85 => ?_) (fun hc85 => ?_)
              · have hf := iq hc85 hf
                refine J_iload hK dX6_copy_95 rfl 5 rfl ?_
                refine J_iconst (v := 0) hK dX6_copy_97 rfl (by decide) ?_
                refine J_bipush (v := 40) hK dX6_copy_98 rfl (by decide) ?_
                obtain ⟨v25, e26, hf⟩ := bs hf
                refine J_callS (m' := 3) (ce' := 0) (sl' := 0) (gr := [gTw d h0 a0_state a0_kept a0_tape (h1 0) a0_choice a0_traffic x0_refused x0_isKept x0_gone x0_spent, gSh d h1 r1_elements x1_held x1_sizes, gridJ d r1_elements 8 40 x1_elements]) (gs' := fun _ => [gTw d h0 a0_state a0_kept a0_tape (h1 0) a0_choice a0_traffic x0_refused x0_isKept x0_gone x0_spent, gSh d h1 r1_elements x1_held x1_sizes, gridJ d r1_elements 8 40 x1_elements]) (st' := fun _ => [.int v25]) (st := []) hK dX6_copy_100 cv_RX6_64 ws_yX6_within (As := [.int p5, .int (0), .int (40)]) (kX6_within _ d p5 (0) (40) e26) rfl rfl (Nat.le_of_ble_eq_true rfl) (by decide) [] [0, 1, 2] rfl rfl rfl rfl [0, 1, 2] rfl (fun _ => rfl) (fun _ => rfl) rfl rfl rfl (fun _ => rfl) (fun _ => ?_)
                refine J_if_eq (tg := 147) hK dX6_copy_103 rfl rfl (fun hc103 => ?_) (fun hc103 => ?_)
                · have hf := ip hc103 hf
                  refine J_aload_n hK dX6_copy_147 rfl 0 rfl rfl ?_
                  refine J_bipush (v := (-2)) hK dX6_copy_148 rfl (by decide) ?_
                  obtain ⟨⟨v27, g28⟩, e29, hf⟩ := bs hf
                  have hf := un2 hf
                  refine J_callV (m' := 3) (ce' := 0) (sl' := 0) (gr := [gSh d h1 r1_elements x1_held x1_sizes, gridJ d r1_elements 8 40 x1_elements]) (gs' := fun _ => [gTw d h0 a0_state a0_kept a0_tape (h1 0) a0_choice a0_traffic g28 x0_isKept x0_gone x0_spent, gSh d h1 r1_elements x1_held x1_sizes, gridJ d r1_elements 8 40 x1_elements]) (st' := fun _ => [.int v27]) (st := []) hK dX6_copy_150 cv_RX6_68 iv_yX6_refuse (As := [.int (-2)]) (kX6_refuse _ d h0 a0_state a0_kept a0_tape (h1 0) a0_choice a0_traffic x0_refused x0_isKept x0_gone x0_spent (-2) e29) rfl rfl (Nat.le_of_ble_eq_true rfl) (by decide) 0 0 rfl rfl rfl [0] [1, 2] rfl rfl rfl rfl [2, 0, 1] rfl (fun _ => rfl) (fun _ => rfl) rfl rfl rfl (fun _ => rfl) (fun _ => ?_)
                  obtain rfl := Option.some.inj hf
                  exact J_iret hK hR dX6_copy_153 () rfl (by decide) (by decide)
                · have hf := iq hc103 hf
                  refine J_iload_n hK dX6_copy_106 rfl 3 rfl rfl ?_
                  refine J_iconst (v := 0) hK dX6_copy_107 rfl (by decide) ?_
                  refine J_aload_n hK dX6_copy_108 rfl 0 rfl rfl ?_
                  refine J_get hK fo_RX6_29 dX6_copy_109 rfl 0 0 rfl rfl rfl ?_
                  refine J_get hK fo_RX6_79 dX6_copy_112 rfl 1 0 rfl rfl rfl ?_
                  refine J_iload_n hK dX6_copy_115 rfl 1 rfl rfl ?_
                  obtain ⟨v30, ev30, hf⟩ := bs hf
                  refine J_iald hK dX6_copy_116 rfl 1 3 rfl rfl ev30 ?_
                  refine J_iload hK dX6_copy_117 rfl 5 rfl ?_
                  refine J_isub hK dX6_copy_119 rfl ?_
                  obtain ⟨v31, e32, hf⟩ := bs hf
                  refine J_callS (m' := 3) (ce' := 0) (sl' := 0) (gr := [gTw d h0 a0_state a0_kept a0_tape (h1 0) a0_choice a0_traffic x0_refused x0_isKept x0_gone x0_spent, gSh d h1 r1_elements x1_held x1_sizes, gridJ d r1_elements 8 40 x1_elements]) (gs' := fun _ => [gTw d h0 a0_state a0_kept a0_tape (h1 0) a0_choice a0_traffic x0_refused x0_isKept x0_gone x0_spent, gSh d h1 r1_elements x1_held x1_sizes, gridJ d r1_elements 8 40 x1_elements]) (st' := fun _ => [.int v31]) (st := []) hK dX6_copy_120 cv_RX6_64 ws_yX6_within (As := [.int p3, .int (0), .int (v30 - p5)]) (kX6_within _ d p3 (0) (v30 - p5) e32) rfl rfl (Nat.le_of_ble_eq_true rfl) (by decide) [] [0, 1, 2] rfl rfl rfl rfl [0, 1, 2] rfl (fun _ => rfl) (fun _ => rfl) rfl rfl rfl (fun _ => rfl) (fun _ => ?_)
                  refine J_if_eq (tg := 147) hK dX6_copy_123 rfl rfl (fun hc123 => ?_) (fun hc123 => ?_)
                  · have hf := ip hc123 hf
                    refine J_aload_n hK dX6_copy_147 rfl 0 rfl rfl ?_
                    refine J_bipush (v := (-2)) hK dX6_copy_148 rfl (by decide) ?_
                    obtain ⟨⟨v33, g34⟩, e35, hf⟩ := bs hf
                    have hf := un2 hf
                    refine J_callV (m' := 3) (ce' := 0) (sl' := 0) (gr := [gSh d h1 r1_elements x1_held x1_sizes, gridJ d r1_elements 8 40 x1_elements]) (gs' := fun _ => [gTw d h0 a0_state a0_kept a0_tape (h1 0) a0_choice a0_traffic g34 x0_isKept x0_gone x0_spent, gSh d h1 r1_elements x1_held x1_sizes, gridJ d r1_elements 8 40 x1_elements]) (st' := fun _ => [.int v33]) (st := []) hK dX6_copy_150 cv_RX6_68 iv_yX6_refuse (As := [.int (-2)]) (kX6_refuse _ d h0 a0_state a0_kept a0_tape (h1 0) a0_choice a0_traffic x0_refused x0_isKept x0_gone x0_spent (-2) e35) rfl rfl (Nat.le_of_ble_eq_true rfl) (by decide) 0 0 rfl rfl rfl [0] [1, 2] rfl rfl rfl rfl [2, 0, 1] rfl (fun _ => rfl) (fun _ => rfl) rfl rfl rfl (fun _ => rfl) (fun _ => ?_)
                    obtain rfl := Option.some.inj hf
                    exact J_iret hK hR dX6_copy_153 () rfl (by decide) (by decide)
                  · have hf := iq hc123 hf
                    refine J_iload hK dX6_copy_126 rfl 4 rfl ?_
                    refine J_iconst (v := 0) hK dX6_copy_128 rfl (by decide) ?_
                    refine J_aload_n hK dX6_copy_129 rfl 0 rfl rfl ?_
                    refine J_get hK fo_RX6_29 dX6_copy_130 rfl 0 0 rfl rfl rfl ?_
                    refine J_get hK fo_RX6_79 dX6_copy_133 rfl 1 0 rfl rfl rfl ?_
                    refine J_iload_n hK dX6_copy_136 rfl 2 rfl rfl ?_
                    obtain ⟨v36, ev36, hf⟩ := bs hf
                    refine J_iald hK dX6_copy_137 rfl 1 3 rfl rfl ev36 ?_
                    refine J_iload hK dX6_copy_138 rfl 5 rfl ?_
                    refine J_isub hK dX6_copy_140 rfl ?_
                    obtain ⟨v37, e38, hf⟩ := bs hf
                    refine J_callS (m' := 3) (ce' := 0) (sl' := 0) (gr := [gTw d h0 a0_state a0_kept a0_tape (h1 0) a0_choice a0_traffic x0_refused x0_isKept x0_gone x0_spent, gSh d h1 r1_elements x1_held x1_sizes, gridJ d r1_elements 8 40 x1_elements]) (gs' := fun _ => [gTw d h0 a0_state a0_kept a0_tape (h1 0) a0_choice a0_traffic x0_refused x0_isKept x0_gone x0_spent, gSh d h1 r1_elements x1_held x1_sizes, gridJ d r1_elements 8 40 x1_elements]) (st' := fun _ => [.int v37]) (st := []) hK dX6_copy_141 cv_RX6_64 ws_yX6_within (As := [.int p4, .int (0), .int (v36 - p5)]) (kX6_within _ d p4 (0) (v36 - p5) e38) rfl rfl (Nat.le_of_ble_eq_true rfl) (by decide) [] [0, 1, 2] rfl rfl rfl rfl [0, 1, 2] rfl (fun _ => rfl) (fun _ => rfl) rfl rfl rfl (fun _ => rfl) (fun _ => ?_)
                    refine J_if_ne (tg := 154) hK dX6_copy_144 rfl rfl (fun hc144 => ?_) (fun hc144 => ?_)
                    · have hf := iq hc144 hf
                      refine J_aload_n hK dX6_copy_154 rfl 0 rfl rfl ?_
                      refine J_get hK fo_RX6_29 dX6_copy_155 rfl 0 0 rfl rfl rfl ?_
                      refine J_get hK fo_RX6_96 dX6_copy_158 rfl 1 0 rfl rfl rfl ?_
                      refine J_iload_n hK dX6_copy_161 rfl 1 rfl rfl ?_
                      obtain ⟨q39, eq39, hf⟩ := bs hf
                      refine J_aald hK dX6_copy_162 rfl 1 1 rfl rfl rfl eq39 ?_
                      refine J_iload_n hK dX6_copy_163 rfl 3 rfl rfl ?_
                      refine J_aload_n hK dX6_copy_164 rfl 0 rfl rfl ?_
                      refine J_get hK fo_RX6_29 dX6_copy_165 rfl 0 0 rfl rfl rfl ?_
                      refine J_get hK fo_RX6_96 dX6_copy_168 rfl 1 0 rfl rfl rfl ?_
                      refine J_iload_n hK dX6_copy_171 rfl 2 rfl rfl ?_
                      obtain ⟨q40, eq40, hf⟩ := bs hf
                      refine J_aald hK dX6_copy_172 rfl 1 1 rfl rfl rfl eq40 ?_
                      refine J_iload hK dX6_copy_173 rfl 4 rfl ?_
                      refine J_iload hK dX6_copy_175 rfl 5 rfl ?_
                      obtain ⟨f41, ef41, hf⟩ := bs hf
                      refine J_cpyJ (g' := gridJ d r1_elements 8 40 (va_up x1_elements q40 f41)) (gs' := [gTw d h0 a0_state a0_kept a0_tape (h1 0) a0_choice a0_traffic x0_refused x0_isKept x0_gone x0_spent, gSh d h1 r1_elements x1_held x1_sizes, gridJ d r1_elements 8 40 (va_up x1_elements q40 f41)]) hK dX6_copy_177 rfl cc_RX6_100 2 q39 2 q40 rfl rfl (gridJ_at (ck_ok eq39).2.2) (gridJ_at (ck_ok eq40).2.2) ef41 (by decide) (Nat.le_of_ble_eq_true rfl) gridJ_set rfl ?_
                      refine J_iload hK dX6_copy_180 rfl 5 rfl ?_
                      obtain rfl := Option.some.inj hf
                      exact J_iret hK hR dX6_copy_182 () rfl (by decide) (by decide)
                    · have hf := ip hc144 hf
                      refine J_aload_n hK dX6_copy_147 rfl 0 rfl rfl ?_
                      refine J_bipush (v := (-2)) hK dX6_copy_148 rfl (by decide) ?_
                      obtain ⟨⟨v42, g43⟩, e44, hf⟩ := bs hf
                      have hf := un2 hf
                      refine J_callV (m' := 3) (ce' := 0) (sl' := 0) (gr := [gSh d h1 r1_elements x1_held x1_sizes, gridJ d r1_elements 8 40 x1_elements]) (gs' := fun _ => [gTw d h0 a0_state a0_kept a0_tape (h1 0) a0_choice a0_traffic g43 x0_isKept x0_gone x0_spent, gSh d h1 r1_elements x1_held x1_sizes, gridJ d r1_elements 8 40 x1_elements]) (st' := fun _ => [.int v42]) (st := []) hK dX6_copy_150 cv_RX6_68 iv_yX6_refuse (As := [.int (-2)]) (kX6_refuse _ d h0 a0_state a0_kept a0_tape (h1 0) a0_choice a0_traffic x0_refused x0_isKept x0_gone x0_spent (-2) e44) rfl rfl (Nat.le_of_ble_eq_true rfl) (by decide) 0 0 rfl rfl rfl [0] [1, 2] rfl rfl rfl rfl [2, 0, 1] rfl (fun _ => rfl) (fun _ => rfl) rfl rfl rfl (fun _ => rfl) (fun _ => ?_)
                      obtain rfl := Option.some.inj hf
                      exact J_iret hK hR dX6_copy_153 () rfl (by decide) (by decide)
              · have hf := ip hc85 hf
                refine J_aload_n hK dX6_copy_88 rfl 0 rfl rfl ?_
                refine J_bipush (v := (-4)) hK dX6_copy_89 rfl (by decide) ?_
                obtain ⟨⟨v45, g46⟩, e47, hf⟩ := bs hf
                have hf := un2 hf
                refine J_callV (m' := 3) (ce' := 0) (sl' := 0) (gr := [gSh d h1 r1_elements x1_held x1_sizes, gridJ d r1_elements 8 40 x1_elements]) (gs' := fun _ => [gTw d h0 a0_state a0_kept a0_tape (h1 0) a0_choice a0_traffic g46 x0_isKept x0_gone x0_spent, gSh d h1 r1_elements x1_held x1_sizes, gridJ d r1_elements 8 40 x1_elements]) (st' := fun _ => [.int v45]) (st := []) hK dX6_copy_91 cv_RX6_68 iv_yX6_refuse (As := [.int (-4)]) (kX6_refuse _ d h0 a0_state a0_kept a0_tape (h1 0) a0_choice a0_traffic x0_refused x0_isKept x0_gone x0_spent (-4) e47) rfl rfl (Nat.le_of_ble_eq_true rfl) (by decide) 0 0 rfl rfl rfl [0] [1, 2] rfl rfl rfl rfl [2, 0, 1] rfl (fun _ => rfl) (fun _ => rfl) rfl rfl rfl (fun _ => rfl) (fun _ => ?_)
                obtain rfl := Option.some.inj hf
                exact J_iret hK hR dX6_copy_94 () rfl (by decide) (by decide)
          · have hf := iq hc52 hf
            refine J_aload_n hK dX6_copy_55 rfl 0 rfl rfl ?_
            refine J_bipush (v := (-3)) hK dX6_copy_56 rfl (by decide) ?_
            obtain ⟨⟨v48, g49⟩, e50, hf⟩ := bs hf
            have hf := un2 hf
            refine J_callV (m' := 3) (ce' := 0) (sl' := 0) (gr := [gSh d h1 r1_elements x1_held x1_sizes, gridJ d r1_elements 8 40 x1_elements]) (gs' := fun _ => [gTw d h0 a0_state a0_kept a0_tape (h1 0) a0_choice a0_traffic g49 x0_isKept x0_gone x0_spent, gSh d h1 r1_elements x1_held x1_sizes, gridJ d r1_elements 8 40 x1_elements]) (st' := fun _ => [.int v48]) (st := []) hK dX6_copy_58 cv_RX6_68 iv_yX6_refuse (As := [.int (-3)]) (kX6_refuse _ d h0 a0_state a0_kept a0_tape (h1 0) a0_choice a0_traffic x0_refused x0_isKept x0_gone x0_spent (-3) e50) rfl rfl (Nat.le_of_ble_eq_true rfl) (by decide) 0 0 rfl rfl rfl [0] [1, 2] rfl rfl rfl rfl [2, 0, 1] rfl (fun _ => rfl) (fun _ => rfl) rfl rfl rfl (fun _ => rfl) (fun _ => ?_)
            obtain rfl := Option.some.inj hf
            exact J_iret hK hR dX6_copy_61 () rfl (by decide) (by decide)
    · have hf := ip hc11 hf
      refine J_aload_n hK dX6_copy_14 rfl 0 rfl rfl ?_
      refine J_bipush (v := (-2)) hK dX6_copy_15 rfl (by decide) ?_
      obtain ⟨⟨v51, g52⟩, e53, hf⟩ := bs hf
      have hf := un2 hf
      refine J_callV (m' := 3) (ce' := 0) (sl' := 0) (gr := [gSh d h1 r1_elements x1_held x1_sizes, gridJ d r1_elements 8 40 x1_elements]) (gs' := fun _ => [gTw d h0 a0_state a0_kept a0_tape (h1 0) a0_choice a0_traffic g52 x0_isKept x0_gone x0_spent, gSh d h1 r1_elements x1_held x1_sizes, gridJ d r1_elements 8 40 x1_elements]) (st' := fun _ => [.int v51]) (st := []) hK dX6_copy_17 cv_RX6_68 iv_yX6_refuse (As := [.int (-2)]) (kX6_refuse _ d h0 a0_state a0_kept a0_tape (h1 0) a0_choice a0_traffic x0_refused x0_isKept x0_gone x0_spent (-2) e53) rfl rfl (Nat.le_of_ble_eq_true rfl) (by decide) 0 0 rfl rfl rfl [0] [1, 2] rfl rfl rfl rfl [2, 0, 1] rfl (fun _ => rfl) (fun _ => rfl) rfl rfl rfl (fun _ => rfl) (fun _ => ?_)
      obtain rfl := Option.some.inj hf
      exact J_iret hK hR dX6_copy_20 () rfl (by decide) (by decide)

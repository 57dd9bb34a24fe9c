def fX0_wrongAt_s6 (m2 : Nat) (p2 : (Nat → Int64)) (p3 : Int32) (x0_lineCount : Int32) (x0_goodsCount : Int32) (x0_workCount : Int32) (x0_years : Int32) (x0_lines : (Nat → Int32)) (x0_goods : (Nat → Int32)) (x0_works : (Nat → Int32)) (x0_change : (Nat → Int32)) (x0_coin : (Nat → Int32)) (x0_knownFree : (Nat → Int32)) (x0_isKnown : Int32) (z2 : Int32) (z3 : Int32) : Option ((Int32 × Int32) ⊕ (((Int32) ⊕ (Unit)))) :=
  if p3 ≤ z3 then (some (.inr (.inr ()))) else (if (Int32.ofNat m2) ≤ z3 then (some (.inr (.inr ()))) else ((rd m2 p2 z3).bind fun v6 => (fX0_workTold (x0_lineCount, x0_goodsCount, x0_workCount, x0_years, x0_lines, x0_goods, x0_works, x0_change, x0_coin, x0_knownFree, x0_isKnown) v6).bind (fun v7 => if v7 = (-1) then (some (.inl (z2, (z3 + 1)))) else (if ((z2 >>> (v7 &&& 31)) &&& 1) = 0 then ((some (z2 ||| ((1 : Int32) <<< (v7 &&& 31)))).bind fun t9 => some (.inl (t9, (z3 + 1)))) else (some (.inr (.inl z3)))))))
def fX0_wrongAt (n : Nat) (X0 : LdT) (m2 : Nat) (p2 : (Nat → Int64)) (p3 : Int32) : Option (Int32) :=
  u11 (fun (x0_lineCount : Int32) (x0_goodsCount : Int32) (x0_workCount : Int32) (x0_years : Int32) (x0_lines : (Nat → Int32)) (x0_goods : (Nat → Int32)) (x0_works : (Nat → Int32)) (x0_change : (Nat → Int32)) (x0_coin : (Nat → Int32)) (x0_knownFree : (Nat → Int32)) (x0_isKnown : Int32) => (lp (u2 (fX0_wrongAt_s6 m2 p2 p3 x0_lineCount x0_goodsCount x0_workCount x0_years x0_lines x0_goods x0_works x0_change x0_coin x0_knownFree x0_isKnown)) n (0, 0)).bind (Sum.elim (fun w5 => some w5) (fun _ => some (-1)))) X0
set_option maxHeartbeats 4000000 in
set_option maxRecDepth 100000 in
theorem kX0_wrongAt (l : Launch) (d : DT) (h0 : Nat → Nat) (b2 : Nat) (o0 : Nat) (n : Nat) (x0_lineCount : Int32) (x0_goodsCount : Int32) (x0_workCount : Int32) (x0_years : Int32) (x0_lines : (Nat → Int32)) (x0_goods : (Nat → Int32)) (x0_works : (Nat → Int32)) (x0_change : (Nat → Int32)) (x0_coin : (Nat → Int32)) (x0_knownFree : (Nat → Int32)) (x0_isKnown : Int32) (m2 : Nat) (p2 : (Nat → Int64)) (p3 : Int32)  {out : Int32} (hf : fX0_wrongAt n (x0_lineCount, x0_goodsCount, x0_workCount, x0_years, x0_lines, x0_goods, x0_works, x0_change, x0_coin, x0_knownFree, x0_isKnown) m2 p2 p3 = some out) : Ct l d yX0_wrongAt cX0_wrongAt 7 (some .int) { frames := 3, cells := 0, slots := 0, locals := 65 } [.ref o0, .ref (h0 0), .ref b2, .int p3] [gLd d h0 x0_lineCount x0_goodsCount x0_workCount x0_years x0_lines x0_goods x0_works x0_change x0_coin x0_knownFree x0_isKnown, [cJ d b2 m2 p2]] (fun _ : Unit => (some (.int out), [gLd d h0 x0_lineCount x0_goodsCount x0_workCount x0_years x0_lines x0_goods x0_works x0_change x0_coin x0_knownFree x0_isKnown, [cJ d b2 m2 p2]])) := by
  refine Ct.of (by decide) (Nat.le_of_ble_eq_true rfl) ?_
  intro Φ hl hK hR
  subst hl
  have hK : Ok d Φ RX0 "wrongAt" cX0_wrongAt 7 (some .int) { frames := 3, cells := 0, slots := 0, locals := 65 } := hK
  unfold fX0_wrongAt at hf
  have hf := un11 hf
  show J d Φ 7 [gLd d h0 x0_lineCount x0_goodsCount x0_workCount x0_years x0_lines x0_goods x0_works x0_change x0_coin x0_knownFree x0_isKnown, [cJ d b2 m2 p2]] 0 0 0 [(0, .ref o0), (1, .ref (h0 0)), (2, .ref b2), (3, .int p3)] []
  refine J_iconst (v := 0) hK dX0_wrongAt_0 rfl (by decide) ?_
  refine J_istore (L' := [(4, .int (0)), (0, .ref o0), (1, .ref (h0 0)), (2, .ref b2), (3, .int p3)]) hK dX0_wrongAt_1 rfl (by decide) rfl ?_
  refine J_iconst (v := 0) hK dX0_wrongAt_3 rfl (by decide) ?_
  refine J_istore (L' := [(5, .int (0)), (4, .int (0)), (0, .ref o0), (1, .ref (h0 0)), (2, .ref b2), (3, .int p3)]) hK dX0_wrongAt_4 rfl (by decide) rfl ?_
  obtain ⟨e4, hl1, hf⟩ := bs hf
  have hx1_45 : ∀ (w5 : Int32), (.inl w5) = e4 → J d Φ 7 [gLd d h0 x0_lineCount x0_goodsCount x0_workCount x0_years x0_lines x0_goods x0_works x0_change x0_coin x0_knownFree x0_isKnown, [cJ d b2 m2 p2]] 0 0 45 [(5, .int w5)] [] := by
    intro w5 he
    rw [← he] at hf
    simp only [Sum.elim_inl, Sum.elim_inr] at hf
    refine J_iload hK dX0_wrongAt_45 rfl 0 rfl ?_
    obtain rfl := Option.some.inj hf
    exact J_iret hK hR dX0_wrongAt_47 () rfl (by decide) (by decide)
  have hx1_63 : (.inr ()) = e4 → J d Φ 7 [gLd d h0 x0_lineCount x0_goodsCount x0_workCount x0_years x0_lines x0_goods x0_works x0_change x0_coin x0_knownFree x0_isKnown, [cJ d b2 m2 p2]] 0 0 63 [] [] := by
    intro  he
    rw [← he] at hf
    simp only [Sum.elim_inl, Sum.elim_inr] at hf
    refine J_iconst (v := (-1)) hK dX0_wrongAt_63 rfl (by decide) ?_
    obtain rfl := Option.some.inj hf
    exact J_iret hK hR dX0_wrongAt_64 () rfl (by decide) (by decide)
  have lo1 : ∀ (k : Nat) (z2 : Int32) (z3 : Int32), lp (u2 (fX0_wrongAt_s6 m2 p2 p3 x0_lineCount x0_goodsCount x0_workCount x0_years x0_lines x0_goods x0_works x0_change x0_coin x0_knownFree x0_isKnown)) k (z2, z3) = some e4 → J d Φ 7 [gLd d h0 x0_lineCount x0_goodsCount x0_workCount x0_years x0_lines x0_goods x0_works x0_change x0_coin x0_knownFree x0_isKnown, [cJ d b2 m2 p2]] 0 0 6 [(1, .ref (h0 0)), (2, .ref b2), (3, .int p3), (4, .int z2), (5, .int z3)] [] := by
    intro k
    induction k with
    | zero => intro z2 z3 h; cases h
    | succ k ih1 =>
      intro z2 z3 h
      obtain ⟨k2, rr1, hk2, hs1, hr1⟩ := lp_ok h
      cases hk2
      have hs1 : fX0_wrongAt_s6 m2 p2 p3 x0_lineCount x0_goodsCount x0_workCount x0_years x0_lines x0_goods x0_works x0_change x0_coin x0_knownFree x0_isKnown z2 z3 = some rr1 := hs1
      unfold fX0_wrongAt_s6 at hs1
      refine J_iload hK dX0_wrongAt_6 rfl 4 rfl ?_
      refine J_iload_n hK dX0_wrongAt_8 rfl 2 rfl rfl ?_
      refine J_icmp_ge (tg := 63) hK dX0_wrongAt_9 rfl rfl (fun hc9 => ?_) (fun hc9 => ?_)
      · have hs1 := ip hc9 hs1
        exact J_loc [] rfl (hx1_63  (lpx hs1 hr1))
      · have hs1 := iq hc9 hs1
        refine J_iload hK dX0_wrongAt_12 rfl 4 rfl ?_
        refine J_aload_n hK dX0_wrongAt_14 rfl 1 rfl rfl ?_
        refine J_alen (v := (Int32.ofNat m2)) hK dX0_wrongAt_15 rfl 1 0 rfl rfl 1 rfl rfl ?_
        refine J_icmp_ge (tg := 63) hK dX0_wrongAt_16 rfl rfl (fun hc16 => ?_) (fun hc16 => ?_)
        · have hs1 := ip hc16 hs1
          exact J_loc [] rfl (hx1_63  (lpx hs1 hr1))
        · have hs1 := iq hc16 hs1
          refine J_aload_n hK dX0_wrongAt_19 rfl 0 rfl rfl ?_
          refine J_aload_n hK dX0_wrongAt_20 rfl 1 rfl rfl ?_
          refine J_iload hK dX0_wrongAt_21 rfl 4 rfl ?_
          obtain ⟨v6, ev6, hs1⟩ := bs hs1
          refine J_lald hK dX0_wrongAt_23 rfl 1 0 rfl rfl ev6 ?_
          obtain ⟨v7, e8, hs1⟩ := bs hs1
          refine J_callS (m' := 2) (ce' := 0) (sl' := 0) (gr := [[cJ d b2 m2 p2]]) (gs' := fun _ => [gLd d h0 x0_lineCount x0_goodsCount x0_workCount x0_years x0_lines x0_goods x0_works x0_change x0_coin x0_knownFree x0_isKnown, [cJ d b2 m2 p2]]) (st' := fun _ => [.int v7]) (st := []) hK dX0_wrongAt_24 cv_RX0_111 ws_yX0_workTold (As := [.ref (h0 0), .long v6]) (kX0_workTold _ d h0 x0_lineCount x0_goodsCount x0_workCount x0_years x0_lines x0_goods x0_works x0_change x0_coin x0_knownFree x0_isKnown v6 e8) rfl rfl (Nat.le_of_ble_eq_true rfl) (by decide) [0] [1] rfl rfl rfl rfl [1, 0] rfl (fun _ => rfl) (fun _ => rfl) rfl rfl rfl (fun _ => rfl) (fun _ => ?_)
          refine J_istore (L' := [(6, .int v7), (1, .ref (h0 0)), (2, .ref b2), (3, .int p3), (4, .int z2), (5, .int z3)]) hK dX0_wrongAt_27 rfl (by decide) rfl ?_
          refine J_iload hK dX0_wrongAt_29 rfl 0 rfl ?_
          refine J_iconst (v := (-1)) hK dX0_wrongAt_31 rfl (by decide) ?_
          refine J_icmp_eq (tg := 57) hK dX0_wrongAt_32 rfl rfl (fun hc32 => ?_) (fun hc32 => ?_)
          · have hs1 := ip hc32 hs1
            refine J_iinc (L' := [(5, .int (z3 + 1)), (6, .int v7), (1, .ref (h0 0)), (2, .ref b2), (3, .int p3), (4, .int z2)]) (v := (z3 + 1)) hK dX0_wrongAt_57 rfl 5 rfl rfl (by decide) rfl ?_
            refine J_goto hK dX0_wrongAt_60 (n := 6) rfl ?_
            exact J_loc [2, 3, 4, 5, 0] rfl (ih1 z2 (z3 + 1) (lpc hs1 hr1))
          · have hs1 := iq hc32 hs1
            refine J_iload hK dX0_wrongAt_35 rfl 4 rfl ?_
            refine J_iload hK dX0_wrongAt_37 rfl 0 rfl ?_
            refine J_ishr hK dX0_wrongAt_39 rfl ?_
            refine J_iconst (v := 1) hK dX0_wrongAt_40 rfl (by decide) ?_
            refine J_iand hK dX0_wrongAt_41 rfl ?_
            refine J_if_eq (tg := 48) hK dX0_wrongAt_42 rfl rfl (fun hc42 => ?_) (fun hc42 => ?_)
            · have hs1 := ip hc42 hs1
              refine J_iload hK dX0_wrongAt_48 rfl 4 rfl ?_
              refine J_iconst (v := 1) hK dX0_wrongAt_50 rfl (by decide) ?_
              refine J_iload hK dX0_wrongAt_51 rfl 0 rfl ?_
              refine J_ishl hK dX0_wrongAt_53 rfl ?_
              refine J_ior hK dX0_wrongAt_54 rfl ?_
              obtain ⟨t9, et9, hs1⟩ := bs hs1
              refine J_nmi et9 ?_
              refine J_istore (L' := [(4, .int t9), (6, .int v7), (1, .ref (h0 0)), (2, .ref b2), (3, .int p3), (5, .int z3)]) hK dX0_wrongAt_55 rfl (by decide) rfl ?_
              refine J_iinc (L' := [(5, .int (z3 + 1)), (4, .int t9), (6, .int v7), (1, .ref (h0 0)), (2, .ref b2), (3, .int p3)]) (v := (z3 + 1)) hK dX0_wrongAt_57 rfl 5 rfl rfl (by decide) rfl ?_
              refine J_goto hK dX0_wrongAt_60 (n := 6) rfl ?_
              exact J_loc [3, 4, 5, 1, 0] rfl (ih1 t9 (z3 + 1) (lpc hs1 hr1))
            · have hs1 := iq hc42 hs1
              exact J_loc [5] rfl (hx1_45 z3 (lpx hs1 hr1))
  exact J_loc [3, 4, 5, 1, 0] rfl (lo1 n (0) (0) hl1)

def fX0_costOfYear_j22 (n : Nat) (x0_gained : (Nat → Int32)) (x1_left : (Nat → Int32)) (x1_earned : (Nat → Int32)) (x1_turnCost : Int32) (x1_turnWayless : Int32) (x2_edgeA : (Nat → Int32)) (x2_edgeB : (Nat → Int32)) (x2_edgeCost : (Nat → Int32)) (x2_edgeLine : (Nat → Int32)) (x2_change : (Nat → Int32)) (x2_away : (Nat → Int32)) (x2_steps : (Nat → Int32)) (x2_nodes : (Nat → Int32)) (x2_stepCount : Int32) (x2_open : (Nat → Int32)) (x2_openCount : Int32) (x2_seen : Int64) (x2_edgeCount : Int32) (x2_aim : Int32) (x3_lineCount : Int32) (x3_goodsCount : Int32) (x3_workCount : Int32) (x3_years : Int32) (x3_lines : (Nat → Int32)) (x3_goods : (Nat → Int32)) (x3_works : (Nat → Int32)) (x3_change : (Nat → Int32)) (x3_coin : (Nat → Int32)) (x3_knownFree : (Nat → Int32)) (x3_isKnown : Int32) (x4_goodsCount : Int32) (x4_workCount : Int32) (x4_years : Int32) (x4_goods : (Nat → Int32)) (x4_coin : (Nat → Int32)) (x4_knownFree : (Nat → Int32)) (x3 : Int32) (x4 : (Nat → Int32)) (x5 : (Nat → Int32)) (x6 : (Nat → Int32)) (x7 : Int32) (y8 : Int32) : Option (Int32 × ((Nat → Int32) × (Nat → Int32) × (Nat → Int32) × (Nat → Int32) × (Nat → Int32) × (Nat → Int32) × Int32 × Int32) × (Int32 × Int32 × Int32 × Int32 × (Nat → Int32) × (Nat → Int32) × (Nat → Int32) × (Nat → Int32) × (Nat → Int32) × Int32) × (Int32 × (Nat → Int32) × (Nat → Int32) × (Nat → Int32) × (Nat → Int32) × Int32)) :=
  (fX0_freeWith n x0_gained (x1_left, x1_earned, x1_turnCost, x1_turnWayless) (x2_edgeA, x2_edgeB, x2_edgeCost, x2_edgeLine, x2_change, x2_away, x2_steps, x2_nodes, x2_stepCount, x2_open, x2_openCount, x2_seen, x2_edgeCount, x2_aim) (x3_lineCount, x3_goodsCount, x3_workCount, x3_years, x3_lines, x3_goods, x3_works, x3_change, x3_coin, x3_knownFree, x3_isKnown) (x3, x4_goodsCount, x4_workCount, x4_years, x4, x4_goods, x5, x6, x4_coin, x4_knownFree, x7) (0)).bind (u4 fun v9 G10 G19 G30 => u8 (fun g11 g12 g13 g14 g15 g16 g17 g18 => u10 (fun g20 g21 g22 g23 g24 g25 g26 g27 g28 g29 => u5 (fun g31 g32 g33 g34 g35 => some ((y8 + v9), (g11, g12, g13, g14, g15, g16, g17, g18), (g20, g21, g22, g23, g24, g25, g26, g27, g28, g29), (g31, g32, x5, g33, g34, g35))) G30) G19) G10)
def fX0_costOfYear (n : Nat) (X0 : ChT) (X1 : TrT) (X2 : WyT) (X3 : LdT) (X4 : LdT) (p2 : Int32) : Option (Int32 × ((Nat → Int32) × (Nat → Int32) × (Nat → Int32) × (Nat → Int32) × (Nat → Int32) × (Nat → Int32) × Int32 × Int32) × (Int32 × Int32 × Int32 × Int32 × (Nat → Int32) × (Nat → Int32) × (Nat → Int32) × (Nat → Int32) × (Nat → Int32) × Int32) × (Int32 × (Nat → Int32) × (Nat → Int32) × (Nat → Int32) × (Nat → Int32) × Int32)) :=
  (fun (x0_gained : (Nat → Int32)) => u4 (fun (x1_left : (Nat → Int32)) (x1_earned : (Nat → Int32)) (x1_turnCost : Int32) (x1_turnWayless : Int32) => u14 (fun (x2_edgeA : (Nat → Int32)) (x2_edgeB : (Nat → Int32)) (x2_edgeCost : (Nat → Int32)) (x2_edgeLine : (Nat → Int32)) (x2_change : (Nat → Int32)) (x2_away : (Nat → Int32)) (x2_steps : (Nat → Int32)) (x2_nodes : (Nat → Int32)) (x2_stepCount : Int32) (x2_open : (Nat → Int32)) (x2_openCount : Int32) (x2_seen : Int64) (x2_edgeCount : Int32) (x2_aim : Int32) => u11 (fun (x3_lineCount : Int32) (x3_goodsCount : Int32) (x3_workCount : Int32) (x3_years : Int32) (x3_lines : (Nat → Int32)) (x3_goods : (Nat → Int32)) (x3_works : (Nat → Int32)) (x3_change : (Nat → Int32)) (x3_coin : (Nat → Int32)) (x3_knownFree : (Nat → Int32)) (x3_isKnown : Int32) => u11 (fun (x4_lineCount : Int32) (x4_goodsCount : Int32) (x4_workCount : Int32) (x4_years : Int32) (x4_lines : (Nat → Int32)) (x4_goods : (Nat → Int32)) (x4_works : (Nat → Int32)) (x4_change : (Nat → Int32)) (x4_coin : (Nat → Int32)) (x4_knownFree : (Nat → Int32)) (x4_isKnown : Int32) => (fX1_hasWork (x4_lineCount, x4_goodsCount, x4_workCount, x4_years, x4_lines, x4_goods, x4_works, x4_change, x4_coin, x4_knownFree, x4_isKnown) p2).bind (fun v1 => if v1 = 0 then (fX0_costOfYear_j22 n x0_gained x1_left x1_earned x1_turnCost x1_turnWayless x2_edgeA x2_edgeB x2_edgeCost x2_edgeLine x2_change x2_away x2_steps x2_nodes x2_stepCount x2_open x2_openCount x2_seen x2_edgeCount x2_aim x3_lineCount x3_goodsCount x3_workCount x3_years x3_lines x3_goods x3_works x3_change x3_coin x3_knownFree x3_isKnown x4_goodsCount x4_workCount x4_years x4_goods x4_coin x4_knownFree x4_lineCount x4_lines x4_works x4_change x4_isKnown (0)) else ((fX1_ofWork (x4_lineCount, x4_goodsCount, x4_workCount, x4_years, x4_lines, x4_goods, x4_works, x4_change, x4_coin, x4_knownFree, x4_isKnown) p2 (3)).bind (fun v37 => (fX1_performForGood (x4_lineCount, x4_goodsCount, x4_workCount, x4_years, x4_lines, x4_goods, x4_works, x4_change, x4_coin, x4_knownFree, x4_isKnown) p2).bind (fun G39 => u5 (fun g40 g41 g42 g43 g44 => fX0_costOfYear_j22 n x0_gained x1_left x1_earned x1_turnCost x1_turnWayless x2_edgeA x2_edgeB x2_edgeCost x2_edgeLine x2_change x2_away x2_steps x2_nodes x2_stepCount x2_open x2_openCount x2_seen x2_edgeCount x2_aim x3_lineCount x3_goodsCount x3_workCount x3_years x3_lines x3_goods x3_works x3_change x3_coin x3_knownFree x3_isKnown x4_goodsCount x4_workCount x4_years x4_goods x4_coin x4_knownFree g40 g41 g42 g43 g44 v37) G39))))) X4) X3) X2) X1) X0
set_option maxHeartbeats 4000000 in
set_option maxRecDepth 100000 in
theorem kX0_costOfYear (l : Launch) (d : DT) (h0 : Nat → Nat) (a0_after : Nat) (h1 : Nat → Nat) (h2 : Nat → Nat) (h3 : Nat → Nat) (h4 : Nat → Nat) (n : Nat) (x0_gained : (Nat → Int32)) (x1_left : (Nat → Int32)) (x1_earned : (Nat → Int32)) (x1_turnCost : Int32) (x1_turnWayless : Int32) (x2_edgeA : (Nat → Int32)) (x2_edgeB : (Nat → Int32)) (x2_edgeCost : (Nat → Int32)) (x2_edgeLine : (Nat → Int32)) (x2_change : (Nat → Int32)) (x2_away : (Nat → Int32)) (x2_steps : (Nat → Int32)) (x2_nodes : (Nat → Int32)) (x2_stepCount : Int32) (x2_open : (Nat → Int32)) (x2_openCount : Int32) (x2_seen : Int64) (x2_edgeCount : Int32) (x2_aim : Int32) (x3_lineCount : Int32) (x3_goodsCount : Int32) (x3_workCount : Int32) (x3_years : Int32) (x3_lines : (Nat → Int32)) (x3_goods : (Nat → Int32)) (x3_works : (Nat → Int32)) (x3_change : (Nat → Int32)) (x3_coin : (Nat → Int32)) (x3_knownFree : (Nat → Int32)) (x3_isKnown : Int32) (x4_lineCount : Int32) (x4_goodsCount : Int32) (x4_workCount : Int32) (x4_years : Int32) (x4_lines : (Nat → Int32)) (x4_goods : (Nat → Int32)) (x4_works : (Nat → Int32)) (x4_change : (Nat → Int32)) (x4_coin : (Nat → Int32)) (x4_knownFree : (Nat → Int32)) (x4_isKnown : Int32) (p2 : Int32)  {out : Int32 × ((Nat → Int32) × (Nat → Int32) × (Nat → Int32) × (Nat → Int32) × (Nat → Int32) × (Nat → Int32) × Int32 × Int32) × (Int32 × Int32 × Int32 × Int32 × (Nat → Int32) × (Nat → Int32) × (Nat → Int32) × (Nat → Int32) × (Nat → Int32) × Int32) × (Int32 × (Nat → Int32) × (Nat → Int32) × (Nat → Int32) × (Nat → Int32) × Int32)} (hf : fX0_costOfYear n x0_gained (x1_left, x1_earned, x1_turnCost, x1_turnWayless) (x2_edgeA, x2_edgeB, x2_edgeCost, x2_edgeLine, x2_change, x2_away, x2_steps, x2_nodes, x2_stepCount, x2_open, x2_openCount, x2_seen, x2_edgeCount, x2_aim) (x3_lineCount, x3_goodsCount, x3_workCount, x3_years, x3_lines, x3_goods, x3_works, x3_change, x3_coin, x3_knownFree, x3_isKnown) (x4_lineCount, x4_goodsCount, x4_workCount, x4_years, x4_lines, x4_goods, x4_works, x4_change, x4_coin, x4_knownFree, x4_isKnown) p2 = some out) : Ct l d yX0_costOfYear cX0_costOfYear 4 (some .int) { frames := 4, cells := 0, slots := 0, locals := 103 } [.ref (h0 0), .ref (h4 0), .int p2] [gCh d h0 (h1 0) a0_after (h3 0) x0_gained, gTr d h1 (h2 0) x1_left x1_earned x1_turnCost x1_turnWayless, gWy d h2 x2_edgeA x2_edgeB x2_edgeCost x2_edgeLine x2_change x2_away x2_steps x2_nodes x2_stepCount x2_open x2_openCount x2_seen x2_edgeCount x2_aim, gLd d h3 x3_lineCount x3_goodsCount x3_workCount x3_years x3_lines x3_goods x3_works x3_change x3_coin x3_knownFree x3_isKnown, gLd d h4 x4_lineCount x4_goodsCount x4_workCount x4_years x4_lines x4_goods x4_works x4_change x4_coin x4_knownFree x4_isKnown] (fun _ : Unit => (some (.int out.1), [gCh d h0 (h1 0) a0_after (h3 0) x0_gained, gTr d h1 (h2 0) x1_left x1_earned x1_turnCost x1_turnWayless, gWy d h2 (out.2.1.1) (out.2.1.2.1) (out.2.1.2.2.1) (out.2.1.2.2.2.1) (out.2.1.2.2.2.2.1) (out.2.1.2.2.2.2.2.1) x2_steps x2_nodes x2_stepCount x2_open x2_openCount x2_seen (out.2.1.2.2.2.2.2.2.1) (out.2.1.2.2.2.2.2.2.2), gLd d h3 (out.2.2.1.1) (out.2.2.1.2.1) (out.2.2.1.2.2.1) (out.2.2.1.2.2.2.1) (out.2.2.1.2.2.2.2.1) (out.2.2.1.2.2.2.2.2.1) (out.2.2.1.2.2.2.2.2.2.1) (out.2.2.1.2.2.2.2.2.2.2.1) (out.2.2.1.2.2.2.2.2.2.2.2.1) x3_knownFree (out.2.2.1.2.2.2.2.2.2.2.2.2), gLd d h4 (out.2.2.2.1) x4_goodsCount x4_workCount x4_years (out.2.2.2.2.1) x4_goods (out.2.2.2.2.2.1) (out.2.2.2.2.2.2.1) x4_coin (out.2.2.2.2.2.2.2.1) (out.2.2.2.2.2.2.2.2)])) := by
  refine Ct.of (by decide) (Nat.le_of_ble_eq_true rfl) ?_
  intro Φ hl hK hR
  subst hl
  have hK : Ok d Φ RX0 "costOfYear" cX0_costOfYear 4 (some .int) { frames := 4, cells := 0, slots := 0, locals := 103 } := hK
  unfold fX0_costOfYear at hf
  have hf := un4 hf
  have hf := un14 hf
  have hf := un11 hf
  have hf := un11 hf
  show J d Φ 4 [gCh d h0 (h1 0) a0_after (h3 0) x0_gained, gTr d h1 (h2 0) x1_left x1_earned x1_turnCost x1_turnWayless, gWy d h2 x2_edgeA x2_edgeB x2_edgeCost x2_edgeLine x2_change x2_away x2_steps x2_nodes x2_stepCount x2_open x2_openCount x2_seen x2_edgeCount x2_aim, gLd d h3 x3_lineCount x3_goodsCount x3_workCount x3_years x3_lines x3_goods x3_works x3_change x3_coin x3_knownFree x3_isKnown, gLd d h4 x4_lineCount x4_goodsCount x4_workCount x4_years x4_lines x4_goods x4_works x4_change x4_coin x4_knownFree x4_isKnown] 0 0 0 [(0, .ref (h0 0)), (1, .ref (h4 0)), (2, .int p2)] []
  refine J_iconst (v := 0) hK dX0_costOfYear_0 rfl (by decide) ?_
  refine J_istore_n (L' := [(3, .int (0)), (0, .ref (h0 0)), (1, .ref (h4 0)), (2, .int p2)]) hK dX0_costOfYear_1 rfl rfl (by decide) rfl ?_
  refine J_aload_n hK dX0_costOfYear_2 rfl 2 rfl rfl ?_
  refine J_iload_n hK dX0_costOfYear_3 rfl 3 rfl rfl ?_
  obtain ⟨v1, e2, hf⟩ := bs hf
  refine J_callV (m' := 5) (ce' := 0) (sl' := 0) (gr := [gCh d h0 (h1 0) a0_after (h3 0) x0_gained, gTr d h1 (h2 0) x1_left x1_earned x1_turnCost x1_turnWayless, gWy d h2 x2_edgeA x2_edgeB x2_edgeCost x2_edgeLine x2_change x2_away x2_steps x2_nodes x2_stepCount x2_open x2_openCount x2_seen x2_edgeCount x2_aim, gLd d h3 x3_lineCount x3_goodsCount x3_workCount x3_years x3_lines x3_goods x3_works x3_change x3_coin x3_knownFree x3_isKnown]) (gs' := fun _ => [gCh d h0 (h1 0) a0_after (h3 0) x0_gained, gTr d h1 (h2 0) x1_left x1_earned x1_turnCost x1_turnWayless, gWy d h2 x2_edgeA x2_edgeB x2_edgeCost x2_edgeLine x2_change x2_away x2_steps x2_nodes x2_stepCount x2_open x2_openCount x2_seen x2_edgeCount x2_aim, gLd d h3 x3_lineCount x3_goodsCount x3_workCount x3_years x3_lines x3_goods x3_works x3_change x3_coin x3_knownFree x3_isKnown, gLd d h4 x4_lineCount x4_goodsCount x4_workCount x4_years x4_lines x4_goods x4_works x4_change x4_coin x4_knownFree x4_isKnown]) (st' := fun _ => [.int v1]) (st := []) hK dX0_costOfYear_4 cv_RX0_118 iv_yX1_hasWork (As := [.int p2]) (kX1_hasWork _ d h4 x4_lineCount x4_goodsCount x4_workCount x4_years x4_lines x4_goods x4_works x4_change x4_coin x4_knownFree x4_isKnown p2 e2) rfl rfl (Nat.le_of_ble_eq_true rfl) (by decide) 4 0 rfl rfl rfl [4] [0, 1, 2, 3] rfl rfl rfl rfl [0, 1, 2, 3, 4] rfl (fun _ => rfl) (fun _ => rfl) rfl rfl rfl (fun _ => rfl) (fun _ => ?_)
  have j22 : ∀ (x3 : Int32) (x4 : (Nat → Int32)) (x5 : (Nat → Int32)) (x6 : (Nat → Int32)) (x7 : Int32) (y8 : Int32), fX0_costOfYear_j22 n x0_gained x1_left x1_earned x1_turnCost x1_turnWayless x2_edgeA x2_edgeB x2_edgeCost x2_edgeLine x2_change x2_away x2_steps x2_nodes x2_stepCount x2_open x2_openCount x2_seen x2_edgeCount x2_aim x3_lineCount x3_goodsCount x3_workCount x3_years x3_lines x3_goods x3_works x3_change x3_coin x3_knownFree x3_isKnown x4_goodsCount x4_workCount x4_years x4_goods x4_coin x4_knownFree x3 x4 x5 x6 x7 y8 = some out → J d Φ 4 [gCh d h0 (h1 0) a0_after (h3 0) x0_gained, gTr d h1 (h2 0) x1_left x1_earned x1_turnCost x1_turnWayless, gWy d h2 x2_edgeA x2_edgeB x2_edgeCost x2_edgeLine x2_change x2_away x2_steps x2_nodes x2_stepCount x2_open x2_openCount x2_seen x2_edgeCount x2_aim, gLd d h3 x3_lineCount x3_goodsCount x3_workCount x3_years x3_lines x3_goods x3_works x3_change x3_coin x3_knownFree x3_isKnown, gLd d h4 x3 x4_goodsCount x4_workCount x4_years x4 x4_goods x5 x6 x4_coin x4_knownFree x7] 0 0 22 [(0, .ref (h0 0)), (1, .ref (h4 0)), (3, .int y8)] [] := by
    intro x3 x4 x5 x6 x7 y8 hf
    unfold fX0_costOfYear_j22 at hf
    refine J_iload_n hK dX0_costOfYear_22 rfl 2 rfl rfl ?_
    refine J_aload_n hK dX0_costOfYear_23 rfl 0 rfl rfl ?_
    refine J_aload_n hK dX0_costOfYear_24 rfl 1 rfl rfl ?_
    refine J_iconst (v := 0) hK dX0_costOfYear_25 rfl (by decide) ?_
    obtain ⟨⟨v9, ⟨g11, g12, g13, g14, g15, g16, g17, g18⟩, ⟨g20, g21, g22, g23, g24, g25, g26, g27, g28, g29⟩, ⟨g31, g32, g33, g34, g35⟩⟩, e36, hf⟩ := bs hf
    have hf := un4 hf
    have hf := un8 hf
    have hf := un10 hf
    have hf := un5 hf
    refine J_callV (m' := 5) (ce' := 0) (sl' := 0) (gr := []) (gs' := fun _ => [gCh d h0 (h1 0) a0_after (h3 0) x0_gained, gTr d h1 (h2 0) x1_left x1_earned x1_turnCost x1_turnWayless, gWy d h2 g11 g12 g13 g14 g15 g16 x2_steps x2_nodes x2_stepCount x2_open x2_openCount x2_seen g17 g18, gLd d h3 g20 g21 g22 g23 g24 g25 g26 g27 g28 x3_knownFree g29, gLd d h4 g31 x4_goodsCount x4_workCount x4_years g32 x4_goods x5 g33 x4_coin g34 g35]) (st' := fun _ => [.int v9, .int y8]) (st := [.int y8]) hK dX0_costOfYear_26 cv_RX0_66 iv_yX0_freeWith (As := [.ref (h4 0), .int (0)]) (kX0_freeWith _ d h0 a0_after h1 h2 h3 h4 n x0_gained x1_left x1_earned x1_turnCost x1_turnWayless x2_edgeA x2_edgeB x2_edgeCost x2_edgeLine x2_change x2_away x2_steps x2_nodes x2_stepCount x2_open x2_openCount x2_seen x2_edgeCount x2_aim x3_lineCount x3_goodsCount x3_workCount x3_years x3_lines x3_goods x3_works x3_change x3_coin x3_knownFree x3_isKnown x3 x4_goodsCount x4_workCount x4_years x4 x4_goods x5 x6 x4_coin x4_knownFree x7 (0) e36) rfl rfl (Nat.le_of_ble_eq_true rfl) (by decide) 0 0 rfl rfl rfl [0, 1, 2, 3, 4] [] rfl rfl rfl rfl [0, 1, 2, 3, 4] rfl (fun _ => rfl) (fun _ => rfl) rfl rfl rfl (fun _ => rfl) (fun _ => ?_)
    refine J_iadd hK dX0_costOfYear_29 rfl ?_
    obtain rfl := Option.some.inj hf
    exact J_iret hK hR dX0_costOfYear_30 () rfl (by decide) (by decide)
  refine J_if_eq (tg := 22) hK dX0_costOfYear_7 rfl rfl (fun hc7 => ?_) (fun hc7 => ?_)
  · have hf := ip hc7 hf
    exact J_loc [1, 2, 0] rfl (j22 x4_lineCount x4_lines x4_works x4_change x4_isKnown (0) hf)
  · have hf := iq hc7 hf
    refine J_aload_n hK dX0_costOfYear_10 rfl 2 rfl rfl ?_
    refine J_iload_n hK dX0_costOfYear_11 rfl 3 rfl rfl ?_
    refine J_iconst (v := 3) hK dX0_costOfYear_12 rfl (by decide) ?_
    obtain ⟨v37, e38, hf⟩ := bs hf
    refine J_callV (m' := 5) (ce' := 0) (sl' := 0) (gr := [gCh d h0 (h1 0) a0_after (h3 0) x0_gained, gTr d h1 (h2 0) x1_left x1_earned x1_turnCost x1_turnWayless, gWy d h2 x2_edgeA x2_edgeB x2_edgeCost x2_edgeLine x2_change x2_away x2_steps x2_nodes x2_stepCount x2_open x2_openCount x2_seen x2_edgeCount x2_aim, gLd d h3 x3_lineCount x3_goodsCount x3_workCount x3_years x3_lines x3_goods x3_works x3_change x3_coin x3_knownFree x3_isKnown]) (gs' := fun _ => [gCh d h0 (h1 0) a0_after (h3 0) x0_gained, gTr d h1 (h2 0) x1_left x1_earned x1_turnCost x1_turnWayless, gWy d h2 x2_edgeA x2_edgeB x2_edgeCost x2_edgeLine x2_change x2_away x2_steps x2_nodes x2_stepCount x2_open x2_openCount x2_seen x2_edgeCount x2_aim, gLd d h3 x3_lineCount x3_goodsCount x3_workCount x3_years x3_lines x3_goods x3_works x3_change x3_coin x3_knownFree x3_isKnown, gLd d h4 x4_lineCount x4_goodsCount x4_workCount x4_years x4_lines x4_goods x4_works x4_change x4_coin x4_knownFree x4_isKnown]) (st' := fun _ => [.int v37]) (st := []) hK dX0_costOfYear_13 cv_RX0_73 iv_yX1_ofWork (As := [.int p2, .int (3)]) (kX1_ofWork _ d h4 x4_lineCount x4_goodsCount x4_workCount x4_years x4_lines x4_goods x4_works x4_change x4_coin x4_knownFree x4_isKnown p2 (3) e38) rfl rfl (Nat.le_of_ble_eq_true rfl) (by decide) 4 0 rfl rfl rfl [4] [0, 1, 2, 3] rfl rfl rfl rfl [0, 1, 2, 3, 4] rfl (fun _ => rfl) (fun _ => rfl) rfl rfl rfl (fun _ => rfl) (fun _ => ?_)
    refine J_istore_n (L' := [(3, .int v37), (0, .ref (h0 0)), (1, .ref (h4 0)), (2, .int p2)]) hK dX0_costOfYear_16 rfl rfl (by decide) rfl ?_
    refine J_aload_n hK dX0_costOfYear_17 rfl 2 rfl rfl ?_
    refine J_iload_n hK dX0_costOfYear_18 rfl 3 rfl rfl ?_
    obtain ⟨⟨g40, g41, g42, g43, g44⟩, e45, hf⟩ := bs hf
    have hf := un5 hf
    refine J_callV (m' := 5) (ce' := 0) (sl' := 0) (gr := [gCh d h0 (h1 0) a0_after (h3 0) x0_gained, gTr d h1 (h2 0) x1_left x1_earned x1_turnCost x1_turnWayless, gWy d h2 x2_edgeA x2_edgeB x2_edgeCost x2_edgeLine x2_change x2_away x2_steps x2_nodes x2_stepCount x2_open x2_openCount x2_seen x2_edgeCount x2_aim, gLd d h3 x3_lineCount x3_goodsCount x3_workCount x3_years x3_lines x3_goods x3_works x3_change x3_coin x3_knownFree x3_isKnown]) (gs' := fun _ => [gCh d h0 (h1 0) a0_after (h3 0) x0_gained, gTr d h1 (h2 0) x1_left x1_earned x1_turnCost x1_turnWayless, gWy d h2 x2_edgeA x2_edgeB x2_edgeCost x2_edgeLine x2_change x2_away x2_steps x2_nodes x2_stepCount x2_open x2_openCount x2_seen x2_edgeCount x2_aim, gLd d h3 x3_lineCount x3_goodsCount x3_workCount x3_years x3_lines x3_goods x3_works x3_change x3_coin x3_knownFree x3_isKnown, gLd d h4 g40 x4_goodsCount x4_workCount x4_years g41 x4_goods g42 g43 x4_coin x4_knownFree g44]) (st' := fun _ => []) (st := []) hK dX0_costOfYear_19 cv_RX0_88 iv_yX1_performForGood (As := [.int p2]) (kX1_performForGood _ d h4 x4_lineCount x4_goodsCount x4_workCount x4_years x4_lines x4_goods x4_works x4_change x4_coin x4_knownFree x4_isKnown p2 e45) rfl rfl (Nat.le_of_ble_eq_true rfl) (by decide) 4 0 rfl rfl rfl [4] [0, 1, 2, 3] rfl rfl rfl rfl [0, 1, 2, 3, 4] rfl (fun _ => rfl) (fun _ => rfl) rfl rfl rfl (fun _ => rfl) (fun _ => ?_)
    exact J_loc [1, 2, 0] rfl (j22 g40 g41 g42 g43 g44 v37 hf)

def fX0_costOfPlan_s14 (n : Nat) (m2 : Nat) (p2 : (Nat → Int64)) (p3 : Int32) (x0_gained : (Nat → Int32)) (x2_left : (Nat → Int32)) (x2_earned : (Nat → Int32)) (x2_turnCost : Int32) (x2_turnWayless : Int32) (x3_steps : (Nat → Int32)) (x3_nodes : (Nat → Int32)) (x3_stepCount : Int32) (x3_open : (Nat → Int32)) (x3_openCount : Int32) (x3_seen : Int64) (x4_knownFree : (Nat → Int32)) (g3 : Int32) (g4 : Int32) (g5 : Int32) (g7 : (Nat → Int32)) (g10 : (Nat → Int32)) (z14 : Int32) (z15 : Int32) (z16 : Int32) (z17 : (Nat → Int32)) (z18 : (Nat → Int32)) (z19 : (Nat → Int32)) (z20 : (Nat → Int32)) (z21 : Int32) (z22 : (Nat → Int32)) (z23 : (Nat → Int32)) (z24 : (Nat → Int32)) (z25 : (Nat → Int32)) (z26 : (Nat → Int32)) (z27 : (Nat → Int32)) (z28 : Int32) (z29 : Int32) (z30 : Int32) (z31 : Int32) (z32 : Int32) (z33 : Int32) (z34 : (Nat → Int32)) (z35 : (Nat → Int32)) (z36 : (Nat → Int32)) (z37 : (Nat → Int32)) (z38 : (Nat → Int32)) (z39 : Int32) : Option ((Int32 × Int32 × Int32 × (Nat → Int32) × (Nat → Int32) × (Nat → Int32) × (Nat → Int32) × Int32 × (Nat → Int32) × (Nat → Int32) × (Nat → Int32) × (Nat → Int32) × (Nat → Int32) × (Nat → Int32) × Int32 × Int32 × Int32 × Int32 × Int32 × Int32 × (Nat → Int32) × (Nat → Int32) × (Nat → Int32) × (Nat → Int32) × (Nat → Int32) × Int32) ⊕ (Int32 × Int32 × (Nat → Int32) × (Nat → Int32) × (Nat → Int32) × (Nat → Int32) × Int32 × (Nat → Int32) × (Nat → Int32) × (Nat → Int32) × (Nat → Int32) × (Nat → Int32) × (Nat → Int32) × Int32 × Int32 × Int32 × Int32 × Int32 × Int32 × (Nat → Int32) × (Nat → Int32) × (Nat → Int32) × (Nat → Int32) × (Nat → Int32) × Int32)) :=
  if p3 ≤ z15 then (some (.inr (z14, z16, z17, z18, z19, z20, z21, z22, z23, z24, z25, z26, z27, z28, z29, z30, z31, z32, z33, z34, z35, z36, z37, z38, z39))) else (if (Int32.ofNat m2) ≤ z15 then (some (.inr (z14, z16, z17, z18, z19, z20, z21, z22, z23, z24, z25, z26, z27, z28, z29, z30, z31, z32, z33, z34, z35, z36, z37, z38, z39))) else ((rd m2 p2 z15).bind fun v66 => (fX0_workTold (z16, g3, g4, g5, z17, g7, z18, z19, g10, z20, z21) v66).bind (fun v67 => (fX0_costOfYear n x0_gained (x2_left, x2_earned, x2_turnCost, x2_turnWayless) (z22, z23, z24, z25, z26, z27, x3_steps, x3_nodes, x3_stepCount, x3_open, x3_openCount, x3_seen, z28, z29) (z30, z31, z32, z33, z34, z35, z36, z37, z38, x4_knownFree, z39) (z16, g3, g4, g5, z17, g7, z18, z19, g10, z20, z21) v67).bind (u4 fun v69 G70 G79 G90 => u8 (fun g71 g72 g73 g74 g75 g76 g77 g78 => u10 (fun g80 g81 g82 g83 g84 g85 g86 g87 g88 g89 => u6 (fun g91 g92 g93 g94 g95 g96 => some (.inl ((z14 + v69), (z15 + 1), g91, g92, g93, g94, g95, g96, g71, g72, g73, g74, g75, g76, g77, g78, g80, g81, g82, g83, g84, g85, g86, g87, g88, g89))) G90) G79) G70))))
def fX0_costOfPlan (n : Nat) (X0 : ChT) (X1 : LdT) (X2 : TrT) (X3 : WyT) (X4 : LdT) (X5 : LdT) (m2 : Nat) (p2 : (Nat → Int64)) (p3 : Int32) : Option (Int32 × (Int32 × Int32 × Int32 × Int32 × (Nat → Int32) × (Nat → Int32) × (Nat → Int32) × (Nat → Int32) × (Nat → Int32) × (Nat → Int32) × Int32) × ((Nat → Int32) × (Nat → Int32) × (Nat → Int32) × (Nat → Int32) × (Nat → Int32) × (Nat → Int32) × Int32 × Int32) × (Int32 × Int32 × Int32 × Int32 × (Nat → Int32) × (Nat → Int32) × (Nat → Int32) × (Nat → Int32) × (Nat → Int32) × Int32)) :=
  (fun (x0_gained : (Nat → Int32)) => u11 (fun (x1_lineCount : Int32) (x1_goodsCount : Int32) (x1_workCount : Int32) (x1_years : Int32) (x1_lines : (Nat → Int32)) (x1_goods : (Nat → Int32)) (x1_works : (Nat → Int32)) (x1_change : (Nat → Int32)) (x1_coin : (Nat → Int32)) (x1_knownFree : (Nat → Int32)) (x1_isKnown : Int32) => u4 (fun (x2_left : (Nat → Int32)) (x2_earned : (Nat → Int32)) (x2_turnCost : Int32) (x2_turnWayless : Int32) => u14 (fun (x3_edgeA : (Nat → Int32)) (x3_edgeB : (Nat → Int32)) (x3_edgeCost : (Nat → Int32)) (x3_edgeLine : (Nat → Int32)) (x3_change : (Nat → Int32)) (x3_away : (Nat → Int32)) (x3_steps : (Nat → Int32)) (x3_nodes : (Nat → Int32)) (x3_stepCount : Int32) (x3_open : (Nat → Int32)) (x3_openCount : Int32) (x3_seen : Int64) (x3_edgeCount : Int32) (x3_aim : Int32) => u11 (fun (x4_lineCount : Int32) (x4_goodsCount : Int32) (x4_workCount : Int32) (x4_years : Int32) (x4_lines : (Nat → Int32)) (x4_goods : (Nat → Int32)) (x4_works : (Nat → Int32)) (x4_change : (Nat → Int32)) (x4_coin : (Nat → Int32)) (x4_knownFree : (Nat → Int32)) (x4_isKnown : Int32) => u11 (fun (x5_lineCount : Int32) (x5_goodsCount : Int32) (x5_workCount : Int32) (x5_years : Int32) (x5_lines : (Nat → Int32)) (x5_goods : (Nat → Int32)) (x5_works : (Nat → Int32)) (x5_change : (Nat → Int32)) (x5_coin : (Nat → Int32)) (x5_knownFree : (Nat → Int32)) (x5_isKnown : Int32) => (fX1_take (x1_lineCount, x1_goodsCount, x1_workCount, x1_years, x1_lines, x1_goods, x1_works, x1_change, x1_coin, x1_knownFree, x1_isKnown) (x5_lineCount, x5_goodsCount, x5_workCount, x5_years, x5_lines, x5_goods, x5_works, x5_change, x5_coin, x5_knownFree, x5_isKnown)).bind (fun G1 => u10 (fun g2 g3 g4 g5 g6 g7 g8 g9 g10 g11 => (lp (u26 (fX0_costOfPlan_s14 n m2 p2 p3 x0_gained x2_left x2_earned x2_turnCost x2_turnWayless x3_steps x3_nodes x3_stepCount x3_open x3_openCount x3_seen x4_knownFree g3 g4 g5 g7 g10)) n (0, 0, g2, g6, g8, g9, x1_knownFree, g11, x3_edgeA, x3_edgeB, x3_edgeCost, x3_edgeLine, x3_change, x3_away, x3_edgeCount, x3_aim, x4_lineCount, x4_goodsCount, x4_workCount, x4_years, x4_lines, x4_goods, x4_works, x4_change, x4_coin, x4_isKnown)).bind (u25 fun w41 w42 w43 w44 w45 w46 w47 w48 w49 w50 w51 w52 w53 w54 w55 w56 w57 w58 w59 w60 w61 w62 w63 w64 w65 => some (w41, (w42, g3, g4, g5, w43, g7, w44, w45, g10, w46, w47), (w48, w49, w50, w51, w52, w53, w54, w55), (w56, w57, w58, w59, w60, w61, w62, w63, w64, w65)))) G1)) X5) X4) X3) X2) X1) X0
set_option maxHeartbeats 4000000 in
set_option maxRecDepth 100000 in
theorem kX0_costOfPlan (l : Launch) (d : DT) (h0 : Nat → Nat) (h1 : Nat → Nat) (h2 : Nat → Nat) (h3 : Nat → Nat) (h4 : Nat → Nat) (h5 : Nat → Nat) (b2 : Nat) (n : Nat) (x0_gained : (Nat → Int32)) (x1_lineCount : Int32) (x1_goodsCount : Int32) (x1_workCount : Int32) (x1_years : Int32) (x1_lines : (Nat → Int32)) (x1_goods : (Nat → Int32)) (x1_works : (Nat → Int32)) (x1_change : (Nat → Int32)) (x1_coin : (Nat → Int32)) (x1_knownFree : (Nat → Int32)) (x1_isKnown : Int32) (x2_left : (Nat → Int32)) (x2_earned : (Nat → Int32)) (x2_turnCost : Int32) (x2_turnWayless : Int32) (x3_edgeA : (Nat → Int32)) (x3_edgeB : (Nat → Int32)) (x3_edgeCost : (Nat → Int32)) (x3_edgeLine : (Nat → Int32)) (x3_change : (Nat → Int32)) (x3_away : (Nat → Int32)) (x3_steps : (Nat → Int32)) (x3_nodes : (Nat → Int32)) (x3_stepCount : Int32) (x3_open : (Nat → Int32)) (x3_openCount : Int32) (x3_seen : Int64) (x3_edgeCount : Int32) (x3_aim : Int32) (x4_lineCount : Int32) (x4_goodsCount : Int32) (x4_workCount : Int32) (x4_years : Int32) (x4_lines : (Nat → Int32)) (x4_goods : (Nat → Int32)) (x4_works : (Nat → Int32)) (x4_change : (Nat → Int32)) (x4_coin : (Nat → Int32)) (x4_knownFree : (Nat → Int32)) (x4_isKnown : Int32) (x5_lineCount : Int32) (x5_goodsCount : Int32) (x5_workCount : Int32) (x5_years : Int32) (x5_lines : (Nat → Int32)) (x5_goods : (Nat → Int32)) (x5_works : (Nat → Int32)) (x5_change : (Nat → Int32)) (x5_coin : (Nat → Int32)) (x5_knownFree : (Nat → Int32)) (x5_isKnown : Int32) (m2 : Nat) (p2 : (Nat → Int64)) (p3 : Int32)  {out : Int32 × (Int32 × Int32 × Int32 × Int32 × (Nat → Int32) × (Nat → Int32) × (Nat → Int32) × (Nat → Int32) × (Nat → Int32) × (Nat → Int32) × Int32) × ((Nat → Int32) × (Nat → Int32) × (Nat → Int32) × (Nat → Int32) × (Nat → Int32) × (Nat → Int32) × Int32 × Int32) × (Int32 × Int32 × Int32 × Int32 × (Nat → Int32) × (Nat → Int32) × (Nat → Int32) × (Nat → Int32) × (Nat → Int32) × Int32)} (hf : fX0_costOfPlan n x0_gained (x1_lineCount, x1_goodsCount, x1_workCount, x1_years, x1_lines, x1_goods, x1_works, x1_change, x1_coin, x1_knownFree, x1_isKnown) (x2_left, x2_earned, x2_turnCost, x2_turnWayless) (x3_edgeA, x3_edgeB, x3_edgeCost, x3_edgeLine, x3_change, x3_away, x3_steps, x3_nodes, x3_stepCount, x3_open, x3_openCount, x3_seen, x3_edgeCount, x3_aim) (x4_lineCount, x4_goodsCount, x4_workCount, x4_years, x4_lines, x4_goods, x4_works, x4_change, x4_coin, x4_knownFree, x4_isKnown) (x5_lineCount, x5_goodsCount, x5_workCount, x5_years, x5_lines, x5_goods, x5_works, x5_change, x5_coin, x5_knownFree, x5_isKnown) m2 p2 p3 = some out) : Ct l d yX0_costOfPlan cX0_costOfPlan 6 (some .int) { frames := 5, cells := 0, slots := 0, locals := 126 } [.ref (h0 0), .ref (h5 0), .ref b2, .int p3] [gCh d h0 (h2 0) (h1 0) (h4 0) x0_gained, gLd d h1 x1_lineCount x1_goodsCount x1_workCount x1_years x1_lines x1_goods x1_works x1_change x1_coin x1_knownFree x1_isKnown, gTr d h2 (h3 0) x2_left x2_earned x2_turnCost x2_turnWayless, gWy d h3 x3_edgeA x3_edgeB x3_edgeCost x3_edgeLine x3_change x3_away x3_steps x3_nodes x3_stepCount x3_open x3_openCount x3_seen x3_edgeCount x3_aim, gLd d h4 x4_lineCount x4_goodsCount x4_workCount x4_years x4_lines x4_goods x4_works x4_change x4_coin x4_knownFree x4_isKnown, gLd d h5 x5_lineCount x5_goodsCount x5_workCount x5_years x5_lines x5_goods x5_works x5_change x5_coin x5_knownFree x5_isKnown, [cJ d b2 m2 p2]] (fun _ : Unit => (some (.int out.1), [gCh d h0 (h2 0) (h1 0) (h4 0) x0_gained, gLd d h1 (out.2.1.1) (out.2.1.2.1) (out.2.1.2.2.1) (out.2.1.2.2.2.1) (out.2.1.2.2.2.2.1) (out.2.1.2.2.2.2.2.1) (out.2.1.2.2.2.2.2.2.1) (out.2.1.2.2.2.2.2.2.2.1) (out.2.1.2.2.2.2.2.2.2.2.1) (out.2.1.2.2.2.2.2.2.2.2.2.1) (out.2.1.2.2.2.2.2.2.2.2.2.2), gTr d h2 (h3 0) x2_left x2_earned x2_turnCost x2_turnWayless, gWy d h3 (out.2.2.1.1) (out.2.2.1.2.1) (out.2.2.1.2.2.1) (out.2.2.1.2.2.2.1) (out.2.2.1.2.2.2.2.1) (out.2.2.1.2.2.2.2.2.1) x3_steps x3_nodes x3_stepCount x3_open x3_openCount x3_seen (out.2.2.1.2.2.2.2.2.2.1) (out.2.2.1.2.2.2.2.2.2.2), gLd d h4 (out.2.2.2.1) (out.2.2.2.2.1) (out.2.2.2.2.2.1) (out.2.2.2.2.2.2.1) (out.2.2.2.2.2.2.2.1) (out.2.2.2.2.2.2.2.2.1) (out.2.2.2.2.2.2.2.2.2.1) (out.2.2.2.2.2.2.2.2.2.2.1) (out.2.2.2.2.2.2.2.2.2.2.2.1) x4_knownFree (out.2.2.2.2.2.2.2.2.2.2.2.2), gLd d h5 x5_lineCount x5_goodsCount x5_workCount x5_years x5_lines x5_goods x5_works x5_change x5_coin x5_knownFree x5_isKnown, [cJ d b2 m2 p2]])) := by
  refine Ct.of (by decide) (Nat.le_of_ble_eq_true rfl) ?_
  intro Φ hl hK hR
  subst hl
  have hK : Ok d Φ RX0 "costOfPlan" cX0_costOfPlan 6 (some .int) { frames := 5, cells := 0, slots := 0, locals := 126 } := hK
  unfold fX0_costOfPlan at hf
  have hf := un11 hf
  have hf := un4 hf
  have hf := un14 hf
  have hf := un11 hf
  have hf := un11 hf
  show J d Φ 6 [gCh d h0 (h2 0) (h1 0) (h4 0) x0_gained, gLd d h1 x1_lineCount x1_goodsCount x1_workCount x1_years x1_lines x1_goods x1_works x1_change x1_coin x1_knownFree x1_isKnown, gTr d h2 (h3 0) x2_left x2_earned x2_turnCost x2_turnWayless, gWy d h3 x3_edgeA x3_edgeB x3_edgeCost x3_edgeLine x3_change x3_away x3_steps x3_nodes x3_stepCount x3_open x3_openCount x3_seen x3_edgeCount x3_aim, gLd d h4 x4_lineCount x4_goodsCount x4_workCount x4_years x4_lines x4_goods x4_works x4_change x4_coin x4_knownFree x4_isKnown, gLd d h5 x5_lineCount x5_goodsCount x5_workCount x5_years x5_lines x5_goods x5_works x5_change x5_coin x5_knownFree x5_isKnown, [cJ d b2 m2 p2]] 0 0 0 [(0, .ref (h0 0)), (1, .ref (h5 0)), (2, .ref b2), (3, .int p3)] []
  refine J_aload_n hK dX0_costOfPlan_0 rfl 0 rfl rfl ?_
  refine J_get hK fo_RX0_21 dX0_costOfPlan_1 rfl 0 0 rfl rfl rfl ?_
  refine J_aload_n hK dX0_costOfPlan_4 rfl 1 rfl rfl ?_
  obtain ⟨⟨g2, g3, g4, g5, g6, g7, g8, g9, g10, g11⟩, e12, hf⟩ := bs hf
  have hf := un10 hf
  refine J_callV (m' := 7) (ce' := 0) (sl' := 0) (gr := [gCh d h0 (h2 0) (h1 0) (h4 0) x0_gained, gTr d h2 (h3 0) x2_left x2_earned x2_turnCost x2_turnWayless, gWy d h3 x3_edgeA x3_edgeB x3_edgeCost x3_edgeLine x3_change x3_away x3_steps x3_nodes x3_stepCount x3_open x3_openCount x3_seen x3_edgeCount x3_aim, gLd d h4 x4_lineCount x4_goodsCount x4_workCount x4_years x4_lines x4_goods x4_works x4_change x4_coin x4_knownFree x4_isKnown, [cJ d b2 m2 p2]]) (gs' := fun _ => [gCh d h0 (h2 0) (h1 0) (h4 0) x0_gained, gLd d h1 g2 g3 g4 g5 g6 g7 g8 g9 g10 x1_knownFree g11, gTr d h2 (h3 0) x2_left x2_earned x2_turnCost x2_turnWayless, gWy d h3 x3_edgeA x3_edgeB x3_edgeCost x3_edgeLine x3_change x3_away x3_steps x3_nodes x3_stepCount x3_open x3_openCount x3_seen x3_edgeCount x3_aim, gLd d h4 x4_lineCount x4_goodsCount x4_workCount x4_years x4_lines x4_goods x4_works x4_change x4_coin x4_knownFree x4_isKnown, gLd d h5 x5_lineCount x5_goodsCount x5_workCount x5_years x5_lines x5_goods x5_works x5_change x5_coin x5_knownFree x5_isKnown, [cJ d b2 m2 p2]]) (st' := fun _ => []) (st := []) hK dX0_costOfPlan_5 cv_RX0_40 iv_yX1_take (As := [.ref (h5 0)]) (kX1_take _ d h1 h5 x1_lineCount x1_goodsCount x1_workCount x1_years x1_lines x1_goods x1_works x1_change x1_coin x1_knownFree x1_isKnown x5_lineCount x5_goodsCount x5_workCount x5_years x5_lines x5_goods x5_works x5_change x5_coin x5_knownFree x5_isKnown e12) rfl rfl (Nat.le_of_ble_eq_true rfl) (by decide) 1 0 rfl rfl rfl [1, 5] [0, 2, 3, 4, 6] rfl rfl rfl rfl [0, 5, 1, 2, 3, 6, 4] rfl (fun _ => rfl) (fun _ => rfl) rfl rfl rfl (fun _ => rfl) (fun _ => ?_)
  refine J_iconst (v := 0) hK dX0_costOfPlan_8 rfl (by decide) ?_
  refine J_istore (L' := [(4, .int (0)), (0, .ref (h0 0)), (1, .ref (h5 0)), (2, .ref b2), (3, .int p3)]) hK dX0_costOfPlan_9 rfl (by decide) rfl ?_
  refine J_iconst (v := 0) hK dX0_costOfPlan_11 rfl (by decide) ?_
  refine J_istore (L' := [(5, .int (0)), (4, .int (0)), (0, .ref (h0 0)), (1, .ref (h5 0)), (2, .ref b2), (3, .int p3)]) hK dX0_costOfPlan_12 rfl (by decide) rfl ?_
  obtain ⟨e40, hl13, hf⟩ := bs hf
  have hx13_57 : ∀ (w41 : Int32) (w42 : Int32) (w43 : (Nat → Int32)) (w44 : (Nat → Int32)) (w45 : (Nat → Int32)) (w46 : (Nat → Int32)) (w47 : Int32) (w48 : (Nat → Int32)) (w49 : (Nat → Int32)) (w50 : (Nat → Int32)) (w51 : (Nat → Int32)) (w52 : (Nat → Int32)) (w53 : (Nat → Int32)) (w54 : Int32) (w55 : Int32) (w56 : Int32) (w57 : Int32) (w58 : Int32) (w59 : Int32) (w60 : (Nat → Int32)) (w61 : (Nat → Int32)) (w62 : (Nat → Int32)) (w63 : (Nat → Int32)) (w64 : (Nat → Int32)) (w65 : Int32), (w41, w42, w43, w44, w45, w46, w47, w48, w49, w50, w51, w52, w53, w54, w55, w56, w57, w58, w59, w60, w61, w62, w63, w64, w65) = e40 → J d Φ 6 [gCh d h0 (h2 0) (h1 0) (h4 0) x0_gained, gLd d h1 w42 g3 g4 g5 w43 g7 w44 w45 g10 w46 w47, gTr d h2 (h3 0) x2_left x2_earned x2_turnCost x2_turnWayless, gWy d h3 w48 w49 w50 w51 w52 w53 x3_steps x3_nodes x3_stepCount x3_open x3_openCount x3_seen w54 w55, gLd d h4 w56 w57 w58 w59 w60 w61 w62 w63 w64 x4_knownFree w65, gLd d h5 x5_lineCount x5_goodsCount x5_workCount x5_years x5_lines x5_goods x5_works x5_change x5_coin x5_knownFree x5_isKnown, [cJ d b2 m2 p2]] 0 0 57 [(4, .int w41)] [] := by
    intro w41 w42 w43 w44 w45 w46 w47 w48 w49 w50 w51 w52 w53 w54 w55 w56 w57 w58 w59 w60 w61 w62 w63 w64 w65 he
    rw [← he] at hf
    have hf := un25 hf
    refine J_iload hK dX0_costOfPlan_57 rfl 0 rfl ?_
    obtain rfl := Option.some.inj hf
    exact J_iret hK hR dX0_costOfPlan_59 () rfl (by decide) (by decide)
  have lo13 : ∀ (k : Nat) (z14 : Int32) (z15 : Int32) (z16 : Int32) (z17 : (Nat → Int32)) (z18 : (Nat → Int32)) (z19 : (Nat → Int32)) (z20 : (Nat → Int32)) (z21 : Int32) (z22 : (Nat → Int32)) (z23 : (Nat → Int32)) (z24 : (Nat → Int32)) (z25 : (Nat → Int32)) (z26 : (Nat → Int32)) (z27 : (Nat → Int32)) (z28 : Int32) (z29 : Int32) (z30 : Int32) (z31 : Int32) (z32 : Int32) (z33 : Int32) (z34 : (Nat → Int32)) (z35 : (Nat → Int32)) (z36 : (Nat → Int32)) (z37 : (Nat → Int32)) (z38 : (Nat → Int32)) (z39 : Int32), lp (u26 (fX0_costOfPlan_s14 n m2 p2 p3 x0_gained x2_left x2_earned x2_turnCost x2_turnWayless x3_steps x3_nodes x3_stepCount x3_open x3_openCount x3_seen x4_knownFree g3 g4 g5 g7 g10)) k (z14, z15, z16, z17, z18, z19, z20, z21, z22, z23, z24, z25, z26, z27, z28, z29, z30, z31, z32, z33, z34, z35, z36, z37, z38, z39) = some e40 → J d Φ 6 [gCh d h0 (h2 0) (h1 0) (h4 0) x0_gained, gLd d h1 z16 g3 g4 g5 z17 g7 z18 z19 g10 z20 z21, gTr d h2 (h3 0) x2_left x2_earned x2_turnCost x2_turnWayless, gWy d h3 z22 z23 z24 z25 z26 z27 x3_steps x3_nodes x3_stepCount x3_open x3_openCount x3_seen z28 z29, gLd d h4 z30 z31 z32 z33 z34 z35 z36 z37 z38 x4_knownFree z39, gLd d h5 x5_lineCount x5_goodsCount x5_workCount x5_years x5_lines x5_goods x5_works x5_change x5_coin x5_knownFree x5_isKnown, [cJ d b2 m2 p2]] 0 0 14 [(0, .ref (h0 0)), (2, .ref b2), (3, .int p3), (4, .int z14), (5, .int z15)] [] := by
    intro k
    induction k with
    | zero => intro z14 z15 z16 z17 z18 z19 z20 z21 z22 z23 z24 z25 z26 z27 z28 z29 z30 z31 z32 z33 z34 z35 z36 z37 z38 z39 h; cases h
    | succ k ih13 =>
      intro z14 z15 z16 z17 z18 z19 z20 z21 z22 z23 z24 z25 z26 z27 z28 z29 z30 z31 z32 z33 z34 z35 z36 z37 z38 z39 h
      obtain ⟨k2, rr13, hk2, hs13, hr13⟩ := lp_ok h
      cases hk2
      have hs13 : fX0_costOfPlan_s14 n m2 p2 p3 x0_gained x2_left x2_earned x2_turnCost x2_turnWayless x3_steps x3_nodes x3_stepCount x3_open x3_openCount x3_seen x4_knownFree g3 g4 g5 g7 g10 z14 z15 z16 z17 z18 z19 z20 z21 z22 z23 z24 z25 z26 z27 z28 z29 z30 z31 z32 z33 z34 z35 z36 z37 z38 z39 = some rr13 := hs13
      unfold fX0_costOfPlan_s14 at hs13
      refine J_iload hK dX0_costOfPlan_14 rfl 4 rfl ?_
      refine J_iload_n hK dX0_costOfPlan_16 rfl 2 rfl rfl ?_
      refine J_icmp_ge (tg := 57) hK dX0_costOfPlan_17 rfl rfl (fun hc17 => ?_) (fun hc17 => ?_)
      · have hs13 := ip hc17 hs13
        exact J_loc [3] rfl (hx13_57 z14 z16 z17 z18 z19 z20 z21 z22 z23 z24 z25 z26 z27 z28 z29 z30 z31 z32 z33 z34 z35 z36 z37 z38 z39 (lpx hs13 hr13))
      · have hs13 := iq hc17 hs13
        refine J_iload hK dX0_costOfPlan_20 rfl 4 rfl ?_
        refine J_aload_n hK dX0_costOfPlan_22 rfl 1 rfl rfl ?_
        refine J_alen (v := (Int32.ofNat m2)) hK dX0_costOfPlan_23 rfl 6 0 rfl rfl 1 rfl rfl ?_
        refine J_icmp_ge (tg := 57) hK dX0_costOfPlan_24 rfl rfl (fun hc24 => ?_) (fun hc24 => ?_)
        · have hs13 := ip hc24 hs13
          exact J_loc [3] rfl (hx13_57 z14 z16 z17 z18 z19 z20 z21 z22 z23 z24 z25 z26 z27 z28 z29 z30 z31 z32 z33 z34 z35 z36 z37 z38 z39 (lpx hs13 hr13))
        · have hs13 := iq hc24 hs13
          refine J_iload hK dX0_costOfPlan_27 rfl 3 rfl ?_
          refine J_aload_n hK dX0_costOfPlan_29 rfl 0 rfl rfl ?_
          refine J_aload_n hK dX0_costOfPlan_30 rfl 0 rfl rfl ?_
          refine J_get hK fo_RX0_21 dX0_costOfPlan_31 rfl 0 0 rfl rfl rfl ?_
          refine J_aload_n hK dX0_costOfPlan_34 rfl 0 rfl rfl ?_
          refine J_get hK fo_RX0_21 dX0_costOfPlan_35 rfl 0 0 rfl rfl rfl ?_
          refine J_aload_n hK dX0_costOfPlan_38 rfl 1 rfl rfl ?_
          refine J_iload hK dX0_costOfPlan_39 rfl 4 rfl ?_
          obtain ⟨v66, ev66, hs13⟩ := bs hs13
          refine J_lald hK dX0_costOfPlan_41 rfl 6 0 rfl rfl ev66 ?_
          obtain ⟨v67, e68, hs13⟩ := bs hs13
          refine J_callS (m' := 7) (ce' := 0) (sl' := 0) (gr := [gCh d h0 (h2 0) (h1 0) (h4 0) x0_gained, gTr d h2 (h3 0) x2_left x2_earned x2_turnCost x2_turnWayless, gWy d h3 z22 z23 z24 z25 z26 z27 x3_steps x3_nodes x3_stepCount x3_open x3_openCount x3_seen z28 z29, gLd d h4 z30 z31 z32 z33 z34 z35 z36 z37 z38 x4_knownFree z39, gLd d h5 x5_lineCount x5_goodsCount x5_workCount x5_years x5_lines x5_goods x5_works x5_change x5_coin x5_knownFree x5_isKnown, [cJ d b2 m2 p2]]) (gs' := fun _ => [gCh d h0 (h2 0) (h1 0) (h4 0) x0_gained, gLd d h1 z16 g3 g4 g5 z17 g7 z18 z19 g10 z20 z21, gTr d h2 (h3 0) x2_left x2_earned x2_turnCost x2_turnWayless, gWy d h3 z22 z23 z24 z25 z26 z27 x3_steps x3_nodes x3_stepCount x3_open x3_openCount x3_seen z28 z29, gLd d h4 z30 z31 z32 z33 z34 z35 z36 z37 z38 x4_knownFree z39, gLd d h5 x5_lineCount x5_goodsCount x5_workCount x5_years x5_lines x5_goods x5_works x5_change x5_coin x5_knownFree x5_isKnown, [cJ d b2 m2 p2]]) (st' := fun _ => [.int v67, .ref (h1 0), .ref (h0 0), .int z14]) (st := [.ref (h1 0), .ref (h0 0), .int z14]) hK dX0_costOfPlan_42 cv_RX0_111 ws_yX0_workTold (As := [.ref (h1 0), .long v66]) (kX0_workTold _ d h1 z16 g3 g4 g5 z17 g7 z18 z19 g10 z20 z21 v66 e68) rfl rfl (Nat.le_of_ble_eq_true rfl) (by decide) [1] [0, 2, 3, 4, 5, 6] rfl rfl rfl rfl [0, 6, 1, 2, 3, 4, 5] rfl (fun _ => rfl) (fun _ => rfl) rfl rfl rfl (fun _ => rfl) (fun _ => ?_)
          obtain ⟨⟨v69, ⟨g71, g72, g73, g74, g75, g76, g77, g78⟩, ⟨g80, g81, g82, g83, g84, g85, g86, g87, g88, g89⟩, ⟨g91, g92, g93, g94, g95, g96⟩⟩, e97, hs13⟩ := bs hs13
          have hs13 := un4 hs13
          have hs13 := un8 hs13
          have hs13 := un10 hs13
          have hs13 := un6 hs13
          refine J_callV (m' := 7) (ce' := 0) (sl' := 0) (gr := [gLd d h5 x5_lineCount x5_goodsCount x5_workCount x5_years x5_lines x5_goods x5_works x5_change x5_coin x5_knownFree x5_isKnown, [cJ d b2 m2 p2]]) (gs' := fun _ => [gCh d h0 (h2 0) (h1 0) (h4 0) x0_gained, gLd d h1 g91 g3 g4 g5 g92 g7 g93 g94 g10 g95 g96, gTr d h2 (h3 0) x2_left x2_earned x2_turnCost x2_turnWayless, gWy d h3 g71 g72 g73 g74 g75 g76 x3_steps x3_nodes x3_stepCount x3_open x3_openCount x3_seen g77 g78, gLd d h4 g80 g81 g82 g83 g84 g85 g86 g87 g88 x4_knownFree g89, gLd d h5 x5_lineCount x5_goodsCount x5_workCount x5_years x5_lines x5_goods x5_works x5_change x5_coin x5_knownFree x5_isKnown, [cJ d b2 m2 p2]]) (st' := fun _ => [.int v69, .int z14]) (st := [.int z14]) hK dX0_costOfPlan_45 cv_RX0_115 iv_yX0_costOfYear (As := [.ref (h1 0), .int v67]) (kX0_costOfYear _ d h0 (h1 0) h2 h3 h4 h1 n x0_gained x2_left x2_earned x2_turnCost x2_turnWayless z22 z23 z24 z25 z26 z27 x3_steps x3_nodes x3_stepCount x3_open x3_openCount x3_seen z28 z29 z30 z31 z32 z33 z34 z35 z36 z37 z38 x4_knownFree z39 z16 g3 g4 g5 z17 g7 z18 z19 g10 z20 z21 v67 e97) rfl rfl (Nat.le_of_ble_eq_true rfl) (by decide) 0 0 rfl rfl rfl [0, 2, 3, 4, 1] [5, 6] rfl rfl rfl rfl [2, 6, 3, 4, 5, 0, 1] rfl (fun _ => rfl) (fun _ => rfl) rfl rfl rfl (fun _ => rfl) (fun _ => ?_)
          refine J_iadd hK dX0_costOfPlan_48 rfl ?_
          refine J_istore (L' := [(4, .int (z14 + v69)), (0, .ref (h0 0)), (2, .ref b2), (3, .int p3), (5, .int z15)]) hK dX0_costOfPlan_49 rfl (by decide) rfl ?_
          refine J_iinc (L' := [(5, .int (z15 + 1)), (4, .int (z14 + v69)), (0, .ref (h0 0)), (2, .ref b2), (3, .int p3)]) (v := (z15 + 1)) hK dX0_costOfPlan_51 rfl 4 rfl rfl (by decide) rfl ?_
          refine J_goto hK dX0_costOfPlan_54 (n := 14) rfl ?_
          exact J_loc [2, 3, 4, 1, 0] rfl (ih13 (z14 + v69) (z15 + 1) g91 g92 g93 g94 g95 g96 g71 g72 g73 g74 g75 g76 g77 g78 g80 g81 g82 g83 g84 g85 g86 g87 g88 g89 (lpc hs13 hr13))
  exact J_loc [2, 4, 5, 1, 0] rfl (lo13 n (0) (0) g2 g6 g8 g9 x1_knownFree g11 x3_edgeA x3_edgeB x3_edgeCost x3_edgeLine x3_change x3_away x3_edgeCount x3_aim x4_lineCount x4_goodsCount x4_workCount x4_years x4_lines x4_goods x4_works x4_change x4_coin x4_isKnown hl13)

def fX1_hasGoods (X0 : LdT) (p1 : Int32) : Option (Int32) :=
  u11 (fun (x0_lineCount : Int32) (x0_goodsCount : Int32) (x0_workCount : Int32) (x0_years : Int32) (x0_lines : (Nat → Int32)) (x0_goods : (Nat → Int32)) (x0_works : (Nat → Int32)) (x0_change : (Nat → Int32)) (x0_coin : (Nat → Int32)) (x0_knownFree : (Nat → Int32)) (x0_isKnown : Int32) => (fX6_within p1 (0) (x0_goodsCount - 1)).bind (fun v1 => (zb v1).bind fun v3 => some v3)) X0
set_option maxHeartbeats 4000000 in
set_option maxRecDepth 100000 in
theorem kX1_hasGoods (l : Launch) (d : DT) (h0 : Nat → Nat) (x0_lineCount : Int32) (x0_goodsCount : Int32) (x0_workCount : Int32) (x0_years : Int32) (x0_lines : (Nat → Int32)) (x0_goods : (Nat → Int32)) (x0_works : (Nat → Int32)) (x0_change : (Nat → Int32)) (x0_coin : (Nat → Int32)) (x0_knownFree : (Nat → Int32)) (x0_isKnown : Int32) (p1 : Int32)  {out : Int32} (hf : fX1_hasGoods (x0_lineCount, x0_goodsCount, x0_workCount, x0_years, x0_lines, x0_goods, x0_works, x0_change, x0_coin, x0_knownFree, x0_isKnown) p1 = some out) : Ct l d yX1_hasGoods cX1_hasGoods 2 (some .boolean) { frames := 1, cells := 0, slots := 0, locals := 22 } [.ref (h0 0), .int p1] [gLd d h0 x0_lineCount x0_goodsCount x0_workCount x0_years x0_lines x0_goods x0_works x0_change x0_coin x0_knownFree x0_isKnown] (fun _ : Unit => (some (.int out), [gLd d h0 x0_lineCount x0_goodsCount x0_workCount x0_years x0_lines x0_goods x0_works x0_change x0_coin x0_knownFree x0_isKnown])) := by
  refine Ct.of (by decide) (Nat.le_of_ble_eq_true rfl) ?_
  intro Φ hl hK hR
  subst hl
  have hK : Ok d Φ RX1 "hasGoods" cX1_hasGoods 2 (some .boolean) { frames := 1, cells := 0, slots := 0, locals := 22 } := hK
  unfold fX1_hasGoods at hf
  have hf := un11 hf
  show J d Φ 2 [gLd d h0 x0_lineCount x0_goodsCount x0_workCount x0_years x0_lines x0_goods x0_works x0_change x0_coin x0_knownFree x0_isKnown] 0 0 0 [(0, .ref (h0 0)), (1, .int p1)] []
  refine J_iload_n hK dX1_hasGoods_0 rfl 1 rfl rfl ?_
  refine J_iconst (v := 0) hK dX1_hasGoods_1 rfl (by decide) ?_
  refine J_aload_n hK dX1_hasGoods_2 rfl 0 rfl rfl ?_
  refine J_get hK fo_RX1_34 dX1_hasGoods_3 rfl 0 0 rfl rfl rfl ?_
  refine J_iconst (v := 1) hK dX1_hasGoods_6 rfl (by decide) ?_
  refine J_isub hK dX1_hasGoods_7 rfl ?_
  obtain ⟨v1, e2, hf⟩ := bs hf
  refine J_callN (m' := 1) (ce' := 0) (sl' := 0) (gr := [gLd d h0 x0_lineCount x0_goodsCount x0_workCount x0_years x0_lines x0_goods x0_works x0_change x0_coin x0_knownFree x0_isKnown]) (gs' := fun _ => [gLd d h0 x0_lineCount x0_goodsCount x0_workCount x0_years x0_lines x0_goods x0_works x0_change x0_coin x0_knownFree x0_isKnown]) (st' := fun _ => [.int v1]) (st := []) hK dX1_hasGoods_8 cn_RX1_59 (As := [.int p1, .int (0), .int (x0_goodsCount - 1)]) (kX6_within _ d p1 (0) (x0_goodsCount - 1) e2) rfl rfl (Nat.le_of_ble_eq_true rfl) (by decide) [] [0] rfl rfl rfl rfl [0] rfl (fun _ => rfl) (fun _ => rfl) rfl rfl rfl (fun _ => rfl) (fun _ => ?_)
  obtain ⟨v3, ev3, hf⟩ := bs hf
  obtain rfl := Option.some.inj hf
  exact J_zret hK hR dX1_hasGoods_11 () (zb_ok ev3).2 (by rw [(zb_ok ev3).1]) (by decide) (by decide)

def fX1_addGoods (X0 : LdT) (p1 : Int32) (p2 : Int32) (p3 : Int32) : Option (Int32 × (Nat → Int32) × Int32) :=
  u11 (fun (x0_lineCount : Int32) (x0_goodsCount : Int32) (x0_workCount : Int32) (x0_years : Int32) (x0_lines : (Nat → Int32)) (x0_goods : (Nat → Int32)) (x0_works : (Nat → Int32)) (x0_change : (Nat → Int32)) (x0_coin : (Nat → Int32)) (x0_knownFree : (Nat → Int32)) (x0_isKnown : Int32) => if x0_goodsCount < 8 then ((wr 24 x0_goods ((x0_goodsCount * 3) + 0) p1).bind fun f1 => (wr 24 f1 ((x0_goodsCount * 3) + 1) p2).bind fun f2 => (wr 24 f2 ((x0_goodsCount * 3) + 2) p3).bind fun f3 => some ((x0_goodsCount + 1), f3, 0)) else (some (x0_goodsCount, x0_goods, x0_isKnown))) X0
set_option maxHeartbeats 4000000 in
set_option maxRecDepth 100000 in
theorem kX1_addGoods (l : Launch) (d : DT) (h0 : Nat → Nat) (x0_lineCount : Int32) (x0_goodsCount : Int32) (x0_workCount : Int32) (x0_years : Int32) (x0_lines : (Nat → Int32)) (x0_goods : (Nat → Int32)) (x0_works : (Nat → Int32)) (x0_change : (Nat → Int32)) (x0_coin : (Nat → Int32)) (x0_knownFree : (Nat → Int32)) (x0_isKnown : Int32) (p1 : Int32) (p2 : Int32) (p3 : Int32)  {out : Int32 × (Nat → Int32) × Int32} (hf : fX1_addGoods (x0_lineCount, x0_goodsCount, x0_workCount, x0_years, x0_lines, x0_goods, x0_works, x0_change, x0_coin, x0_knownFree, x0_isKnown) p1 p2 p3 = some out) : Ct l d yX1_addGoods cX1_addGoods 5 none { frames := 0, cells := 0, slots := 0, locals := 0 } [.ref (h0 0), .int p1, .int p2, .int p3] [gLd d h0 x0_lineCount x0_goodsCount x0_workCount x0_years x0_lines x0_goods x0_works x0_change x0_coin x0_knownFree x0_isKnown] (fun _ : Unit => (none, [gLd d h0 x0_lineCount (out.1) x0_workCount x0_years x0_lines (out.2.1) x0_works x0_change x0_coin x0_knownFree (out.2.2)])) := by
  refine Ct.of (by decide) (Nat.le_of_ble_eq_true rfl) ?_
  intro Φ hl hK hR
  subst hl
  have hK : Ok d Φ RX1 "addGoods" cX1_addGoods 5 none { frames := 0, cells := 0, slots := 0, locals := 0 } := hK
  unfold fX1_addGoods at hf
  have hf := un11 hf
  show J d Φ 5 [gLd d h0 x0_lineCount x0_goodsCount x0_workCount x0_years x0_lines x0_goods x0_works x0_change x0_coin x0_knownFree x0_isKnown] 0 0 0 [(0, .ref (h0 0)), (1, .int p1), (2, .int p2), (3, .int p3)] []
  refine J_aload_n hK dX1_addGoods_0 rfl 0 rfl rfl ?_
  refine J_get hK fo_RX1_34 dX1_addGoods_1 rfl 0 0 rfl rfl rfl ?_
  refine J_bipush (v := 8) hK dX1_addGoods_4 rfl (by decide) ?_
  refine J_icmp_lt (tg := 10) hK dX1_addGoods_6 rfl rfl (fun hc6 => ?_) (fun hc6 => ?_)
  · have hf := ip hc6 hf
    refine J_aload_n hK dX1_addGoods_10 rfl 0 rfl rfl ?_
    refine J_get hK fo_RX1_34 dX1_addGoods_11 rfl 0 0 rfl rfl rfl ?_
    refine J_iconst (v := 3) hK dX1_addGoods_14 rfl (by decide) ?_
    refine J_imul hK dX1_addGoods_15 rfl ?_
    refine J_istore (L' := [(4, .int (x0_goodsCount * 3)), (0, .ref (h0 0)), (1, .int p1), (2, .int p2), (3, .int p3)]) hK dX1_addGoods_16 rfl (by decide) rfl ?_
    refine J_aload_n hK dX1_addGoods_18 rfl 1 rfl rfl ?_
    refine J_get hK fo_RX1_15 dX1_addGoods_19 rfl 0 0 rfl rfl rfl ?_
    refine J_iload hK dX1_addGoods_22 rfl 0 rfl ?_
    refine J_iconst (v := 0) hK dX1_addGoods_24 rfl (by decide) ?_
    refine J_iadd hK dX1_addGoods_25 rfl ?_
    refine J_iload_n hK dX1_addGoods_26 rfl 2 rfl rfl ?_
    obtain ⟨f1, ef1, hf⟩ := bs hf
    refine J_iast (g' := gLd d h0 x0_lineCount x0_goodsCount x0_workCount x0_years x0_lines f1 x0_works x0_change x0_coin x0_knownFree x0_isKnown) (gs' := [gLd d h0 x0_lineCount x0_goodsCount x0_workCount x0_years x0_lines f1 x0_works x0_change x0_coin x0_knownFree x0_isKnown]) hK dX1_addGoods_27 rfl 0 2 rfl rfl ef1 rfl rfl ?_
    refine J_aload_n hK dX1_addGoods_28 rfl 1 rfl rfl ?_
    refine J_get hK fo_RX1_15 dX1_addGoods_29 rfl 0 0 rfl rfl rfl ?_
    refine J_iload hK dX1_addGoods_32 rfl 0 rfl ?_
    refine J_iconst (v := 1) hK dX1_addGoods_34 rfl (by decide) ?_
    refine J_iadd hK dX1_addGoods_35 rfl ?_
    refine J_iload_n hK dX1_addGoods_36 rfl 3 rfl rfl ?_
    obtain ⟨f2, ef2, hf⟩ := bs hf
    refine J_iast (g' := gLd d h0 x0_lineCount x0_goodsCount x0_workCount x0_years x0_lines f2 x0_works x0_change x0_coin x0_knownFree x0_isKnown) (gs' := [gLd d h0 x0_lineCount x0_goodsCount x0_workCount x0_years x0_lines f2 x0_works x0_change x0_coin x0_knownFree x0_isKnown]) hK dX1_addGoods_37 rfl 0 2 rfl rfl ef2 rfl rfl ?_
    refine J_aload_n hK dX1_addGoods_38 rfl 1 rfl rfl ?_
    refine J_get hK fo_RX1_15 dX1_addGoods_39 rfl 0 0 rfl rfl rfl ?_
    refine J_iload hK dX1_addGoods_42 rfl 0 rfl ?_
    refine J_iconst (v := 2) hK dX1_addGoods_44 rfl (by decide) ?_
    refine J_iadd hK dX1_addGoods_45 rfl ?_
    refine J_iload_n hK dX1_addGoods_46 rfl 4 rfl rfl ?_
    obtain ⟨f3, ef3, hf⟩ := bs hf
    refine J_iast (g' := gLd d h0 x0_lineCount x0_goodsCount x0_workCount x0_years x0_lines f3 x0_works x0_change x0_coin x0_knownFree x0_isKnown) (gs' := [gLd d h0 x0_lineCount x0_goodsCount x0_workCount x0_years x0_lines f3 x0_works x0_change x0_coin x0_knownFree x0_isKnown]) hK dX1_addGoods_47 rfl 0 2 rfl rfl ef3 rfl rfl ?_
    refine J_aload_n hK dX1_addGoods_48 rfl 1 rfl rfl ?_
    refine J_dup hK dX1_addGoods_49 rfl rfl ?_
    refine J_get hK fo_RX1_34 dX1_addGoods_50 rfl 0 0 rfl rfl rfl ?_
    refine J_iconst (v := 1) hK dX1_addGoods_53 rfl (by decide) ?_
    refine J_iadd hK dX1_addGoods_54 rfl ?_
    refine J_put (g' := gLd d h0 x0_lineCount (x0_goodsCount + 1) x0_workCount x0_years x0_lines f3 x0_works x0_change x0_coin x0_knownFree x0_isKnown) (gs' := [gLd d h0 x0_lineCount (x0_goodsCount + 1) x0_workCount x0_years x0_lines f3 x0_works x0_change x0_coin x0_knownFree x0_isKnown]) hK fp_RX1_34 dX1_addGoods_55 rfl 0 0 rfl rfl rfl rfl (Nat.le_of_ble_eq_true rfl) rfl rfl ?_
    refine J_aload_n hK dX1_addGoods_58 rfl 1 rfl rfl ?_
    refine J_iconst (v := 0) hK dX1_addGoods_59 rfl (by decide) ?_
    refine J_put (g' := gLd d h0 x0_lineCount (x0_goodsCount + 1) x0_workCount x0_years x0_lines f3 x0_works x0_change x0_coin x0_knownFree (0)) (gs' := [gLd d h0 x0_lineCount (x0_goodsCount + 1) x0_workCount x0_years x0_lines f3 x0_works x0_change x0_coin x0_knownFree (0)]) hK fp_RX1_43 dX1_addGoods_60 rfl 0 0 rfl rfl rfl rfl (Nat.le_of_ble_eq_true rfl) rfl rfl ?_
    obtain rfl := Option.some.inj hf
    exact J_vret hK hR dX1_addGoods_63 () rfl (by decide) (by decide)
  · have hf := iq hc6 hf
    obtain rfl := Option.some.inj hf
    exact J_vret hK hR dX1_addGoods_9 () rfl (by decide) (by decide)

def fX1_addWork (X0 : LdT) (p1 : Int32) (p2 : Int32) (p3 : Int32) (p4 : Int32) : Option (Int32 × (Nat → Int32) × Int32) :=
  u11 (fun (x0_lineCount : Int32) (x0_goodsCount : Int32) (x0_workCount : Int32) (x0_years : Int32) (x0_lines : (Nat → Int32)) (x0_goods : (Nat → Int32)) (x0_works : (Nat → Int32)) (x0_change : (Nat → Int32)) (x0_coin : (Nat → Int32)) (x0_knownFree : (Nat → Int32)) (x0_isKnown : Int32) => if x0_workCount < 7 then ((wr 35 x0_works ((x0_workCount * 5) + 0) p1).bind fun f1 => (wr 35 f1 ((x0_workCount * 5) + 1) p2).bind fun f2 => (wr 35 f2 ((x0_workCount * 5) + 2) p3).bind fun f3 => (wr 35 f3 ((x0_workCount * 5) + 3) p4).bind fun f4 => (wr 35 f4 ((x0_workCount * 5) + 4) (0)).bind fun f5 => some ((x0_workCount + 1), f5, 0)) else (some (x0_workCount, x0_works, x0_isKnown))) X0
set_option maxHeartbeats 4000000 in
set_option maxRecDepth 100000 in
theorem kX1_addWork (l : Launch) (d : DT) (h0 : Nat → Nat) (x0_lineCount : Int32) (x0_goodsCount : Int32) (x0_workCount : Int32) (x0_years : Int32) (x0_lines : (Nat → Int32)) (x0_goods : (Nat → Int32)) (x0_works : (Nat → Int32)) (x0_change : (Nat → Int32)) (x0_coin : (Nat → Int32)) (x0_knownFree : (Nat → Int32)) (x0_isKnown : Int32) (p1 : Int32) (p2 : Int32) (p3 : Int32) (p4 : Int32)  {out : Int32 × (Nat → Int32) × Int32} (hf : fX1_addWork (x0_lineCount, x0_goodsCount, x0_workCount, x0_years, x0_lines, x0_goods, x0_works, x0_change, x0_coin, x0_knownFree, x0_isKnown) p1 p2 p3 p4 = some out) : Ct l d yX1_addWork cX1_addWork 6 none { frames := 0, cells := 0, slots := 0, locals := 0 } [.ref (h0 0), .int p1, .int p2, .int p3, .int p4] [gLd d h0 x0_lineCount x0_goodsCount x0_workCount x0_years x0_lines x0_goods x0_works x0_change x0_coin x0_knownFree x0_isKnown] (fun _ : Unit => (none, [gLd d h0 x0_lineCount x0_goodsCount (out.1) x0_years x0_lines x0_goods (out.2.1) x0_change x0_coin x0_knownFree (out.2.2)])) := by
  refine Ct.of (by decide) (Nat.le_of_ble_eq_true rfl) ?_
  intro Φ hl hK hR
  subst hl
  have hK : Ok d Φ RX1 "addWork" cX1_addWork 6 none { frames := 0, cells := 0, slots := 0, locals := 0 } := hK
  unfold fX1_addWork at hf
  have hf := un11 hf
  show J d Φ 6 [gLd d h0 x0_lineCount x0_goodsCount x0_workCount x0_years x0_lines x0_goods x0_works x0_change x0_coin x0_knownFree x0_isKnown] 0 0 0 [(0, .ref (h0 0)), (1, .int p1), (2, .int p2), (3, .int p3), (4, .int p4)] []
  refine J_aload_n hK dX1_addWork_0 rfl 0 rfl rfl ?_
  refine J_get hK fo_RX1_37 dX1_addWork_1 rfl 0 0 rfl rfl rfl ?_
  refine J_bipush (v := 7) hK dX1_addWork_4 rfl (by decide) ?_
  refine J_icmp_lt (tg := 10) hK dX1_addWork_6 rfl rfl (fun hc6 => ?_) (fun hc6 => ?_)
  · have hf := ip hc6 hf
    refine J_aload_n hK dX1_addWork_10 rfl 0 rfl rfl ?_
    refine J_get hK fo_RX1_37 dX1_addWork_11 rfl 0 0 rfl rfl rfl ?_
    refine J_iconst (v := 5) hK dX1_addWork_14 rfl (by decide) ?_
    refine J_imul hK dX1_addWork_15 rfl ?_
    refine J_istore (L' := [(5, .int (x0_workCount * 5)), (0, .ref (h0 0)), (1, .int p1), (2, .int p2), (3, .int p3), (4, .int p4)]) hK dX1_addWork_16 rfl (by decide) rfl ?_
    refine J_aload_n hK dX1_addWork_18 rfl 1 rfl rfl ?_
    refine J_get hK fo_RX1_18 dX1_addWork_19 rfl 0 0 rfl rfl rfl ?_
    refine J_iload hK dX1_addWork_22 rfl 0 rfl ?_
    refine J_iconst (v := 0) hK dX1_addWork_24 rfl (by decide) ?_
    refine J_iadd hK dX1_addWork_25 rfl ?_
    refine J_iload_n hK dX1_addWork_26 rfl 2 rfl rfl ?_
    obtain ⟨f1, ef1, hf⟩ := bs hf
    refine J_iast (g' := gLd d h0 x0_lineCount x0_goodsCount x0_workCount x0_years x0_lines x0_goods f1 x0_change x0_coin x0_knownFree x0_isKnown) (gs' := [gLd d h0 x0_lineCount x0_goodsCount x0_workCount x0_years x0_lines x0_goods f1 x0_change x0_coin x0_knownFree x0_isKnown]) hK dX1_addWork_27 rfl 0 3 rfl rfl ef1 rfl rfl ?_
    refine J_aload_n hK dX1_addWork_28 rfl 1 rfl rfl ?_
    refine J_get hK fo_RX1_18 dX1_addWork_29 rfl 0 0 rfl rfl rfl ?_
    refine J_iload hK dX1_addWork_32 rfl 0 rfl ?_
    refine J_iconst (v := 1) hK dX1_addWork_34 rfl (by decide) ?_
    refine J_iadd hK dX1_addWork_35 rfl ?_
    refine J_iload_n hK dX1_addWork_36 rfl 3 rfl rfl ?_
    obtain ⟨f2, ef2, hf⟩ := bs hf
    refine J_iast (g' := gLd d h0 x0_lineCount x0_goodsCount x0_workCount x0_years x0_lines x0_goods f2 x0_change x0_coin x0_knownFree x0_isKnown) (gs' := [gLd d h0 x0_lineCount x0_goodsCount x0_workCount x0_years x0_lines x0_goods f2 x0_change x0_coin x0_knownFree x0_isKnown]) hK dX1_addWork_37 rfl 0 3 rfl rfl ef2 rfl rfl ?_
    refine J_aload_n hK dX1_addWork_38 rfl 1 rfl rfl ?_
    refine J_get hK fo_RX1_18 dX1_addWork_39 rfl 0 0 rfl rfl rfl ?_
    refine J_iload hK dX1_addWork_42 rfl 0 rfl ?_
    refine J_iconst (v := 2) hK dX1_addWork_44 rfl (by decide) ?_
    refine J_iadd hK dX1_addWork_45 rfl ?_
    refine J_iload_n hK dX1_addWork_46 rfl 4 rfl rfl ?_
    obtain ⟨f3, ef3, hf⟩ := bs hf
    refine J_iast (g' := gLd d h0 x0_lineCount x0_goodsCount x0_workCount x0_years x0_lines x0_goods f3 x0_change x0_coin x0_knownFree x0_isKnown) (gs' := [gLd d h0 x0_lineCount x0_goodsCount x0_workCount x0_years x0_lines x0_goods f3 x0_change x0_coin x0_knownFree x0_isKnown]) hK dX1_addWork_47 rfl 0 3 rfl rfl ef3 rfl rfl ?_
    refine J_aload_n hK dX1_addWork_48 rfl 1 rfl rfl ?_
    refine J_get hK fo_RX1_18 dX1_addWork_49 rfl 0 0 rfl rfl rfl ?_
    refine J_iload hK dX1_addWork_52 rfl 0 rfl ?_
    refine J_iconst (v := 3) hK dX1_addWork_54 rfl (by decide) ?_
    refine J_iadd hK dX1_addWork_55 rfl ?_
    refine J_iload hK dX1_addWork_56 rfl 5 rfl ?_
    obtain ⟨f4, ef4, hf⟩ := bs hf
    refine J_iast (g' := gLd d h0 x0_lineCount x0_goodsCount x0_workCount x0_years x0_lines x0_goods f4 x0_change x0_coin x0_knownFree x0_isKnown) (gs' := [gLd d h0 x0_lineCount x0_goodsCount x0_workCount x0_years x0_lines x0_goods f4 x0_change x0_coin x0_knownFree x0_isKnown]) hK dX1_addWork_58 rfl 0 3 rfl rfl ef4 rfl rfl ?_
    refine J_aload_n hK dX1_addWork_59 rfl 1 rfl rfl ?_
    refine J_get hK fo_RX1_18 dX1_addWork_60 rfl 0 0 rfl rfl rfl ?_
    refine J_iload hK dX1_addWork_63 rfl 0 rfl ?_
    refine J_iconst (v := 4) hK dX1_addWork_65 rfl (by decide) ?_
    refine J_iadd hK dX1_addWork_66 rfl ?_
    refine J_iconst (v := 0) hK dX1_addWork_67 rfl (by decide) ?_
    obtain ⟨f5, ef5, hf⟩ := bs hf
    refine J_iast (g' := gLd d h0 x0_lineCount x0_goodsCount x0_workCount x0_years x0_lines x0_goods f5 x0_change x0_coin x0_knownFree x0_isKnown) (gs' := [gLd d h0 x0_lineCount x0_goodsCount x0_workCount x0_years x0_lines x0_goods f5 x0_change x0_coin x0_knownFree x0_isKnown]) hK dX1_addWork_68 rfl 0 3 rfl rfl ef5 rfl rfl ?_
    refine J_aload_n hK dX1_addWork_69 rfl 1 rfl rfl ?_
    refine J_dup hK dX1_addWork_70 rfl rfl ?_
    refine J_get hK fo_RX1_37 dX1_addWork_71 rfl 0 0 rfl rfl rfl ?_
    refine J_iconst (v := 1) hK dX1_addWork_74 rfl (by decide) ?_
    refine J_iadd hK dX1_addWork_75 rfl ?_
    refine J_put (g' := gLd d h0 x0_lineCount x0_goodsCount (x0_workCount + 1) x0_years x0_lines x0_goods f5 x0_change x0_coin x0_knownFree x0_isKnown) (gs' := [gLd d h0 x0_lineCount x0_goodsCount (x0_workCount + 1) x0_years x0_lines x0_goods f5 x0_change x0_coin x0_knownFree x0_isKnown]) hK fp_RX1_37 dX1_addWork_76 rfl 0 0 rfl rfl rfl rfl (Nat.le_of_ble_eq_true rfl) rfl rfl ?_
    refine J_aload_n hK dX1_addWork_79 rfl 1 rfl rfl ?_
    refine J_iconst (v := 0) hK dX1_addWork_80 rfl (by decide) ?_
    refine J_put (g' := gLd d h0 x0_lineCount x0_goodsCount (x0_workCount + 1) x0_years x0_lines x0_goods f5 x0_change x0_coin x0_knownFree (0)) (gs' := [gLd d h0 x0_lineCount x0_goodsCount (x0_workCount + 1) x0_years x0_lines x0_goods f5 x0_change x0_coin x0_knownFree (0)]) hK fp_RX1_43 dX1_addWork_81 rfl 0 0 rfl rfl rfl rfl (Nat.le_of_ble_eq_true rfl) rfl rfl ?_
    obtain rfl := Option.some.inj hf
    exact J_vret hK hR dX1_addWork_84 () rfl (by decide) (by decide)
  · have hf := iq hc6 hf
    obtain rfl := Option.some.inj hf
    exact J_vret hK hR dX1_addWork_9 () rfl (by decide) (by decide)

def fX1_putCoin (X0 : LdT) (p1 : Int32) (p2 : Int32) : Option ((Nat → Int32) × Int32) :=
  u11 (fun (x0_lineCount : Int32) (x0_goodsCount : Int32) (x0_workCount : Int32) (x0_years : Int32) (x0_lines : (Nat → Int32)) (x0_goods : (Nat → Int32)) (x0_works : (Nat → Int32)) (x0_change : (Nat → Int32)) (x0_coin : (Nat → Int32)) (x0_knownFree : (Nat → Int32)) (x0_isKnown : Int32) => if p1 < 0 then (some (x0_coin, x0_isKnown)) else (if 3 ≤ p1 then (some (x0_coin, x0_isKnown)) else ((wr 3 x0_coin p1 p2).bind fun f1 => some (f1, 0)))) X0
set_option maxHeartbeats 4000000 in
set_option maxRecDepth 100000 in
theorem kX1_putCoin (l : Launch) (d : DT) (h0 : Nat → Nat) (x0_lineCount : Int32) (x0_goodsCount : Int32) (x0_workCount : Int32) (x0_years : Int32) (x0_lines : (Nat → Int32)) (x0_goods : (Nat → Int32)) (x0_works : (Nat → Int32)) (x0_change : (Nat → Int32)) (x0_coin : (Nat → Int32)) (x0_knownFree : (Nat → Int32)) (x0_isKnown : Int32) (p1 : Int32) (p2 : Int32)  {out : (Nat → Int32) × Int32} (hf : fX1_putCoin (x0_lineCount, x0_goodsCount, x0_workCount, x0_years, x0_lines, x0_goods, x0_works, x0_change, x0_coin, x0_knownFree, x0_isKnown) p1 p2 = some out) : Ct l d yX1_putCoin cX1_putCoin 3 none { frames := 0, cells := 0, slots := 0, locals := 0 } [.ref (h0 0), .int p1, .int p2] [gLd d h0 x0_lineCount x0_goodsCount x0_workCount x0_years x0_lines x0_goods x0_works x0_change x0_coin x0_knownFree x0_isKnown] (fun _ : Unit => (none, [gLd d h0 x0_lineCount x0_goodsCount x0_workCount x0_years x0_lines x0_goods x0_works x0_change (out.1) x0_knownFree (out.2)])) := by
  refine Ct.of (by decide) (Nat.le_of_ble_eq_true rfl) ?_
  intro Φ hl hK hR
  subst hl
  have hK : Ok d Φ RX1 "putCoin" cX1_putCoin 3 none { frames := 0, cells := 0, slots := 0, locals := 0 } := hK
  unfold fX1_putCoin at hf
  have hf := un11 hf
  show J d Φ 3 [gLd d h0 x0_lineCount x0_goodsCount x0_workCount x0_years x0_lines x0_goods x0_works x0_change x0_coin x0_knownFree x0_isKnown] 0 0 0 [(0, .ref (h0 0)), (1, .int p1), (2, .int p2)] []
  refine J_iload_n hK dX1_putCoin_0 rfl 1 rfl rfl ?_
  refine J_if_lt (tg := 21) hK dX1_putCoin_1 rfl rfl (fun hc1 => ?_) (fun hc1 => ?_)
  · have hf := ip hc1 hf
    obtain rfl := Option.some.inj hf
    exact J_vret hK hR dX1_putCoin_21 () rfl (by decide) (by decide)
  · have hf := iq hc1 hf
    refine J_iload_n hK dX1_putCoin_4 rfl 1 rfl rfl ?_
    refine J_iconst (v := 3) hK dX1_putCoin_5 rfl (by decide) ?_
    refine J_icmp_ge (tg := 21) hK dX1_putCoin_6 rfl rfl (fun hc6 => ?_) (fun hc6 => ?_)
    · have hf := ip hc6 hf
      obtain rfl := Option.some.inj hf
      exact J_vret hK hR dX1_putCoin_21 () rfl (by decide) (by decide)
    · have hf := iq hc6 hf
      refine J_aload_n hK dX1_putCoin_9 rfl 0 rfl rfl ?_
      refine J_get hK fo_RX1_24 dX1_putCoin_10 rfl 0 0 rfl rfl rfl ?_
      refine J_iload_n hK dX1_putCoin_13 rfl 1 rfl rfl ?_
      refine J_iload_n hK dX1_putCoin_14 rfl 2 rfl rfl ?_
      obtain ⟨f1, ef1, hf⟩ := bs hf
      refine J_iast (g' := gLd d h0 x0_lineCount x0_goodsCount x0_workCount x0_years x0_lines x0_goods x0_works x0_change f1 x0_knownFree x0_isKnown) (gs' := [gLd d h0 x0_lineCount x0_goodsCount x0_workCount x0_years x0_lines x0_goods x0_works x0_change f1 x0_knownFree x0_isKnown]) hK dX1_putCoin_15 rfl 0 5 rfl rfl ef1 rfl rfl ?_
      refine J_aload_n hK dX1_putCoin_16 rfl 0 rfl rfl ?_
      refine J_iconst (v := 0) hK dX1_putCoin_17 rfl (by decide) ?_
      refine J_put (g' := gLd d h0 x0_lineCount x0_goodsCount x0_workCount x0_years x0_lines x0_goods x0_works x0_change f1 x0_knownFree (0)) (gs' := [gLd d h0 x0_lineCount x0_goodsCount x0_workCount x0_years x0_lines x0_goods x0_works x0_change f1 x0_knownFree (0)]) hK fp_RX1_43 dX1_putCoin_18 rfl 0 0 rfl rfl rfl rfl (Nat.le_of_ble_eq_true rfl) rfl rfl ?_
      obtain rfl := Option.some.inj hf
      exact J_vret hK hR dX1_putCoin_21 () rfl (by decide) (by decide)

def fX1_putWashed (X0 : LdT) (p1 : Int32) (p2 : Int32) : Option ((Nat → Int32) × Int32) :=
  u11 (fun (x0_lineCount : Int32) (x0_goodsCount : Int32) (x0_workCount : Int32) (x0_years : Int32) (x0_lines : (Nat → Int32)) (x0_goods : (Nat → Int32)) (x0_works : (Nat → Int32)) (x0_change : (Nat → Int32)) (x0_coin : (Nat → Int32)) (x0_knownFree : (Nat → Int32)) (x0_isKnown : Int32) => if p1 < 0 then (some (x0_lines, x0_isKnown)) else (if x0_lineCount ≤ p1 then (some (x0_lines, x0_isKnown)) else ((wr 140 x0_lines ((p1 * 7) + 6) p2).bind fun f1 => some (f1, 0)))) X0
set_option maxHeartbeats 4000000 in
set_option maxRecDepth 100000 in
theorem kX1_putWashed (l : Launch) (d : DT) (h0 : Nat → Nat) (x0_lineCount : Int32) (x0_goodsCount : Int32) (x0_workCount : Int32) (x0_years : Int32) (x0_lines : (Nat → Int32)) (x0_goods : (Nat → Int32)) (x0_works : (Nat → Int32)) (x0_change : (Nat → Int32)) (x0_coin : (Nat → Int32)) (x0_knownFree : (Nat → Int32)) (x0_isKnown : Int32) (p1 : Int32) (p2 : Int32)  {out : (Nat → Int32) × Int32} (hf : fX1_putWashed (x0_lineCount, x0_goodsCount, x0_workCount, x0_years, x0_lines, x0_goods, x0_works, x0_change, x0_coin, x0_knownFree, x0_isKnown) p1 p2 = some out) : Ct l d yX1_putWashed cX1_putWashed 3 none { frames := 0, cells := 0, slots := 0, locals := 0 } [.ref (h0 0), .int p1, .int p2] [gLd d h0 x0_lineCount x0_goodsCount x0_workCount x0_years x0_lines x0_goods x0_works x0_change x0_coin x0_knownFree x0_isKnown] (fun _ : Unit => (none, [gLd d h0 x0_lineCount x0_goodsCount x0_workCount x0_years (out.1) x0_goods x0_works x0_change x0_coin x0_knownFree (out.2)])) := by
  refine Ct.of (by decide) (Nat.le_of_ble_eq_true rfl) ?_
  intro Φ hl hK hR
  subst hl
  have hK : Ok d Φ RX1 "putWashed" cX1_putWashed 3 none { frames := 0, cells := 0, slots := 0, locals := 0 } := hK
  unfold fX1_putWashed at hf
  have hf := un11 hf
  show J d Φ 3 [gLd d h0 x0_lineCount x0_goodsCount x0_workCount x0_years x0_lines x0_goods x0_works x0_change x0_coin x0_knownFree x0_isKnown] 0 0 0 [(0, .ref (h0 0)), (1, .int p1), (2, .int p2)] []
  refine J_iload_n hK dX1_putWashed_0 rfl 1 rfl rfl ?_
  refine J_if_lt (tg := 30) hK dX1_putWashed_1 rfl rfl (fun hc1 => ?_) (fun hc1 => ?_)
  · have hf := ip hc1 hf
    obtain rfl := Option.some.inj hf
    exact J_vret hK hR dX1_putWashed_30 () rfl (by decide) (by decide)
  · have hf := iq hc1 hf
    refine J_iload_n hK dX1_putWashed_4 rfl 1 rfl rfl ?_
    refine J_aload_n hK dX1_putWashed_5 rfl 0 rfl rfl ?_
    refine J_get hK fo_RX1_30 dX1_putWashed_6 rfl 0 0 rfl rfl rfl ?_
    refine J_icmp_ge (tg := 30) hK dX1_putWashed_9 rfl rfl (fun hc9 => ?_) (fun hc9 => ?_)
    · have hf := ip hc9 hf
      obtain rfl := Option.some.inj hf
      exact J_vret hK hR dX1_putWashed_30 () rfl (by decide) (by decide)
    · have hf := iq hc9 hf
      refine J_aload_n hK dX1_putWashed_12 rfl 0 rfl rfl ?_
      refine J_get hK fo_RX1_9 dX1_putWashed_13 rfl 0 0 rfl rfl rfl ?_
      refine J_iload_n hK dX1_putWashed_16 rfl 1 rfl rfl ?_
      refine J_bipush (v := 7) hK dX1_putWashed_17 rfl (by decide) ?_
      refine J_imul hK dX1_putWashed_19 rfl ?_
      refine J_bipush (v := 6) hK dX1_putWashed_20 rfl (by decide) ?_
      refine J_iadd hK dX1_putWashed_22 rfl ?_
      refine J_iload_n hK dX1_putWashed_23 rfl 2 rfl rfl ?_
      obtain ⟨f1, ef1, hf⟩ := bs hf
      refine J_iast (g' := gLd d h0 x0_lineCount x0_goodsCount x0_workCount x0_years f1 x0_goods x0_works x0_change x0_coin x0_knownFree x0_isKnown) (gs' := [gLd d h0 x0_lineCount x0_goodsCount x0_workCount x0_years f1 x0_goods x0_works x0_change x0_coin x0_knownFree x0_isKnown]) hK dX1_putWashed_24 rfl 0 1 rfl rfl ef1 rfl rfl ?_
      refine J_aload_n hK dX1_putWashed_25 rfl 0 rfl rfl ?_
      refine J_iconst (v := 0) hK dX1_putWashed_26 rfl (by decide) ?_
      refine J_put (g' := gLd d h0 x0_lineCount x0_goodsCount x0_workCount x0_years f1 x0_goods x0_works x0_change x0_coin x0_knownFree (0)) (gs' := [gLd d h0 x0_lineCount x0_goodsCount x0_workCount x0_years f1 x0_goods x0_works x0_change x0_coin x0_knownFree (0)]) hK fp_RX1_43 dX1_putWashed_27 rfl 0 0 rfl rfl rfl rfl (Nat.le_of_ble_eq_true rfl) rfl rfl ?_
      obtain rfl := Option.some.inj hf
      exact J_vret hK hR dX1_putWashed_30 () rfl (by decide) (by decide)

def fX1_greatestA (X0 : LdT) (p1 : Int32) : Option (Int32) :=
  u11 (fun (x0_lineCount : Int32) (x0_goodsCount : Int32) (x0_workCount : Int32) (x0_years : Int32) (x0_lines : (Nat → Int32)) (x0_goods : (Nat → Int32)) (x0_works : (Nat → Int32)) (x0_change : (Nat → Int32)) (x0_coin : (Nat → Int32)) (x0_knownFree : (Nat → Int32)) (x0_isKnown : Int32) => if p1 = 1 then (some (x0_lineCount - 1)) else (if p1 = 2 then (some (x0_lineCount - 1)) else (some (11)))) X0
set_option maxHeartbeats 4000000 in
set_option maxRecDepth 100000 in
theorem kX1_greatestA (l : Launch) (d : DT) (h0 : Nat → Nat) (x0_lineCount : Int32) (x0_goodsCount : Int32) (x0_workCount : Int32) (x0_years : Int32) (x0_lines : (Nat → Int32)) (x0_goods : (Nat → Int32)) (x0_works : (Nat → Int32)) (x0_change : (Nat → Int32)) (x0_coin : (Nat → Int32)) (x0_knownFree : (Nat → Int32)) (x0_isKnown : Int32) (p1 : Int32)  {out : Int32} (hf : fX1_greatestA (x0_lineCount, x0_goodsCount, x0_workCount, x0_years, x0_lines, x0_goods, x0_works, x0_change, x0_coin, x0_knownFree, x0_isKnown) p1 = some out) : Ct l d yX1_greatestA cX1_greatestA 2 (some .int) { frames := 0, cells := 0, slots := 0, locals := 0 } [.ref (h0 0), .int p1] [gLd d h0 x0_lineCount x0_goodsCount x0_workCount x0_years x0_lines x0_goods x0_works x0_change x0_coin x0_knownFree x0_isKnown] (fun _ : Unit => (some (.int out), [gLd d h0 x0_lineCount x0_goodsCount x0_workCount x0_years x0_lines x0_goods x0_works x0_change x0_coin x0_knownFree x0_isKnown])) := by
  refine Ct.of (by decide) (Nat.le_of_ble_eq_true rfl) ?_
  intro Φ hl hK hR
  subst hl
  have hK : Ok d Φ RX1 "greatestA" cX1_greatestA 2 (some .int) { frames := 0, cells := 0, slots := 0, locals := 0 } := hK
  unfold fX1_greatestA at hf
  have hf := un11 hf
  show J d Φ 2 [gLd d h0 x0_lineCount x0_goodsCount x0_workCount x0_years x0_lines x0_goods x0_works x0_change x0_coin x0_knownFree x0_isKnown] 0 0 0 [(0, .ref (h0 0)), (1, .int p1)] []
  refine J_iload_n hK dX1_greatestA_0 rfl 1 rfl rfl ?_
  refine J_iconst (v := 1) hK dX1_greatestA_1 rfl (by decide) ?_
  refine J_icmp_eq (tg := 10) hK dX1_greatestA_2 rfl rfl (fun hc2 => ?_) (fun hc2 => ?_)
  · have hf := ip hc2 hf
    refine J_aload_n hK dX1_greatestA_10 rfl 0 rfl rfl ?_
    refine J_get hK fo_RX1_30 dX1_greatestA_11 rfl 0 0 rfl rfl rfl ?_
    refine J_iconst (v := 1) hK dX1_greatestA_14 rfl (by decide) ?_
    refine J_isub hK dX1_greatestA_15 rfl ?_
    refine J_goto hK dX1_greatestA_16 (n := 21) rfl ?_
    obtain rfl := Option.some.inj hf
    exact J_iret hK hR dX1_greatestA_21 () rfl (by decide) (by decide)
  · have hf := iq hc2 hf
    refine J_iload_n hK dX1_greatestA_5 rfl 1 rfl rfl ?_
    refine J_iconst (v := 2) hK dX1_greatestA_6 rfl (by decide) ?_
    refine J_icmp_ne (tg := 19) hK dX1_greatestA_7 rfl rfl (fun hc7 => ?_) (fun hc7 => ?_)
    · have hf := iq hc7 hf
      refine J_bipush (v := 11) hK dX1_greatestA_19 rfl (by decide) ?_
      obtain rfl := Option.some.inj hf
      exact J_iret hK hR dX1_greatestA_21 () rfl (by decide) (by decide)
    · have hf := ip hc7 hf
      refine J_aload_n hK dX1_greatestA_10 rfl 0 rfl rfl ?_
      refine J_get hK fo_RX1_30 dX1_greatestA_11 rfl 0 0 rfl rfl rfl ?_
      refine J_iconst (v := 1) hK dX1_greatestA_14 rfl (by decide) ?_
      refine J_isub hK dX1_greatestA_15 rfl ?_
      refine J_goto hK dX1_greatestA_16 (n := 21) rfl ?_
      obtain rfl := Option.some.inj hf
      exact J_iret hK hR dX1_greatestA_21 () rfl (by decide) (by decide)

def fX1_greatestB (p1 : Int32) : Option (Int32) :=
  if p1 = 1 then (some (2)) else (if p1 = 2 then (some (2)) else (if p1 = 3 then (some (99)) else (some (11))))
set_option maxHeartbeats 4000000 in
set_option maxRecDepth 100000 in
theorem kX1_greatestB (l : Launch) (d : DT) (o0 : Nat) (p1 : Int32)  {out : Int32} (hf : fX1_greatestB p1 = some out) : Ct l d yX1_greatestB cX1_greatestB 2 (some .int) { frames := 0, cells := 0, slots := 0, locals := 0 } [.ref o0, .int p1] [] (fun _ : Unit => (some (.int out), [])) := by
  refine Ct.of (by decide) (Nat.le_of_ble_eq_true rfl) ?_
  intro Φ hl hK hR
  subst hl
  have hK : Ok d Φ RX1 "greatestB" cX1_greatestB 2 (some .int) { frames := 0, cells := 0, slots := 0, locals := 0 } := hK
  unfold fX1_greatestB at hf
  show J d Φ 2 [] 0 0 0 [(0, .ref o0), (1, .int p1)] []
  refine J_iload_n hK dX1_greatestB_0 rfl 1 rfl rfl ?_
  refine J_iconst (v := 1) hK dX1_greatestB_1 rfl (by decide) ?_
  refine J_icmp_eq (tg := 10) hK dX1_greatestB_2 rfl rfl (fun hc2 => ?_) (fun hc2 => ?_)
  · have hf := ip hc2 hf
    refine J_iconst (v := 2) hK dX1_greatestB_10 rfl (by decide) ?_
    obtain rfl := Option.some.inj hf
    exact J_iret hK hR dX1_greatestB_11 () rfl (by decide) (by decide)
  · have hf := iq hc2 hf
    refine J_iload_n hK dX1_greatestB_5 rfl 1 rfl rfl ?_
    refine J_iconst (v := 2) hK dX1_greatestB_6 rfl (by decide) ?_
    refine J_icmp_ne (tg := 12) hK dX1_greatestB_7 rfl rfl (fun hc7 => ?_) (fun hc7 => ?_)
    · have hf := iq hc7 hf
      refine J_iload_n hK dX1_greatestB_12 rfl 1 rfl rfl ?_
      refine J_iconst (v := 3) hK dX1_greatestB_13 rfl (by decide) ?_
      refine J_icmp_ne (tg := 22) hK dX1_greatestB_14 rfl rfl (fun hc14 => ?_) (fun hc14 => ?_)
      · have hf := iq hc14 hf
        refine J_bipush (v := 11) hK dX1_greatestB_22 rfl (by decide) ?_
        obtain rfl := Option.some.inj hf
        exact J_iret hK hR dX1_greatestB_24 () rfl (by decide) (by decide)
      · have hf := ip hc14 hf
        refine J_bipush (v := 99) hK dX1_greatestB_17 rfl (by decide) ?_
        refine J_goto hK dX1_greatestB_19 (n := 24) rfl ?_
        obtain rfl := Option.some.inj hf
        exact J_iret hK hR dX1_greatestB_24 () rfl (by decide) (by decide)
    · have hf := ip hc7 hf
      refine J_iconst (v := 2) hK dX1_greatestB_10 rfl (by decide) ?_
      obtain rfl := Option.some.inj hf
      exact J_iret hK hR dX1_greatestB_11 () rfl (by decide) (by decide)

def fX6_isUnder_s4 (p1 : Int32) (z2 : Int32) (z3 : Int32) : Option ((Int32 × Int32) ⊕ (((Unit) ⊕ (Unit)))) :=
  if 6 ≤ z3 then (some (.inr (.inr ()))) else ((fX6_within z2 (0) (5)).bind (fun v5 => if v5 = 0 then (some (.inr (.inr ()))) else (if z2 = p1 then (some (.inr (.inl ()))) else ((rd 6 ABV z2).bind fun v7 => some (.inl (v7, (z3 + 1)))))))
def fX6_isUnder (n : Nat) (p0 : Int32) (p1 : Int32) : Option (Int32) :=
  (lp (u2 (fX6_isUnder_s4 p1)) n (p0, 0)).bind (Sum.elim (fun _ => some (1)) (fun _ => some (0)))
set_option maxHeartbeats 4000000 in
set_option maxRecDepth 100000 in
theorem kX6_isUnder (l : Launch) (d : DT)  (n : Nat) (p0 : Int32) (p1 : Int32)  {out : Int32} (hf : fX6_isUnder n p0 p1 = some out) : Ct l d yX6_isUnder cX6_isUnder 4 (some .boolean) { frames := 1, cells := 0, slots := 0, locals := 22 } [.int p0, .int p1] [] (fun _ : Unit => (some (.int out), [])) := by
  refine Ct.of (by decide) (Nat.le_of_ble_eq_true rfl) ?_
  intro Φ hl hK hR
  subst hl
  have hK : Ok d Φ RX6 "isUnder" cX6_isUnder 4 (some .boolean) { frames := 1, cells := 0, slots := 0, locals := 22 } := hK
  unfold fX6_isUnder at hf
  show J d Φ 4 [] 0 0 0 [(0, .int p0), (1, .int p1)] []
  refine J_iload_n hK dX6_isUnder_0 rfl 0 rfl rfl ?_
  refine J_istore_n (L' := [(2, .int p0), (0, .int p0), (1, .int p1)]) hK dX6_isUnder_1 rfl rfl (by decide) rfl ?_
  refine J_iconst (v := 0) hK dX6_isUnder_2 rfl (by decide) ?_
  refine J_istore_n (L' := [(3, .int (0)), (2, .int p0), (0, .int p0), (1, .int p1)]) hK dX6_isUnder_3 rfl rfl (by decide) rfl ?_
  obtain ⟨e4, hl1, hf⟩ := bs hf
  have hx1_26 : (.inl ()) = e4 → J d Φ 4 [] 0 0 26 [] [] := by
    intro  he
    rw [← he] at hf
    simp only [Sum.elim_inl, Sum.elim_inr] at hf
    refine J_iconst (v := 1) hK dX6_isUnder_26 rfl (by decide) ?_
    obtain rfl := Option.some.inj hf
    exact J_zret hK hR dX6_isUnder_27 () rfl rfl (by decide) (by decide)
  have hx1_40 : (.inr ()) = e4 → J d Φ 4 [] 0 0 40 [] [] := by
    intro  he
    rw [← he] at hf
    simp only [Sum.elim_inl, Sum.elim_inr] at hf
    refine J_iconst (v := 0) hK dX6_isUnder_40 rfl (by decide) ?_
    obtain rfl := Option.some.inj hf
    exact J_zret hK hR dX6_isUnder_41 () rfl rfl (by decide) (by decide)
  have lo1 : ∀ (k : Nat) (z2 : Int32) (z3 : Int32), lp (u2 (fX6_isUnder_s4 p1)) k (z2, z3) = some e4 → J d Φ 4 [] 0 0 4 [(1, .int p1), (2, .int z2), (3, .int z3)] [] := by
    intro k
    induction k with
    | zero => intro z2 z3 h; cases h
    | succ k ih1 =>
      intro z2 z3 h
      obtain ⟨k2, rr1, hk2, hs1, hr1⟩ := lp_ok h
      cases hk2
      have hs1 : fX6_isUnder_s4 p1 z2 z3 = some rr1 := hs1
      unfold fX6_isUnder_s4 at hs1
      refine J_iload_n hK dX6_isUnder_4 rfl 2 rfl rfl ?_
      refine J_abv hK dX6_isUnder_5 rfl wf_RX6_326 ?_
      refine J_abl hK dX6_isUnder_8 rfl ?_
      refine J_icmp_ge (tg := 40) hK dX6_isUnder_9 rfl rfl (fun hc9 => ?_) (fun hc9 => ?_)
      · have hs1 := ip hc9 hs1
        exact J_loc [] rfl (hx1_40  (lpx hs1 hr1))
      · have hs1 := iq hc9 hs1
        refine J_iload_n hK dX6_isUnder_12 rfl 1 rfl rfl ?_
        refine J_iconst (v := 0) hK dX6_isUnder_13 rfl (by decide) ?_
        refine J_iconst (v := 5) hK dX6_isUnder_14 rfl (by decide) ?_
        obtain ⟨v5, e6, hs1⟩ := bs hs1
        refine J_callS (m' := 0) (ce' := 0) (sl' := 0) (gr := []) (gs' := fun _ => []) (st' := fun _ => [.int v5]) (st := []) hK dX6_isUnder_15 cv_RX6_64 ws_yX6_within (As := [.int z2, .int (0), .int (5)]) (kX6_within _ d z2 (0) (5) e6) rfl rfl (Nat.le_of_ble_eq_true rfl) (by decide) [] [] rfl rfl rfl rfl [] rfl (fun _ => rfl) (fun _ => rfl) rfl rfl rfl (fun _ => rfl) (fun _ => ?_)
        refine J_if_eq (tg := 40) hK dX6_isUnder_18 rfl rfl (fun hc18 => ?_) (fun hc18 => ?_)
        · have hs1 := ip hc18 hs1
          exact J_loc [] rfl (hx1_40  (lpx hs1 hr1))
        · have hs1 := iq hc18 hs1
          refine J_iload_n hK dX6_isUnder_21 rfl 1 rfl rfl ?_
          refine J_iload_n hK dX6_isUnder_22 rfl 0 rfl rfl ?_
          refine J_icmp_ne (tg := 28) hK dX6_isUnder_23 rfl rfl (fun hc23 => ?_) (fun hc23 => ?_)
          · have hs1 := iq hc23 hs1
            refine J_abv hK dX6_isUnder_28 rfl wf_RX6_326 ?_
            refine J_iload_n hK dX6_isUnder_31 rfl 1 rfl rfl ?_
            obtain ⟨v7, ev7, hs1⟩ := bs hs1
            refine J_abi hK dX6_isUnder_32 rfl ev7 ?_
            refine J_istore_n (L' := [(2, .int v7), (1, .int p1), (3, .int z3)]) hK dX6_isUnder_33 rfl rfl (by decide) rfl ?_
            refine J_iinc (L' := [(3, .int (z3 + 1)), (2, .int v7), (1, .int p1)]) (v := (z3 + 1)) hK dX6_isUnder_34 rfl 2 rfl rfl (by decide) rfl ?_
            refine J_goto hK dX6_isUnder_37 (n := 4) rfl ?_
            exact J_loc [2, 1, 0] rfl (ih1 v7 (z3 + 1) (lpc hs1 hr1))
          · have hs1 := ip hc23 hs1
            exact J_loc [] rfl (hx1_26  (lpx hs1 hr1))
  exact J_loc [3, 1, 0] rfl (lo1 n p0 (0) hl1)

def fX1_allowsWork_j24 (p1 : Int32) (p2 : Int32) (p3 : Int32) (x0_lineCount : Int32) (x0_goodsCount : Int32) (x0_workCount : Int32) (x0_years : Int32) (x0_lines : (Nat → Int32)) (x0_goods : (Nat → Int32)) (x0_works : (Nat → Int32)) (x0_change : (Nat → Int32)) (x0_coin : (Nat → Int32)) (x0_knownFree : (Nat → Int32)) (x0_isKnown : Int32) : Option (Int32) :=
  (fX1_greatestA (x0_lineCount, x0_goodsCount, x0_workCount, x0_years, x0_lines, x0_goods, x0_works, x0_change, x0_coin, x0_knownFree, x0_isKnown) p1).bind (fun v5 => (fX6_within p2 (0) v5).bind (fun v7 => if v7 = 0 then (some (0)) else ((fX1_greatestB p1).bind (fun v9 => (fX6_within p3 (0) v9).bind (fun v11 => if v11 = 0 then (some (0)) else (some (1)))))))
def fX1_allowsWork (n : Nat) (X0 : LdT) (p1 : Int32) (p2 : Int32) (p3 : Int32) : Option (Int32) :=
  u11 (fun (x0_lineCount : Int32) (x0_goodsCount : Int32) (x0_workCount : Int32) (x0_years : Int32) (x0_lines : (Nat → Int32)) (x0_goods : (Nat → Int32)) (x0_works : (Nat → Int32)) (x0_change : (Nat → Int32)) (x0_coin : (Nat → Int32)) (x0_knownFree : (Nat → Int32)) (x0_isKnown : Int32) => (fX6_within p1 (1) (5)).bind (fun v1 => if v1 = 0 then (some (0)) else ((fX6_isUnder n p1 (4)).bind (fun v3 => if v3 = 0 then (fX1_allowsWork_j24 p1 p2 p3 x0_lineCount x0_goodsCount x0_workCount x0_years x0_lines x0_goods x0_works x0_change x0_coin x0_knownFree x0_isKnown) else (if p2 = p3 then (some (0)) else (fX1_allowsWork_j24 p1 p2 p3 x0_lineCount x0_goodsCount x0_workCount x0_years x0_lines x0_goods x0_works x0_change x0_coin x0_knownFree x0_isKnown)))))) X0
set_option maxHeartbeats 4000000 in
set_option maxRecDepth 100000 in
theorem kX1_allowsWork (l : Launch) (d : DT) (h0 : Nat → Nat) (n : Nat) (x0_lineCount : Int32) (x0_goodsCount : Int32) (x0_workCount : Int32) (x0_years : Int32) (x0_lines : (Nat → Int32)) (x0_goods : (Nat → Int32)) (x0_works : (Nat → Int32)) (x0_change : (Nat → Int32)) (x0_coin : (Nat → Int32)) (x0_knownFree : (Nat → Int32)) (x0_isKnown : Int32) (p1 : Int32) (p2 : Int32) (p3 : Int32)  {out : Int32} (hf : fX1_allowsWork n (x0_lineCount, x0_goodsCount, x0_workCount, x0_years, x0_lines, x0_goods, x0_works, x0_change, x0_coin, x0_knownFree, x0_isKnown) p1 p2 p3 = some out) : Ct l d yX1_allowsWork cX1_allowsWork 4 (some .boolean) { frames := 2, cells := 0, slots := 0, locals := 45 } [.ref (h0 0), .int p1, .int p2, .int p3] [gLd d h0 x0_lineCount x0_goodsCount x0_workCount x0_years x0_lines x0_goods x0_works x0_change x0_coin x0_knownFree x0_isKnown] (fun _ : Unit => (some (.int out), [gLd d h0 x0_lineCount x0_goodsCount x0_workCount x0_years x0_lines x0_goods x0_works x0_change x0_coin x0_knownFree x0_isKnown])) := by
  refine Ct.of (by decide) (Nat.le_of_ble_eq_true rfl) ?_
  intro Φ hl hK hR
  subst hl
  have hK : Ok d Φ RX1 "allowsWork" cX1_allowsWork 4 (some .boolean) { frames := 2, cells := 0, slots := 0, locals := 45 } := hK
  unfold fX1_allowsWork at hf
  have hf := un11 hf
  show J d Φ 4 [gLd d h0 x0_lineCount x0_goodsCount x0_workCount x0_years x0_lines x0_goods x0_works x0_change x0_coin x0_knownFree x0_isKnown] 0 0 0 [(0, .ref (h0 0)), (1, .int p1), (2, .int p2), (3, .int p3)] []
  refine J_iload_n hK dX1_allowsWork_0 rfl 1 rfl rfl ?_
  refine J_iconst (v := 1) hK dX1_allowsWork_1 rfl (by decide) ?_
  refine J_iconst (v := 5) hK dX1_allowsWork_2 rfl (by decide) ?_
  obtain ⟨v1, e2, hf⟩ := bs hf
  refine J_callN (m' := 1) (ce' := 0) (sl' := 0) (gr := [gLd d h0 x0_lineCount x0_goodsCount x0_workCount x0_years x0_lines x0_goods x0_works x0_change x0_coin x0_knownFree x0_isKnown]) (gs' := fun _ => [gLd d h0 x0_lineCount x0_goodsCount x0_workCount x0_years x0_lines x0_goods x0_works x0_change x0_coin x0_knownFree x0_isKnown]) (st' := fun _ => [.int v1]) (st := []) hK dX1_allowsWork_3 cn_RX1_59 (As := [.int p1, .int (1), .int (5)]) (kX6_within _ d p1 (1) (5) e2) rfl rfl (Nat.le_of_ble_eq_true rfl) (by decide) [] [0] rfl rfl rfl rfl [0] rfl (fun _ => rfl) (fun _ => rfl) rfl rfl rfl (fun _ => rfl) (fun _ => ?_)
  refine J_if_eq (tg := 22) hK dX1_allowsWork_6 rfl rfl (fun hc6 => ?_) (fun hc6 => ?_)
  · have hf := ip hc6 hf
    refine J_iconst (v := 0) hK dX1_allowsWork_22 rfl (by decide) ?_
    obtain rfl := Option.some.inj hf
    exact J_zret hK hR dX1_allowsWork_23 () rfl rfl (by decide) (by decide)
  · have hf := iq hc6 hf
    refine J_iload_n hK dX1_allowsWork_9 rfl 1 rfl rfl ?_
    refine J_iconst (v := 4) hK dX1_allowsWork_10 rfl (by decide) ?_
    obtain ⟨v3, e4, hf⟩ := bs hf
    refine J_callN (m' := 1) (ce' := 0) (sl' := 0) (gr := [gLd d h0 x0_lineCount x0_goodsCount x0_workCount x0_years x0_lines x0_goods x0_works x0_change x0_coin x0_knownFree x0_isKnown]) (gs' := fun _ => [gLd d h0 x0_lineCount x0_goodsCount x0_workCount x0_years x0_lines x0_goods x0_works x0_change x0_coin x0_knownFree x0_isKnown]) (st' := fun _ => [.int v3]) (st := []) hK dX1_allowsWork_11 cn_RX1_74 (As := [.int p1, .int (4)]) (kX6_isUnder _ d n p1 (4) e4) rfl rfl (Nat.le_of_ble_eq_true rfl) (by decide) [] [0] rfl rfl rfl rfl [0] rfl (fun _ => rfl) (fun _ => rfl) rfl rfl rfl (fun _ => rfl) (fun _ => ?_)
    have j24 : fX1_allowsWork_j24 p1 p2 p3 x0_lineCount x0_goodsCount x0_workCount x0_years x0_lines x0_goods x0_works x0_change x0_coin x0_knownFree x0_isKnown = some out → J d Φ 4 [gLd d h0 x0_lineCount x0_goodsCount x0_workCount x0_years x0_lines x0_goods x0_works x0_change x0_coin x0_knownFree x0_isKnown] 0 0 24 [(0, .ref (h0 0)), (1, .int p1), (2, .int p2), (3, .int p3)] [] := by
      intro  hf
      unfold fX1_allowsWork_j24 at hf
      refine J_iload_n hK dX1_allowsWork_24 rfl 2 rfl rfl ?_
      refine J_iconst (v := 0) hK dX1_allowsWork_25 rfl (by decide) ?_
      refine J_aload_n hK dX1_allowsWork_26 rfl 0 rfl rfl ?_
      refine J_iload_n hK dX1_allowsWork_27 rfl 1 rfl rfl ?_
      obtain ⟨v5, e6, hf⟩ := bs hf
      refine J_callV (m' := 1) (ce' := 0) (sl' := 0) (gr := []) (gs' := fun _ => [gLd d h0 x0_lineCount x0_goodsCount x0_workCount x0_years x0_lines x0_goods x0_works x0_change x0_coin x0_knownFree x0_isKnown]) (st' := fun _ => [.int v5, .int (0), .int p2]) (st := [.int (0), .int p2]) hK dX1_allowsWork_28 cv_RX1_78 iv_yX1_greatestA (As := [.int p1]) (kX1_greatestA _ d h0 x0_lineCount x0_goodsCount x0_workCount x0_years x0_lines x0_goods x0_works x0_change x0_coin x0_knownFree x0_isKnown p1 e6) rfl rfl (Nat.le_of_ble_eq_true rfl) (by decide) 0 0 rfl rfl rfl [0] [] rfl rfl rfl rfl [0] rfl (fun _ => rfl) (fun _ => rfl) rfl rfl rfl (fun _ => rfl) (fun _ => ?_)
      obtain ⟨v7, e8, hf⟩ := bs hf
      refine J_callN (m' := 1) (ce' := 0) (sl' := 0) (gr := [gLd d h0 x0_lineCount x0_goodsCount x0_workCount x0_years x0_lines x0_goods x0_works x0_change x0_coin x0_knownFree x0_isKnown]) (gs' := fun _ => [gLd d h0 x0_lineCount x0_goodsCount x0_workCount x0_years x0_lines x0_goods x0_works x0_change x0_coin x0_knownFree x0_isKnown]) (st' := fun _ => [.int v7]) (st := []) hK dX1_allowsWork_31 cn_RX1_59 (As := [.int p2, .int (0), .int v5]) (kX6_within _ d p2 (0) v5 e8) rfl rfl (Nat.le_of_ble_eq_true rfl) (by decide) [] [0] rfl rfl rfl rfl [0] rfl (fun _ => rfl) (fun _ => rfl) rfl rfl rfl (fun _ => rfl) (fun _ => ?_)
      refine J_if_eq (tg := 54) hK dX1_allowsWork_34 rfl rfl (fun hc34 => ?_) (fun hc34 => ?_)
      · have hf := ip hc34 hf
        refine J_iconst (v := 0) hK dX1_allowsWork_54 rfl (by decide) ?_
        obtain rfl := Option.some.inj hf
        exact J_zret hK hR dX1_allowsWork_55 () rfl rfl (by decide) (by decide)
      · have hf := iq hc34 hf
        refine J_iload_n hK dX1_allowsWork_37 rfl 3 rfl rfl ?_
        refine J_iconst (v := 0) hK dX1_allowsWork_38 rfl (by decide) ?_
        refine J_aload_n hK dX1_allowsWork_39 rfl 0 rfl rfl ?_
        refine J_iload_n hK dX1_allowsWork_40 rfl 1 rfl rfl ?_
        obtain ⟨v9, e10, hf⟩ := bs hf
        refine J_callV (m' := 1) (ce' := 0) (sl' := 0) (gr := [gLd d h0 x0_lineCount x0_goodsCount x0_workCount x0_years x0_lines x0_goods x0_works x0_change x0_coin x0_knownFree x0_isKnown]) (gs' := fun _ => [gLd d h0 x0_lineCount x0_goodsCount x0_workCount x0_years x0_lines x0_goods x0_works x0_change x0_coin x0_knownFree x0_isKnown]) (st' := fun _ => [.int v9, .int (0), .int p3]) (st := [.int (0), .int p3]) hK dX1_allowsWork_41 cv_RX1_82 iv_yX1_greatestB (As := [.int p1]) (kX1_greatestB _ d (h0 0) p1 e10) rfl rfl (Nat.le_of_ble_eq_true rfl) (by decide) 0 0 rfl rfl rfl [] [0] rfl rfl rfl rfl [0] rfl (fun _ => rfl) (fun _ => rfl) rfl rfl rfl (fun _ => rfl) (fun _ => ?_)
        obtain ⟨v11, e12, hf⟩ := bs hf
        refine J_callN (m' := 1) (ce' := 0) (sl' := 0) (gr := [gLd d h0 x0_lineCount x0_goodsCount x0_workCount x0_years x0_lines x0_goods x0_works x0_change x0_coin x0_knownFree x0_isKnown]) (gs' := fun _ => [gLd d h0 x0_lineCount x0_goodsCount x0_workCount x0_years x0_lines x0_goods x0_works x0_change x0_coin x0_knownFree x0_isKnown]) (st' := fun _ => [.int v11]) (st := []) hK dX1_allowsWork_44 cn_RX1_59 (As := [.int p3, .int (0), .int v9]) (kX6_within _ d p3 (0) v9 e12) rfl rfl (Nat.le_of_ble_eq_true rfl) (by decide) [] [0] rfl rfl rfl rfl [0] rfl (fun _ => rfl) (fun _ => rfl) rfl rfl rfl (fun _ => rfl) (fun _ => ?_)
        refine J_if_eq (tg := 54) hK dX1_allowsWork_47 rfl rfl (fun hc47 => ?_) (fun hc47 => ?_)
        · have hf := ip hc47 hf
          refine J_iconst (v := 0) hK dX1_allowsWork_54 rfl (by decide) ?_
          obtain rfl := Option.some.inj hf
          exact J_zret hK hR dX1_allowsWork_55 () rfl rfl (by decide) (by decide)
        · have hf := iq hc47 hf
          refine J_iconst (v := 1) hK dX1_allowsWork_50 rfl (by decide) ?_
          refine J_goto hK dX1_allowsWork_51 (n := 55) rfl ?_
          obtain rfl := Option.some.inj hf
          exact J_zret hK hR dX1_allowsWork_55 () rfl rfl (by decide) (by decide)
    refine J_if_eq (tg := 24) hK dX1_allowsWork_14 rfl rfl (fun hc14 => ?_) (fun hc14 => ?_)
    · have hf := ip hc14 hf
      exact (j24  hf)
    · have hf := iq hc14 hf
      refine J_iload_n hK dX1_allowsWork_17 rfl 2 rfl rfl ?_
      refine J_iload_n hK dX1_allowsWork_18 rfl 3 rfl rfl ?_
      refine J_icmp_ne (tg := 24) hK dX1_allowsWork_19 rfl rfl (fun hc19 => ?_) (fun hc19 => ?_)
      · have hf := iq hc19 hf
        exact (j24  hf)
      · have hf := ip hc19 hf
        refine J_iconst (v := 0) hK dX1_allowsWork_22 rfl (by decide) ?_
        obtain rfl := Option.some.inj hf
        exact J_zret hK hR dX1_allowsWork_23 () rfl rfl (by decide) (by decide)

def fX2_has (p0 : Int32) : Option (Int32) :=
  (fX6_within p0 (0) (7)).bind (fun v1 => (zb v1).bind fun v3 => some v3)
set_option maxHeartbeats 4000000 in
set_option maxRecDepth 100000 in
theorem kX2_has (l : Launch) (d : DT)  (p0 : Int32)  {out : Int32} (hf : fX2_has p0 = some out) : Ct l d yX2_has cX2_has 1 (some .boolean) { frames := 1, cells := 0, slots := 0, locals := 22 } [.int p0] [] (fun _ : Unit => (some (.int out), [])) := by
  refine Ct.of (by decide) (Nat.le_of_ble_eq_true rfl) ?_
  intro Φ hl hK hR
  subst hl
  have hK : Ok d Φ RX2 "has" cX2_has 1 (some .boolean) { frames := 1, cells := 0, slots := 0, locals := 22 } := hK
  unfold fX2_has at hf
  show J d Φ 1 [] 0 0 0 [(0, .int p0)] []
  refine J_iload_n hK dX2_has_0 rfl 0 rfl rfl ?_
  refine J_iconst (v := 0) hK dX2_has_1 rfl (by decide) ?_
  refine J_bipush (v := 7) hK dX2_has_2 rfl (by decide) ?_
  obtain ⟨v1, e2, hf⟩ := bs hf
  refine J_callN (m' := 0) (ce' := 0) (sl' := 0) (gr := []) (gs' := fun _ => []) (st' := fun _ => [.int v1]) (st := []) hK dX2_has_4 cn_RX2_29 (As := [.int p0, .int (0), .int (7)]) (kX6_within _ d p0 (0) (7) e2) rfl rfl (Nat.le_of_ble_eq_true rfl) (by decide) [] [] rfl rfl rfl rfl [] rfl (fun _ => rfl) (fun _ => rfl) rfl rfl rfl (fun _ => rfl) (fun _ => ?_)
  obtain ⟨v3, ev3, hf⟩ := bs hf
  obtain rfl := Option.some.inj hf
  exact J_zret hK hR dX2_has_7 () (zb_ok ev3).2 (by rw [(zb_ok ev3).1]) (by decide) (by decide)

def fX2_hasRow (X0 : ShT) (p1 : Int32) : Option (Int32) :=
  u3 (fun (x0_elements : (Nat → Nat → Int64)) (x0_held : (Nat → Int32)) (x0_sizes : (Nat → Int32)) => (rd 8 x0_held p1).bind fun v1 => (fX6_within v1 (0) (4)).bind (fun v2 => (zb v2).bind fun v4 => some v4)) X0
set_option maxHeartbeats 4000000 in
set_option maxRecDepth 100000 in
theorem kX2_hasRow (l : Launch) (d : DT) (h0 : Nat → Nat) (r0_elements : Nat → Nat) (x0_elements : (Nat → Nat → Int64)) (x0_held : (Nat → Int32)) (x0_sizes : (Nat → Int32)) (p1 : Int32)  {out : Int32} (hf : fX2_hasRow (x0_elements, x0_held, x0_sizes) p1 = some out) : Ct l d yX2_hasRow cX2_hasRow 2 (some .boolean) { frames := 1, cells := 0, slots := 0, locals := 22 } [.ref (h0 0), .int p1] [gSh d h0 r0_elements x0_held x0_sizes] (fun _ : Unit => (some (.int out), [gSh d h0 r0_elements x0_held x0_sizes])) := by
  refine Ct.of (by decide) (Nat.le_of_ble_eq_true rfl) ?_
  intro Φ hl hK hR
  subst hl
  have hK : Ok d Φ RX2 "hasRow" cX2_hasRow 2 (some .boolean) { frames := 1, cells := 0, slots := 0, locals := 22 } := hK
  unfold fX2_hasRow at hf
  have hf := un3 hf
  show J d Φ 2 [gSh d h0 r0_elements x0_held x0_sizes] 0 0 0 [(0, .ref (h0 0)), (1, .int p1)] []
  refine J_aload_n hK dX2_hasRow_0 rfl 0 rfl rfl ?_
  refine J_get hK fo_RX2_16 dX2_hasRow_1 rfl 0 0 rfl rfl rfl ?_
  refine J_iload_n hK dX2_hasRow_4 rfl 1 rfl rfl ?_
  obtain ⟨v1, ev1, hf⟩ := bs hf
  refine J_iald hK dX2_hasRow_5 rfl 0 2 rfl rfl ev1 ?_
  refine J_iconst (v := 0) hK dX2_hasRow_6 rfl (by decide) ?_
  refine J_iconst (v := 4) hK dX2_hasRow_7 rfl (by decide) ?_
  obtain ⟨v2, e3, hf⟩ := bs hf
  refine J_callN (m' := 1) (ce' := 0) (sl' := 0) (gr := [gSh d h0 r0_elements x0_held x0_sizes]) (gs' := fun _ => [gSh d h0 r0_elements x0_held x0_sizes]) (st' := fun _ => [.int v2]) (st := []) hK dX2_hasRow_8 cn_RX2_29 (As := [.int v1, .int (0), .int (4)]) (kX6_within _ d v1 (0) (4) e3) rfl rfl (Nat.le_of_ble_eq_true rfl) (by decide) [] [0] rfl rfl rfl rfl [0] rfl (fun _ => rfl) (fun _ => rfl) rfl rfl rfl (fun _ => rfl) (fun _ => ?_)
  obtain ⟨v4, ev4, hf⟩ := bs hf
  obtain rfl := Option.some.inj hf
  exact J_zret hK hR dX2_hasRow_11 () (zb_ok ev4).2 (by rw [(zb_ok ev4).1]) (by decide) (by decide)

def fX2_hasWork (X0 : ShT) (p1 : Int32) : Option (Int32) :=
  u3 (fun (x0_elements : (Nat → Nat → Int64)) (x0_held : (Nat → Int32)) (x0_sizes : (Nat → Int32)) => (rd 8 x0_held p1).bind fun v1 => if v1 < 10 then (some (0)) else (some (1))) X0
set_option maxHeartbeats 4000000 in
set_option maxRecDepth 100000 in
theorem kX2_hasWork (l : Launch) (d : DT) (h0 : Nat → Nat) (r0_elements : Nat → Nat) (x0_elements : (Nat → Nat → Int64)) (x0_held : (Nat → Int32)) (x0_sizes : (Nat → Int32)) (p1 : Int32)  {out : Int32} (hf : fX2_hasWork (x0_elements, x0_held, x0_sizes) p1 = some out) : Ct l d yX2_hasWork cX2_hasWork 2 (some .boolean) { frames := 0, cells := 0, slots := 0, locals := 0 } [.ref (h0 0), .int p1] [gSh d h0 r0_elements x0_held x0_sizes] (fun _ : Unit => (some (.int out), [gSh d h0 r0_elements x0_held x0_sizes])) := by
  refine Ct.of (by decide) (Nat.le_of_ble_eq_true rfl) ?_
  intro Φ hl hK hR
  subst hl
  have hK : Ok d Φ RX2 "hasWork" cX2_hasWork 2 (some .boolean) { frames := 0, cells := 0, slots := 0, locals := 0 } := hK
  unfold fX2_hasWork at hf
  have hf := un3 hf
  show J d Φ 2 [gSh d h0 r0_elements x0_held x0_sizes] 0 0 0 [(0, .ref (h0 0)), (1, .int p1)] []
  refine J_aload_n hK dX2_hasWork_0 rfl 0 rfl rfl ?_
  refine J_get hK fo_RX2_16 dX2_hasWork_1 rfl 0 0 rfl rfl rfl ?_
  refine J_iload_n hK dX2_hasWork_4 rfl 1 rfl rfl ?_
  obtain ⟨v1, ev1, hf⟩ := bs hf
  refine J_iald hK dX2_hasWork_5 rfl 0 2 rfl rfl ev1 ?_
  refine J_bipush (v := 10) hK dX2_hasWork_6 rfl (by decide) ?_
  refine J_icmp_lt (tg := 15) hK dX2_hasWork_8 rfl rfl (fun hc8 => ?_) (fun hc8 => ?_)
  · have hf := ip hc8 hf
    refine J_iconst (v := 0) hK dX2_hasWork_15 rfl (by decide) ?_
    obtain rfl := Option.some.inj hf
    exact J_zret hK hR dX2_hasWork_16 () rfl rfl (by decide) (by decide)
  · have hf := iq hc8 hf
    refine J_iconst (v := 1) hK dX2_hasWork_11 rfl (by decide) ?_
    refine J_goto hK dX2_hasWork_12 (n := 16) rfl ?_
    obtain rfl := Option.some.inj hf
    exact J_zret hK hR dX2_hasWork_16 () rfl rfl (by decide) (by decide)

def fX2_differ (X0 : ShT) (p1 : Int32) (p2 : Int32) : Option (Int32) :=
  u3 (fun (x0_elements : (Nat → Nat → Int64)) (x0_held : (Nat → Int32)) (x0_sizes : (Nat → Int32)) => (rd 8 x0_held p1).bind fun v1 => if v1 = (-1) then (some (0)) else ((rd 8 x0_held p2).bind fun v2 => if v2 = (-1) then (some (0)) else ((rd 8 x0_held p1).bind fun v3 => (rd 8 x0_held p2).bind fun v4 => if v3 = v4 then (some (0)) else (some (1))))) X0
set_option maxHeartbeats 4000000 in
set_option maxRecDepth 100000 in
theorem kX2_differ (l : Launch) (d : DT) (h0 : Nat → Nat) (r0_elements : Nat → Nat) (x0_elements : (Nat → Nat → Int64)) (x0_held : (Nat → Int32)) (x0_sizes : (Nat → Int32)) (p1 : Int32) (p2 : Int32)  {out : Int32} (hf : fX2_differ (x0_elements, x0_held, x0_sizes) p1 p2 = some out) : Ct l d yX2_differ cX2_differ 3 (some .boolean) { frames := 0, cells := 0, slots := 0, locals := 0 } [.ref (h0 0), .int p1, .int p2] [gSh d h0 r0_elements x0_held x0_sizes] (fun _ : Unit => (some (.int out), [gSh d h0 r0_elements x0_held x0_sizes])) := by
  refine Ct.of (by decide) (Nat.le_of_ble_eq_true rfl) ?_
  intro Φ hl hK hR
  subst hl
  have hK : Ok d Φ RX2 "differ" cX2_differ 3 (some .boolean) { frames := 0, cells := 0, slots := 0, locals := 0 } := hK
  unfold fX2_differ at hf
  have hf := un3 hf
  show J d Φ 3 [gSh d h0 r0_elements x0_held x0_sizes] 0 0 0 [(0, .ref (h0 0)), (1, .int p1), (2, .int p2)] []
  refine J_aload_n hK dX2_differ_0 rfl 0 rfl rfl ?_
  refine J_get hK fo_RX2_16 dX2_differ_1 rfl 0 0 rfl rfl rfl ?_
  refine J_iload_n hK dX2_differ_4 rfl 1 rfl rfl ?_
  obtain ⟨v1, ev1, hf⟩ := bs hf
  refine J_iald hK dX2_differ_5 rfl 0 2 rfl rfl ev1 ?_
  refine J_iconst (v := (-1)) hK dX2_differ_6 rfl (by decide) ?_
  refine J_icmp_eq (tg := 39) hK dX2_differ_7 rfl rfl (fun hc7 => ?_) (fun hc7 => ?_)
  · have hf := ip hc7 hf
    refine J_iconst (v := 0) hK dX2_differ_39 rfl (by decide) ?_
    obtain rfl := Option.some.inj hf
    exact J_zret hK hR dX2_differ_40 () rfl rfl (by decide) (by decide)
  · have hf := iq hc7 hf
    refine J_aload_n hK dX2_differ_10 rfl 0 rfl rfl ?_
    refine J_get hK fo_RX2_16 dX2_differ_11 rfl 0 0 rfl rfl rfl ?_
    refine J_iload_n hK dX2_differ_14 rfl 2 rfl rfl ?_
    obtain ⟨v2, ev2, hf⟩ := bs hf
    refine J_iald hK dX2_differ_15 rfl 0 2 rfl rfl ev2 ?_
    refine J_iconst (v := (-1)) hK dX2_differ_16 rfl (by decide) ?_
    refine J_icmp_eq (tg := 39) hK dX2_differ_17 rfl rfl (fun hc17 => ?_) (fun hc17 => ?_)
    · have hf := ip hc17 hf
      refine J_iconst (v := 0) hK dX2_differ_39 rfl (by decide) ?_
      obtain rfl := Option.some.inj hf
      exact J_zret hK hR dX2_differ_40 () rfl rfl (by decide) (by decide)
    · have hf := iq hc17 hf
      refine J_aload_n hK dX2_differ_20 rfl 0 rfl rfl ?_
      refine J_get hK fo_RX2_16 dX2_differ_21 rfl 0 0 rfl rfl rfl ?_
      refine J_iload_n hK dX2_differ_24 rfl 1 rfl rfl ?_
      obtain ⟨v3, ev3, hf⟩ := bs hf
      refine J_iald hK dX2_differ_25 rfl 0 2 rfl rfl ev3 ?_
      refine J_aload_n hK dX2_differ_26 rfl 0 rfl rfl ?_
      refine J_get hK fo_RX2_16 dX2_differ_27 rfl 0 0 rfl rfl rfl ?_
      refine J_iload_n hK dX2_differ_30 rfl 2 rfl rfl ?_
      obtain ⟨v4, ev4, hf⟩ := bs hf
      refine J_iald hK dX2_differ_31 rfl 0 2 rfl rfl ev4 ?_
      refine J_icmp_eq (tg := 39) hK dX2_differ_32 rfl rfl (fun hc32 => ?_) (fun hc32 => ?_)
      · have hf := ip hc32 hf
        refine J_iconst (v := 0) hK dX2_differ_39 rfl (by decide) ?_
        obtain rfl := Option.some.inj hf
        exact J_zret hK hR dX2_differ_40 () rfl rfl (by decide) (by decide)
      · have hf := iq hc32 hf
        refine J_iconst (v := 1) hK dX2_differ_35 rfl (by decide) ?_
        refine J_goto hK dX2_differ_36 (n := 40) rfl ?_
        obtain rfl := Option.some.inj hf
        exact J_zret hK hR dX2_differ_40 () rfl rfl (by decide) (by decide)

def fX2_workIn (X0 : ShT) (p1 : Int32) : Option (Int32) :=
  u3 (fun (x0_elements : (Nat → Nat → Int64)) (x0_held : (Nat → Int32)) (x0_sizes : (Nat → Int32)) => (fX2_hasWork (x0_elements, x0_held, x0_sizes) p1).bind (fun v1 => if v1 = 0 then (some (-1)) else ((rd 8 x0_held p1).bind fun v3 => some (v3 - 10)))) X0
set_option maxHeartbeats 4000000 in
set_option maxRecDepth 100000 in
theorem kX2_workIn (l : Launch) (d : DT) (h0 : Nat → Nat) (r0_elements : Nat → Nat) (x0_elements : (Nat → Nat → Int64)) (x0_held : (Nat → Int32)) (x0_sizes : (Nat → Int32)) (p1 : Int32)  {out : Int32} (hf : fX2_workIn (x0_elements, x0_held, x0_sizes) p1 = some out) : Ct l d yX2_workIn cX2_workIn 2 (some .int) { frames := 1, cells := 0, slots := 0, locals := 21 } [.ref (h0 0), .int p1] [gSh d h0 r0_elements x0_held x0_sizes] (fun _ : Unit => (some (.int out), [gSh d h0 r0_elements x0_held x0_sizes])) := by
  refine Ct.of (by decide) (Nat.le_of_ble_eq_true rfl) ?_
  intro Φ hl hK hR
  subst hl
  have hK : Ok d Φ RX2 "workIn" cX2_workIn 2 (some .int) { frames := 1, cells := 0, slots := 0, locals := 21 } := hK
  unfold fX2_workIn at hf
  have hf := un3 hf
  show J d Φ 2 [gSh d h0 r0_elements x0_held x0_sizes] 0 0 0 [(0, .ref (h0 0)), (1, .int p1)] []
  refine J_aload_n hK dX2_workIn_0 rfl 0 rfl rfl ?_
  refine J_iload_n hK dX2_workIn_1 rfl 1 rfl rfl ?_
  obtain ⟨v1, e2, hf⟩ := bs hf
  refine J_callV (m' := 1) (ce' := 0) (sl' := 0) (gr := []) (gs' := fun _ => [gSh d h0 r0_elements x0_held x0_sizes]) (st' := fun _ => [.int v1]) (st := []) hK dX2_workIn_2 cv_RX2_33 iv_yX2_hasWork (As := [.int p1]) (kX2_hasWork _ d h0 r0_elements x0_elements x0_held x0_sizes p1 e2) rfl rfl (Nat.le_of_ble_eq_true rfl) (by decide) 0 0 rfl rfl rfl [0] [] rfl rfl rfl rfl [0] rfl (fun _ => rfl) (fun _ => rfl) rfl rfl rfl (fun _ => rfl) (fun _ => ?_)
  refine J_if_eq (tg := 20) hK dX2_workIn_5 rfl rfl (fun hc5 => ?_) (fun hc5 => ?_)
  · have hf := ip hc5 hf
    refine J_iconst (v := (-1)) hK dX2_workIn_20 rfl (by decide) ?_
    obtain rfl := Option.some.inj hf
    exact J_iret hK hR dX2_workIn_21 () rfl (by decide) (by decide)
  · have hf := iq hc5 hf
    refine J_aload_n hK dX2_workIn_8 rfl 0 rfl rfl ?_
    refine J_get hK fo_RX2_16 dX2_workIn_9 rfl 0 0 rfl rfl rfl ?_
    refine J_iload_n hK dX2_workIn_12 rfl 1 rfl rfl ?_
    obtain ⟨v3, ev3, hf⟩ := bs hf
    refine J_iald hK dX2_workIn_13 rfl 0 2 rfl rfl ev3 ?_
    refine J_bipush (v := 10) hK dX2_workIn_14 rfl (by decide) ?_
    refine J_isub hK dX2_workIn_16 rfl ?_
    refine J_goto hK dX2_workIn_17 (n := 21) rfl ?_
    obtain rfl := Option.some.inj hf
    exact J_iret hK hR dX2_workIn_21 () rfl (by decide) (by decide)

def fJ7_fill_d0a16_s6 (m0 : Nat) (p1 : Int64) (z2 : Int32) (z3 : (Nat → Int64)) : Option ((Int32 × (Nat → Int64)) ⊕ ((Nat → Int64))) :=
  if (Int32.ofNat m0) ≤ z2 then (some (.inr z3)) else ((wr m0 z3 z2 p1).bind fun f6 => some (.inl ((z2 + 1), f6)))
def fJ7_fill_d0a16 (n : Nat) (m0 : Nat) (p0 : (Nat → Int64)) (p1 : Int64) : Option ((Nat → Int64)) :=
  (lp (u2 (fJ7_fill_d0a16_s6 m0 p1)) n (0, p0)).bind (fun w5 => some w5)
set_option maxHeartbeats 4000000 in
set_option maxRecDepth 100000 in
theorem kJ7_fill_d0a16 (l : Launch) (d : DT) (b0 : Nat) (n : Nat) (m0 : Nat) (p0 : (Nat → Int64)) (p1 : Int64)  {out : (Nat → Int64)} (hf : fJ7_fill_d0a16 n m0 p0 p1 = some out) : Ct l d yJ7_fill_d0a16 cJ7_fill_d0a16 5 none { frames := 0, cells := 0, slots := 0, locals := 0 } [.ref b0, .long p1] [[cJ d b0 m0 p0]] (fun _ : Unit => (none, [[cJ d b0 m0 out]])) := by
  refine Ct.of (by decide) (Nat.le_of_ble_eq_true rfl) ?_
  intro Φ hl hK hR
  subst hl
  have hK : Ok d Φ RJ7 "fill" cJ7_fill_d0a16 5 none { frames := 0, cells := 0, slots := 0, locals := 0 } := hK
  unfold fJ7_fill_d0a16 at hf
  show J d Φ 5 [[cJ d b0 m0 p0]] 0 0 0 [(0, .ref b0), (1, .long p1)] []
  refine J_iconst (v := 0) hK dJ7_fill_d0a16_0 rfl (by decide) ?_
  refine J_istore_n (L' := [(3, .int (0)), (0, .ref b0), (1, .long p1)]) hK dJ7_fill_d0a16_1 rfl rfl (by decide) rfl ?_
  refine J_aload_n hK dJ7_fill_d0a16_2 rfl 1 rfl rfl ?_
  refine J_alen (v := (Int32.ofNat m0)) hK dJ7_fill_d0a16_3 rfl 0 0 rfl rfl 1 rfl rfl ?_
  refine J_istore (L' := [(4, .int (Int32.ofNat m0)), (3, .int (0)), (0, .ref b0), (1, .long p1)]) hK dJ7_fill_d0a16_4 rfl (by decide) rfl ?_
  obtain ⟨e4, hl1, hf⟩ := bs hf
  have hx1_22 : ∀ (w5 : (Nat → Int64)), w5 = e4 → J d Φ 5 [[cJ d b0 m0 w5]] 0 0 22 [] [] := by
    intro w5 he
    rw [← he] at hf
    obtain rfl := Option.some.inj hf
    exact J_vret hK hR dJ7_fill_d0a16_22 () rfl (by decide) (by decide)
  have lo1 : ∀ (k : Nat) (z2 : Int32) (z3 : (Nat → Int64)), lp (u2 (fJ7_fill_d0a16_s6 m0 p1)) k (z2, z3) = some e4 → J d Φ 5 [[cJ d b0 m0 z3]] 0 0 6 [(0, .ref b0), (1, .long p1), (3, .int z2), (4, .int (Int32.ofNat m0))] [] := by
    intro k
    induction k with
    | zero => intro z2 z3 h; cases h
    | succ k ih1 =>
      intro z2 z3 h
      obtain ⟨k2, rr1, hk2, hs1, hr1⟩ := lp_ok h
      cases hk2
      have hs1 : fJ7_fill_d0a16_s6 m0 p1 z2 z3 = some rr1 := hs1
      unfold fJ7_fill_d0a16_s6 at hs1
      refine J_iload_n hK dJ7_fill_d0a16_6 rfl 2 rfl rfl ?_
      refine J_iload hK dJ7_fill_d0a16_7 rfl 3 rfl ?_
      refine J_icmp_ge (tg := 22) hK dJ7_fill_d0a16_9 rfl rfl (fun hc9 => ?_) (fun hc9 => ?_)
      · have hs1 := ip hc9 hs1
        exact J_loc [] rfl (hx1_22 z3 (lpx hs1 hr1))
      · have hs1 := iq hc9 hs1
        refine J_aload_n hK dJ7_fill_d0a16_12 rfl 0 rfl rfl ?_
        refine J_iload_n hK dJ7_fill_d0a16_13 rfl 2 rfl rfl ?_
        refine J_lload_n hK dJ7_fill_d0a16_14 rfl 1 rfl rfl ?_
        obtain ⟨f6, ef6, hs1⟩ := bs hs1
        refine J_last (g' := [cJ d b0 m0 f6]) (gs' := [[cJ d b0 m0 f6]]) hK dJ7_fill_d0a16_15 rfl 0 0 rfl rfl ef6 rfl rfl ?_
        refine J_iinc (L' := [(3, .int (z2 + 1)), (0, .ref b0), (1, .long p1), (4, .int (Int32.ofNat m0))]) (v := (z2 + 1)) hK dJ7_fill_d0a16_16 rfl 2 rfl rfl (by decide) rfl ?_
        refine J_goto hK dJ7_fill_d0a16_19 (n := 6) rfl ?_
        exact J_loc [1, 2, 0, 3] rfl (ih1 (z2 + 1) f6 (lpc hs1 hr1))
  exact J_loc [2, 3, 1, 0] rfl (lo1 n (0) p0 hl1)

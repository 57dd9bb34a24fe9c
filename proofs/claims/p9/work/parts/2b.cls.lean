def fX6_run_s21 (n : Nat) (p1 : Int32) (x0_refused : (Nat → Int32)) (x0_isKept : Int32) (x1_gained : (Nat → Int32)) (x2_knownFree : (Nat → Int32)) (x3_goodsCount : Int32) (x3_workCount : Int32) (x3_years : Int32) (x3_goods : (Nat → Int32)) (x3_coin : (Nat → Int32)) (x4_left : (Nat → Int32)) (x4_earned : (Nat → Int32)) (x4_turnCost : Int32) (x4_turnWayless : Int32) (x5_steps : (Nat → Int32)) (x5_nodes : (Nat → Int32)) (x5_stepCount : Int32) (x5_open : (Nat → Int32)) (x5_openCount : Int32) (x5_seen : Int64) (z4 : Int32) (z5 : Int32) (z6 : Int32) (z7 : Int32) (z8 : Int32) (z9 : Int32) (z10 : Int32) (z11 : Int32) (z12 : (Nat → Int32)) (z13 : (Nat → Int32)) (z14 : (Nat → Int32)) (z15 : (Nat → Int32)) (z16 : (Nat → Int32)) (z17 : Int32) (z18 : Int32) (z19 : (Nat → Int32)) (z20 : (Nat → Int32)) (z21 : (Nat → Int32)) (z22 : (Nat → Int32)) (z23 : Int32) (z24 : (Nat → Int32)) (z25 : (Nat → Int32)) (z26 : (Nat → Int32)) (z27 : (Nat → Int32)) (z28 : (Nat → Int32)) (z29 : (Nat → Int32)) (z30 : Int32) (z31 : Int32) : Option ((Int32 × Int32 × Int32 × Int32 × Int32 × Int32 × Int32 × Int32 × (Nat → Int32) × (Nat → Int32) × (Nat → Int32) × (Nat → Int32) × (Nat → Int32) × Int32 × Int32 × (Nat → Int32) × (Nat → Int32) × (Nat → Int32) × (Nat → Int32) × Int32 × (Nat → Int32) × (Nat → Int32) × (Nat → Int32) × (Nat → Int32) × (Nat → Int32) × (Nat → Int32) × Int32 × Int32) ⊕ (Int32 × Int32 × Int32 × Int32 × Int32 × Int32 × Int32 × (Nat → Int32) × (Nat → Int32) × (Nat → Int32) × (Nat → Int32) × (Nat → Int32) × Int32 × Int32 × (Nat → Int32) × (Nat → Int32) × (Nat → Int32) × (Nat → Int32) × Int32 × (Nat → Int32) × (Nat → Int32) × (Nat → Int32) × (Nat → Int32) × (Nat → Int32) × (Nat → Int32) × Int32 × Int32)) :=
  if p1 ≤ z5 then (some (.inr (z4, z6, z7, z8, z9, z10, z11, z12, z13, z14, z15, z16, z17, z18, z19, z20, z21, z22, z23, z24, z25, z26, z27, z28, z29, z30, z31))) else ((fX0_firstOf n x1_gained (x4_left, x4_earned, x4_turnCost, x4_turnWayless) (z24, z25, z26, z27, z28, z29, x5_steps, x5_nodes, x5_stepCount, x5_open, x5_openCount, x5_seen, z30, z31) (z8, z9, z10, z11, z12, z13, z14, z15, z16, x2_knownFree, z17) (z18, x3_goodsCount, x3_workCount, x3_years, z19, x3_goods, z20, z21, x3_coin, z22, z23)).bind (u4 fun v60 G61 G70 G81 => u8 (fun g62 g63 g64 g65 g66 g67 g68 g69 => u10 (fun g71 g72 g73 g74 g75 g76 g77 g78 g79 g80 => u5 (fun g82 g83 g84 g85 g86 => (fX6_passYear n (x0_refused, x0_isKept, z6, z7) x1_gained (g71, g72, g73, g74, g75, g76, g77, g78, g79, x2_knownFree, g80) (g82, x3_goodsCount, x3_workCount, x3_years, g83, x3_goods, z20, g84, x3_coin, g85, g86) (x4_left, x4_earned, x4_turnCost, x4_turnWayless) (g62, g63, g64, g65, g66, g67, x5_steps, x5_nodes, x5_stepCount, x5_open, x5_openCount, x5_seen, g68, g69) v60).bind (u6 fun v88 g89 g90 G91 G102 G109 => u10 (fun g92 g93 g94 g95 g96 g97 g98 g99 g100 g101 => u6 (fun g103 g104 g105 g106 g107 g108 => u8 (fun g110 g111 g112 g113 g114 g115 g116 g117 => some (.inl ((z4 + v88), (z5 + 1), g89, g90, g92, g93, g94, g95, g96, g97, g98, g99, g100, g101, g103, g104, g105, g106, g107, g108, g110, g111, g112, g113, g114, g115, g116, g117))) G109) G102) G91)) G81) G70) G61))
def fX6_run (n : Nat) (X0 : TwT) (X1 : ChT) (X2 : LdT) (X3 : LdT) (X4 : TrT) (X5 : WyT) (p1 : Int32) : Option (Int32 × (Nat → Int32) × Int32 × Int32 × (Int32 × Int32 × Int32 × Int32 × (Nat → Int32) × (Nat → Int32) × (Nat → Int32) × (Nat → Int32) × (Nat → Int32) × Int32) × (Int32 × (Nat → Int32) × (Nat → Int32) × (Nat → Int32) × (Nat → Int32) × Int32) × ((Nat → Int32) × (Nat → Int32) × (Nat → Int32) × (Nat → Int32) × (Nat → Int32) × (Nat → Int32) × Int32 × Int32)) :=
  u4 (fun (x0_refused : (Nat → Int32)) (x0_isKept : Int32) (x0_gone : Int32) (x0_spent : Int32) => (fun (x1_gained : (Nat → Int32)) => u11 (fun (x2_lineCount : Int32) (x2_goodsCount : Int32) (x2_workCount : Int32) (x2_years : Int32) (x2_lines : (Nat → Int32)) (x2_goods : (Nat → Int32)) (x2_works : (Nat → Int32)) (x2_change : (Nat → Int32)) (x2_coin : (Nat → Int32)) (x2_knownFree : (Nat → Int32)) (x2_isKnown : Int32) => u11 (fun (x3_lineCount : Int32) (x3_goodsCount : Int32) (x3_workCount : Int32) (x3_years : Int32) (x3_lines : (Nat → Int32)) (x3_goods : (Nat → Int32)) (x3_works : (Nat → Int32)) (x3_change : (Nat → Int32)) (x3_coin : (Nat → Int32)) (x3_knownFree : (Nat → Int32)) (x3_isKnown : Int32) => u4 (fun (x4_left : (Nat → Int32)) (x4_earned : (Nat → Int32)) (x4_turnCost : Int32) (x4_turnWayless : Int32) => u14 (fun (x5_edgeA : (Nat → Int32)) (x5_edgeB : (Nat → Int32)) (x5_edgeCost : (Nat → Int32)) (x5_edgeLine : (Nat → Int32)) (x5_change : (Nat → Int32)) (x5_away : (Nat → Int32)) (x5_steps : (Nat → Int32)) (x5_nodes : (Nat → Int32)) (x5_stepCount : Int32) (x5_open : (Nat → Int32)) (x5_openCount : Int32) (x5_seen : Int64) (x5_edgeCount : Int32) (x5_aim : Int32) => (fX6_within p1 (1) (20)).bind (fun v1 => if v1 = 0 then ((fX6_refuse (x0_refused, x0_isKept, x0_gone, x0_spent) (-2)).bind (u2 fun v119 g120 => some (v119, g120, x0_gone, x0_spent, (x2_lineCount, x2_goodsCount, x2_workCount, x2_years, x2_lines, x2_goods, x2_works, x2_change, x2_coin, x2_isKnown), (x3_lineCount, x3_lines, x3_works, x3_change, x3_knownFree, x3_isKnown), (x5_edgeA, x5_edgeB, x5_edgeCost, x5_edgeLine, x5_change, x5_away, x5_edgeCount, x5_aim)))) else ((lp (u28 (fX6_run_s21 n p1 x0_refused x0_isKept x1_gained x2_knownFree x3_goodsCount x3_workCount x3_years x3_goods x3_coin x4_left x4_earned x4_turnCost x4_turnWayless x5_steps x5_nodes x5_stepCount x5_open x5_openCount x5_seen)) n (0, 0, x0_gone, x0_spent, x2_lineCount, x2_goodsCount, x2_workCount, x2_years, x2_lines, x2_goods, x2_works, x2_change, x2_coin, x2_isKnown, x3_lineCount, x3_lines, x3_works, x3_change, x3_knownFree, x3_isKnown, x5_edgeA, x5_edgeB, x5_edgeCost, x5_edgeLine, x5_change, x5_away, x5_edgeCount, x5_aim)).bind (u27 fun w33 w34 w35 w36 w37 w38 w39 w40 w41 w42 w43 w44 w45 w46 w47 w48 w49 w50 w51 w52 w53 w54 w55 w56 w57 w58 w59 => some (w33, x0_refused, w34, w35, (w36, w37, w38, w39, w40, w41, w42, w43, w44, w45), (w46, w47, w48, w49, w50, w51), (w52, w53, w54, w55, w56, w57, w58, w59)))))) X5) X4) X3) X2) X1) X0
set_option maxHeartbeats 4000000 in
set_option maxRecDepth 100000 in
theorem kX6_run (l : Launch) (d : DT) (h0 : Nat → Nat) (a0_kept : Nat) (a0_tape : Nat) (a0_shelves : Nat) (h1 : Nat → Nat) (a1_after : Nat) (h2 : Nat → Nat) (h3 : Nat → Nat) (h4 : Nat → Nat) (h5 : Nat → Nat) (n : Nat) (x0_refused : (Nat → Int32)) (x0_isKept : Int32) (x0_gone : Int32) (x0_spent : Int32) (x1_gained : (Nat → Int32)) (x2_lineCount : Int32) (x2_goodsCount : Int32) (x2_workCount : Int32) (x2_years : Int32) (x2_lines : (Nat → Int32)) (x2_goods : (Nat → Int32)) (x2_works : (Nat → Int32)) (x2_change : (Nat → Int32)) (x2_coin : (Nat → Int32)) (x2_knownFree : (Nat → Int32)) (x2_isKnown : Int32) (x3_lineCount : Int32) (x3_goodsCount : Int32) (x3_workCount : Int32) (x3_years : Int32) (x3_lines : (Nat → Int32)) (x3_goods : (Nat → Int32)) (x3_works : (Nat → Int32)) (x3_change : (Nat → Int32)) (x3_coin : (Nat → Int32)) (x3_knownFree : (Nat → Int32)) (x3_isKnown : Int32) (x4_left : (Nat → Int32)) (x4_earned : (Nat → Int32)) (x4_turnCost : Int32) (x4_turnWayless : Int32) (x5_edgeA : (Nat → Int32)) (x5_edgeB : (Nat → Int32)) (x5_edgeCost : (Nat → Int32)) (x5_edgeLine : (Nat → Int32)) (x5_change : (Nat → Int32)) (x5_away : (Nat → Int32)) (x5_steps : (Nat → Int32)) (x5_nodes : (Nat → Int32)) (x5_stepCount : Int32) (x5_open : (Nat → Int32)) (x5_openCount : Int32) (x5_seen : Int64) (x5_edgeCount : Int32) (x5_aim : Int32) (p1 : Int32)  {out : Int32 × (Nat → Int32) × Int32 × Int32 × (Int32 × Int32 × Int32 × Int32 × (Nat → Int32) × (Nat → Int32) × (Nat → Int32) × (Nat → Int32) × (Nat → Int32) × Int32) × (Int32 × (Nat → Int32) × (Nat → Int32) × (Nat → Int32) × (Nat → Int32) × Int32) × ((Nat → Int32) × (Nat → Int32) × (Nat → Int32) × (Nat → Int32) × (Nat → Int32) × (Nat → Int32) × Int32 × Int32)} (hf : fX6_run n (x0_refused, x0_isKept, x0_gone, x0_spent) x1_gained (x2_lineCount, x2_goodsCount, x2_workCount, x2_years, x2_lines, x2_goods, x2_works, x2_change, x2_coin, x2_knownFree, x2_isKnown) (x3_lineCount, x3_goodsCount, x3_workCount, x3_years, x3_lines, x3_goods, x3_works, x3_change, x3_coin, x3_knownFree, x3_isKnown) (x4_left, x4_earned, x4_turnCost, x4_turnWayless) (x5_edgeA, x5_edgeB, x5_edgeCost, x5_edgeLine, x5_change, x5_away, x5_steps, x5_nodes, x5_stepCount, x5_open, x5_openCount, x5_seen, x5_edgeCount, x5_aim) p1 = some out) : Ct l d yX6_run cX6_run 4 (some .int) { frames := 6, cells := 0, slots := 0, locals := 151 } [.ref (h0 0), .int p1] [gTw d h0 (h3 0) a0_kept a0_tape a0_shelves (h1 0) (h4 0) x0_refused x0_isKept x0_gone x0_spent, gCh d h1 (h4 0) a1_after (h2 0) x1_gained, gLd d h2 x2_lineCount x2_goodsCount x2_workCount x2_years x2_lines x2_goods x2_works x2_change x2_coin x2_knownFree x2_isKnown, gLd d h3 x3_lineCount x3_goodsCount x3_workCount x3_years x3_lines x3_goods x3_works x3_change x3_coin x3_knownFree x3_isKnown, gTr d h4 (h5 0) x4_left x4_earned x4_turnCost x4_turnWayless, gWy d h5 x5_edgeA x5_edgeB x5_edgeCost x5_edgeLine x5_change x5_away x5_steps x5_nodes x5_stepCount x5_open x5_openCount x5_seen x5_edgeCount x5_aim] (fun _ : Unit => (some (.int out.1), [gTw d h0 (h3 0) a0_kept a0_tape a0_shelves (h1 0) (h4 0) (out.2.1) x0_isKept (out.2.2.1) (out.2.2.2.1), gCh d h1 (h4 0) a1_after (h2 0) x1_gained, gLd d h2 (out.2.2.2.2.1.1) (out.2.2.2.2.1.2.1) (out.2.2.2.2.1.2.2.1) (out.2.2.2.2.1.2.2.2.1) (out.2.2.2.2.1.2.2.2.2.1) (out.2.2.2.2.1.2.2.2.2.2.1) (out.2.2.2.2.1.2.2.2.2.2.2.1) (out.2.2.2.2.1.2.2.2.2.2.2.2.1) (out.2.2.2.2.1.2.2.2.2.2.2.2.2.1) x2_knownFree (out.2.2.2.2.1.2.2.2.2.2.2.2.2.2), gLd d h3 (out.2.2.2.2.2.1.1) x3_goodsCount x3_workCount x3_years (out.2.2.2.2.2.1.2.1) x3_goods (out.2.2.2.2.2.1.2.2.1) (out.2.2.2.2.2.1.2.2.2.1) x3_coin (out.2.2.2.2.2.1.2.2.2.2.1) (out.2.2.2.2.2.1.2.2.2.2.2), gTr d h4 (h5 0) x4_left x4_earned x4_turnCost x4_turnWayless, gWy d h5 (out.2.2.2.2.2.2.1) (out.2.2.2.2.2.2.2.1) (out.2.2.2.2.2.2.2.2.1) (out.2.2.2.2.2.2.2.2.2.1) (out.2.2.2.2.2.2.2.2.2.2.1) (out.2.2.2.2.2.2.2.2.2.2.2.1) x5_steps x5_nodes x5_stepCount x5_open x5_openCount x5_seen (out.2.2.2.2.2.2.2.2.2.2.2.2.1) (out.2.2.2.2.2.2.2.2.2.2.2.2.2)])) := by
  refine Ct.of (by decide) (Nat.le_of_ble_eq_true rfl) ?_
  intro Φ hl hK hR
  subst hl
  have hK : Ok d Φ RX6 "run" cX6_run 4 (some .int) { frames := 6, cells := 0, slots := 0, locals := 151 } := hK
  unfold fX6_run at hf
  have hf := un4 hf
  have hf := un11 hf
  have hf := un11 hf
  have hf := un4 hf
  have hf := un14 hf
  show J d Φ 4 [gTw d h0 (h3 0) a0_kept a0_tape a0_shelves (h1 0) (h4 0) x0_refused x0_isKept x0_gone x0_spent, gCh d h1 (h4 0) a1_after (h2 0) x1_gained, gLd d h2 x2_lineCount x2_goodsCount x2_workCount x2_years x2_lines x2_goods x2_works x2_change x2_coin x2_knownFree x2_isKnown, gLd d h3 x3_lineCount x3_goodsCount x3_workCount x3_years x3_lines x3_goods x3_works x3_change x3_coin x3_knownFree x3_isKnown, gTr d h4 (h5 0) x4_left x4_earned x4_turnCost x4_turnWayless, gWy d h5 x5_edgeA x5_edgeB x5_edgeCost x5_edgeLine x5_change x5_away x5_steps x5_nodes x5_stepCount x5_open x5_openCount x5_seen x5_edgeCount x5_aim] 0 0 0 [(0, .ref (h0 0)), (1, .int p1)] []
  refine J_iload_n hK dX6_run_0 rfl 1 rfl rfl ?_
  refine J_iconst (v := 1) hK dX6_run_1 rfl (by decide) ?_
  refine J_bipush (v := 20) hK dX6_run_2 rfl (by decide) ?_
  obtain ⟨v1, e2, hf⟩ := bs hf
  refine J_callS (m' := 6) (ce' := 0) (sl' := 0) (gr := [gTw d h0 (h3 0) a0_kept a0_tape a0_shelves (h1 0) (h4 0) x0_refused x0_isKept x0_gone x0_spent, gCh d h1 (h4 0) a1_after (h2 0) x1_gained, gLd d h2 x2_lineCount x2_goodsCount x2_workCount x2_years x2_lines x2_goods x2_works x2_change x2_coin x2_knownFree x2_isKnown, gLd d h3 x3_lineCount x3_goodsCount x3_workCount x3_years x3_lines x3_goods x3_works x3_change x3_coin x3_knownFree x3_isKnown, gTr d h4 (h5 0) x4_left x4_earned x4_turnCost x4_turnWayless, gWy d h5 x5_edgeA x5_edgeB x5_edgeCost x5_edgeLine x5_change x5_away x5_steps x5_nodes x5_stepCount x5_open x5_openCount x5_seen x5_edgeCount x5_aim]) (gs' := fun _ => [gTw d h0 (h3 0) a0_kept a0_tape a0_shelves (h1 0) (h4 0) x0_refused x0_isKept x0_gone x0_spent, gCh d h1 (h4 0) a1_after (h2 0) x1_gained, gLd d h2 x2_lineCount x2_goodsCount x2_workCount x2_years x2_lines x2_goods x2_works x2_change x2_coin x2_knownFree x2_isKnown, gLd d h3 x3_lineCount x3_goodsCount x3_workCount x3_years x3_lines x3_goods x3_works x3_change x3_coin x3_knownFree x3_isKnown, gTr d h4 (h5 0) x4_left x4_earned x4_turnCost x4_turnWayless, gWy d h5 x5_edgeA x5_edgeB x5_edgeCost x5_edgeLine x5_change x5_away x5_steps x5_nodes x5_stepCount x5_open x5_openCount x5_seen x5_edgeCount x5_aim]) (st' := fun _ => [.int v1]) (st := []) hK dX6_run_4 cv_RX6_64 ws_yX6_within (As := [.int p1, .int (1), .int (20)]) (kX6_within _ d p1 (1) (20) e2) rfl rfl (Nat.le_of_ble_eq_true rfl) (by decide) [] [0, 1, 2, 3, 4, 5] rfl rfl rfl rfl [0, 1, 2, 3, 4, 5] rfl (fun _ => rfl) (fun _ => rfl) rfl rfl rfl (fun _ => rfl) (fun _ => ?_)
  refine J_if_ne (tg := 17) hK dX6_run_7 rfl rfl (fun hc7 => ?_) (fun hc7 => ?_)
  · have hf := iq hc7 hf
    refine J_iconst (v := 0) hK dX6_run_17 rfl (by decide) ?_
    refine J_istore_n (L' := [(2, .int (0)), (0, .ref (h0 0)), (1, .int p1)]) hK dX6_run_18 rfl rfl (by decide) rfl ?_
    refine J_iconst (v := 0) hK dX6_run_19 rfl (by decide) ?_
    refine J_istore_n (L' := [(3, .int (0)), (2, .int (0)), (0, .ref (h0 0)), (1, .int p1)]) hK dX6_run_20 rfl rfl (by decide) rfl ?_
    obtain ⟨e32, hl3, hf⟩ := bs hf
    have hx3_50 : ∀ (w33 : Int32) (w34 : Int32) (w35 : Int32) (w36 : Int32) (w37 : Int32) (w38 : Int32) (w39 : Int32) (w40 : (Nat → Int32)) (w41 : (Nat → Int32)) (w42 : (Nat → Int32)) (w43 : (Nat → Int32)) (w44 : (Nat → Int32)) (w45 : Int32) (w46 : Int32) (w47 : (Nat → Int32)) (w48 : (Nat → Int32)) (w49 : (Nat → Int32)) (w50 : (Nat → Int32)) (w51 : Int32) (w52 : (Nat → Int32)) (w53 : (Nat → Int32)) (w54 : (Nat → Int32)) (w55 : (Nat → Int32)) (w56 : (Nat → Int32)) (w57 : (Nat → Int32)) (w58 : Int32) (w59 : Int32), (w33, w34, w35, w36, w37, w38, w39, w40, w41, w42, w43, w44, w45, w46, w47, w48, w49, w50, w51, w52, w53, w54, w55, w56, w57, w58, w59) = e32 → J d Φ 4 [gTw d h0 (h3 0) a0_kept a0_tape a0_shelves (h1 0) (h4 0) x0_refused x0_isKept w34 w35, gCh d h1 (h4 0) a1_after (h2 0) x1_gained, gLd d h2 w36 w37 w38 w39 w40 w41 w42 w43 w44 x2_knownFree w45, gLd d h3 w46 x3_goodsCount x3_workCount x3_years w47 x3_goods w48 w49 x3_coin w50 w51, gTr d h4 (h5 0) x4_left x4_earned x4_turnCost x4_turnWayless, gWy d h5 w52 w53 w54 w55 w56 w57 x5_steps x5_nodes x5_stepCount x5_open x5_openCount x5_seen w58 w59] 0 0 50 [(2, .int w33)] [] := by
      intro w33 w34 w35 w36 w37 w38 w39 w40 w41 w42 w43 w44 w45 w46 w47 w48 w49 w50 w51 w52 w53 w54 w55 w56 w57 w58 w59 he
      rw [← he] at hf
      have hf := un27 hf
      refine J_iload_n hK dX6_run_50 rfl 0 rfl rfl ?_
      obtain rfl := Option.some.inj hf
      exact J_iret hK hR dX6_run_51 () rfl (by decide) (by decide)
    have lo3 : ∀ (k : Nat) (z4 : Int32) (z5 : Int32) (z6 : Int32) (z7 : Int32) (z8 : Int32) (z9 : Int32) (z10 : Int32) (z11 : Int32) (z12 : (Nat → Int32)) (z13 : (Nat → Int32)) (z14 : (Nat → Int32)) (z15 : (Nat → Int32)) (z16 : (Nat → Int32)) (z17 : Int32) (z18 : Int32) (z19 : (Nat → Int32)) (z20 : (Nat → Int32)) (z21 : (Nat → Int32)) (z22 : (Nat → Int32)) (z23 : Int32) (z24 : (Nat → Int32)) (z25 : (Nat → Int32)) (z26 : (Nat → Int32)) (z27 : (Nat → Int32)) (z28 : (Nat → Int32)) (z29 : (Nat → Int32)) (z30 : Int32) (z31 : Int32), lp (u28 (fX6_run_s21 n p1 x0_refused x0_isKept x1_gained x2_knownFree x3_goodsCount x3_workCount x3_years x3_goods x3_coin x4_left x4_earned x4_turnCost x4_turnWayless x5_steps x5_nodes x5_stepCount x5_open x5_openCount x5_seen)) k (z4, z5, z6, z7, z8, z9, z10, z11, z12, z13, z14, z15, z16, z17, z18, z19, z20, z21, z22, z23, z24, z25, z26, z27, z28, z29, z30, z31) = some e32 → J d Φ 4 [gTw d h0 (h3 0) a0_kept a0_tape a0_shelves (h1 0) (h4 0) x0_refused x0_isKept z6 z7, gCh d h1 (h4 0) a1_after (h2 0) x1_gained, gLd d h2 z8 z9 z10 z11 z12 z13 z14 z15 z16 x2_knownFree z17, gLd d h3 z18 x3_goodsCount x3_workCount x3_years z19 x3_goods z20 z21 x3_coin z22 z23, gTr d h4 (h5 0) x4_left x4_earned x4_turnCost x4_turnWayless, gWy d h5 z24 z25 z26 z27 z28 z29 x5_steps x5_nodes x5_stepCount x5_open x5_openCount x5_seen z30 z31] 0 0 21 [(0, .ref (h0 0)), (1, .int p1), (2, .int z4), (3, .int z5)] [] := by
      intro k
      induction k with
      | zero => intro z4 z5 z6 z7 z8 z9 z10 z11 z12 z13 z14 z15 z16 z17 z18 z19 z20 z21 z22 z23 z24 z25 z26 z27 z28 z29 z30 z31 h; cases h
      | succ k ih3 =>
        intro z4 z5 z6 z7 z8 z9 z10 z11 z12 z13 z14 z15 z16 z17 z18 z19 z20 z21 z22 z23 z24 z25 z26 z27 z28 z29 z30 z31 h
        obtain ⟨k2, rr3, hk2, hs3, hr3⟩ := lp_ok h
        cases hk2
        have hs3 : fX6_run_s21 n p1 x0_refused x0_isKept x1_gained x2_knownFree x3_goodsCount x3_workCount x3_years x3_goods x3_coin x4_left x4_earned x4_turnCost x4_turnWayless x5_steps x5_nodes x5_stepCount x5_open x5_openCount x5_seen z4 z5 z6 z7 z8 z9 z10 z11 z12 z13 z14 z15 z16 z17 z18 z19 z20 z21 z22 z23 z24 z25 z26 z27 z28 z29 z30 z31 = some rr3 := hs3
        unfold fX6_run_s21 at hs3
        refine J_iload_n hK dX6_run_21 rfl 3 rfl rfl ?_
        refine J_iload_n hK dX6_run_22 rfl 1 rfl rfl ?_
        refine J_icmp_ge (tg := 50) hK dX6_run_23 rfl rfl (fun hc23 => ?_) (fun hc23 => ?_)
        · have hs3 := ip hc23 hs3
          exact J_loc [2] rfl (hx3_50 z4 z6 z7 z8 z9 z10 z11 z12 z13 z14 z15 z16 z17 z18 z19 z20 z21 z22 z23 z24 z25 z26 z27 z28 z29 z30 z31 (lpx hs3 hr3))
        · have hs3 := iq hc23 hs3
          refine J_iload_n hK dX6_run_26 rfl 2 rfl rfl ?_
          refine J_aload_n hK dX6_run_27 rfl 0 rfl rfl ?_
          refine J_aload_n hK dX6_run_28 rfl 0 rfl rfl ?_
          refine J_get hK fo_RX6_36 dX6_run_29 rfl 0 0 rfl rfl rfl ?_
          refine J_aload_n hK dX6_run_32 rfl 0 rfl rfl ?_
          refine J_get hK fo_RX6_12 dX6_run_33 rfl 0 0 rfl rfl rfl ?_
          obtain ⟨⟨v60, ⟨g62, g63, g64, g65, g66, g67, g68, g69⟩, ⟨g71, g72, g73, g74, g75, g76, g77, g78, g79, g80⟩, ⟨g82, g83, g84, g85, g86⟩⟩, e87, hs3⟩ := bs hs3
          have hs3 := un4 hs3
          have hs3 := un8 hs3
          have hs3 := un10 hs3
          have hs3 := un5 hs3
          refine J_callV (m' := 6) (ce' := 0) (sl' := 0) (gr := [gTw d h0 (h3 0) a0_kept a0_tape a0_shelves (h1 0) (h4 0) x0_refused x0_isKept z6 z7]) (gs' := fun _ => [gTw d h0 (h3 0) a0_kept a0_tape a0_shelves (h1 0) (h4 0) x0_refused x0_isKept z6 z7, gCh d h1 (h4 0) a1_after (h2 0) x1_gained, gLd d h2 g71 g72 g73 g74 g75 g76 g77 g78 g79 x2_knownFree g80, gLd d h3 g82 x3_goodsCount x3_workCount x3_years g83 x3_goods z20 g84 x3_coin g85 g86, gTr d h4 (h5 0) x4_left x4_earned x4_turnCost x4_turnWayless, gWy d h5 g62 g63 g64 g65 g66 g67 x5_steps x5_nodes x5_stepCount x5_open x5_openCount x5_seen g68 g69]) (st' := fun _ => [.int v60, .ref (h0 0), .int z4]) (st := [.ref (h0 0), .int z4]) hK dX6_run_36 cv_RX6_261 iv_yX0_firstOf (As := [.ref (h3 0)]) (kX0_firstOf _ d h1 a1_after h4 h5 h2 h3 n x1_gained x4_left x4_earned x4_turnCost x4_turnWayless z24 z25 z26 z27 z28 z29 x5_steps x5_nodes x5_stepCount x5_open x5_openCount x5_seen z30 z31 z8 z9 z10 z11 z12 z13 z14 z15 z16 x2_knownFree z17 z18 x3_goodsCount x3_workCount x3_years z19 x3_goods z20 z21 x3_coin z22 z23 e87) rfl rfl (Nat.le_of_ble_eq_true rfl) (by decide) 1 0 rfl rfl rfl [1, 4, 5, 2, 3] [0] rfl rfl rfl rfl [0, 1, 4, 5, 2, 3] rfl (fun _ => rfl) (fun _ => rfl) rfl rfl rfl (fun _ => rfl) (fun _ => ?_)
          obtain ⟨⟨v88, g89, g90, ⟨g92, g93, g94, g95, g96, g97, g98, g99, g100, g101⟩, ⟨g103, g104, g105, g106, g107, g108⟩, ⟨g110, g111, g112, g113, g114, g115, g116, g117⟩⟩, e118, hs3⟩ := bs hs3
          have hs3 := un6 hs3
          have hs3 := un10 hs3
          have hs3 := un6 hs3
          have hs3 := un8 hs3
          refine J_callV (m' := 6) (ce' := 0) (sl' := 0) (gr := []) (gs' := fun _ => [gTw d h0 (h3 0) a0_kept a0_tape a0_shelves (h1 0) (h4 0) x0_refused x0_isKept g89 g90, gCh d h1 (h4 0) a1_after (h2 0) x1_gained, gLd d h2 g92 g93 g94 g95 g96 g97 g98 g99 g100 x2_knownFree g101, gLd d h3 g103 x3_goodsCount x3_workCount x3_years g104 x3_goods g105 g106 x3_coin g107 g108, gTr d h4 (h5 0) x4_left x4_earned x4_turnCost x4_turnWayless, gWy d h5 g110 g111 g112 g113 g114 g115 x5_steps x5_nodes x5_stepCount x5_open x5_openCount x5_seen g116 g117]) (st' := fun _ => [.int v88, .int z4]) (st := [.int z4]) hK dX6_run_39 cv_RX6_303 iv_yX6_passYear (As := [.int v60]) (kX6_passYear _ d h0 a0_kept a0_tape a0_shelves h1 a1_after h2 h3 h4 h5 n x0_refused x0_isKept z6 z7 x1_gained g71 g72 g73 g74 g75 g76 g77 g78 g79 x2_knownFree g80 g82 x3_goodsCount x3_workCount x3_years g83 x3_goods z20 g84 x3_coin g85 g86 x4_left x4_earned x4_turnCost x4_turnWayless g62 g63 g64 g65 g66 g67 x5_steps x5_nodes x5_stepCount x5_open x5_openCount x5_seen g68 g69 v60 e118) rfl rfl (Nat.le_of_ble_eq_true rfl) (by decide) 0 0 rfl rfl rfl [0, 1, 2, 3, 4, 5] [] rfl rfl rfl rfl [0, 1, 2, 3, 4, 5] rfl (fun _ => rfl) (fun _ => rfl) rfl rfl rfl (fun _ => rfl) (fun _ => ?_)
          refine J_iadd hK dX6_run_42 rfl ?_
          refine J_istore_n (L' := [(2, .int (z4 + v88)), (0, .ref (h0 0)), (1, .int p1), (3, .int z5)]) hK dX6_run_43 rfl rfl (by decide) rfl ?_
          refine J_iinc (L' := [(3, .int (z5 + 1)), (2, .int (z4 + v88)), (0, .ref (h0 0)), (1, .int p1)]) (v := (z5 + 1)) hK dX6_run_44 rfl 3 rfl rfl (by decide) rfl ?_
          refine J_goto hK dX6_run_47 (n := 21) rfl ?_
          exact J_loc [2, 3, 1, 0] rfl (ih3 (z4 + v88) (z5 + 1) g89 g90 g92 g93 g94 g95 g96 g97 g98 g99 g100 g101 g103 g104 g105 g106 g107 g108 g110 g111 g112 g113 g114 g115 g116 g117 (lpc hs3 hr3))
    exact J_loc [2, 3, 1, 0] rfl (lo3 n (0) (0) x0_gone x0_spent x2_lineCount x2_goodsCount x2_workCount x2_years x2_lines x2_goods x2_works x2_change x2_coin x2_isKnown x3_lineCount x3_lines x3_works x3_change x3_knownFree x3_isKnown x5_edgeA x5_edgeB x5_edgeCost x5_edgeLine x5_change x5_away x5_edgeCount x5_aim hl3)
  · have hf := ip hc7 hf
    refine J_aload_n hK dX6_run_10 rfl 0 rfl rfl ?_
    refine J_bipush (v := (-2)) hK dX6_run_11 rfl (by decide) ?_
    obtain ⟨⟨v119, g120⟩, e121, hf⟩ := bs hf
    have hf := un2 hf
    refine J_callV (m' := 6) (ce' := 0) (sl' := 0) (gr := [gCh d h1 (h4 0) a1_after (h2 0) x1_gained, gLd d h2 x2_lineCount x2_goodsCount x2_workCount x2_years x2_lines x2_goods x2_works x2_change x2_coin x2_knownFree x2_isKnown, gLd d h3 x3_lineCount x3_goodsCount x3_workCount x3_years x3_lines x3_goods x3_works x3_change x3_coin x3_knownFree x3_isKnown, gTr d h4 (h5 0) x4_left x4_earned x4_turnCost x4_turnWayless, gWy d h5 x5_edgeA x5_edgeB x5_edgeCost x5_edgeLine x5_change x5_away x5_steps x5_nodes x5_stepCount x5_open x5_openCount x5_seen x5_edgeCount x5_aim]) (gs' := fun _ => [gTw d h0 (h3 0) a0_kept a0_tape a0_shelves (h1 0) (h4 0) g120 x0_isKept x0_gone x0_spent, gCh d h1 (h4 0) a1_after (h2 0) x1_gained, gLd d h2 x2_lineCount x2_goodsCount x2_workCount x2_years x2_lines x2_goods x2_works x2_change x2_coin x2_knownFree x2_isKnown, gLd d h3 x3_lineCount x3_goodsCount x3_workCount x3_years x3_lines x3_goods x3_works x3_change x3_coin x3_knownFree x3_isKnown, gTr d h4 (h5 0) x4_left x4_earned x4_turnCost x4_turnWayless, gWy d h5 x5_edgeA x5_edgeB x5_edgeCost x5_edgeLine x5_change x5_away x5_steps x5_nodes x5_stepCount x5_open x5_openCount x5_seen x5_edgeCount x5_aim]) (st' := fun _ => [.int v119]) (st := []) hK dX6_run_13 cv_RX6_68 iv_yX6_refuse (As := [.int (-2)]) (kX6_refuse _ d h0 (h3 0) a0_kept a0_tape a0_shelves (h1 0) (h4 0) x0_refused x0_isKept x0_gone x0_spent (-2) e121) rfl rfl (Nat.le_of_ble_eq_true rfl) (by decide) 0 0 rfl rfl rfl [0] [1, 2, 3, 4, 5] rfl rfl rfl rfl [5, 0, 1, 2, 3, 4] rfl (fun _ => rfl) (fun _ => rfl) rfl rfl rfl (fun _ => rfl) (fun _ => ?_)
    obtain rfl := Option.some.inj hf
    exact J_iret hK hR dX6_run_16 () rfl (by decide) (by decide)

def fX6_image (X0 : TwT) (X1 : LdT) (X2 : LdT) : Option (Int32 × Int32 × (Int32 × Int32 × Int32 × Int32 × (Nat → Int32) × (Nat → Int32) × (Nat → Int32) × (Nat → Int32) × (Nat → Int32) × Int32)) :=
  u4 (fun (x0_refused : (Nat → Int32)) (x0_isKept : Int32) (x0_gone : Int32) (x0_spent : Int32) => u11 (fun (x1_lineCount : Int32) (x1_goodsCount : Int32) (x1_workCount : Int32) (x1_years : Int32) (x1_lines : (Nat → Int32)) (x1_goods : (Nat → Int32)) (x1_works : (Nat → Int32)) (x1_change : (Nat → Int32)) (x1_coin : (Nat → Int32)) (x1_knownFree : (Nat → Int32)) (x1_isKnown : Int32) => u11 (fun (x2_lineCount : Int32) (x2_goodsCount : Int32) (x2_workCount : Int32) (x2_years : Int32) (x2_lines : (Nat → Int32)) (x2_goods : (Nat → Int32)) (x2_works : (Nat → Int32)) (x2_change : (Nat → Int32)) (x2_coin : (Nat → Int32)) (x2_knownFree : (Nat → Int32)) (x2_isKnown : Int32) => (fX1_take (x1_lineCount, x1_goodsCount, x1_workCount, x1_years, x1_lines, x1_goods, x1_works, x1_change, x1_coin, x1_knownFree, x1_isKnown) (x2_lineCount, x2_goodsCount, x2_workCount, x2_years, x2_lines, x2_goods, x2_works, x2_change, x2_coin, x2_knownFree, x2_isKnown)).bind (fun G1 => u10 (fun g2 g3 g4 g5 g6 g7 g8 g9 g10 g11 => some (1, 1, (g2, g3, g4, g5, g6, g7, g8, g9, g10, g11))) G1)) X2) X1) X0
set_option maxHeartbeats 4000000 in
set_option maxRecDepth 100000 in
theorem kX6_image (l : Launch) (d : DT) (h0 : Nat → Nat) (a0_tape : Nat) (a0_shelves : Nat) (a0_choice : Nat) (a0_traffic : Nat) (h1 : Nat → Nat) (h2 : Nat → Nat) (x0_refused : (Nat → Int32)) (x0_isKept : Int32) (x0_gone : Int32) (x0_spent : Int32) (x1_lineCount : Int32) (x1_goodsCount : Int32) (x1_workCount : Int32) (x1_years : Int32) (x1_lines : (Nat → Int32)) (x1_goods : (Nat → Int32)) (x1_works : (Nat → Int32)) (x1_change : (Nat → Int32)) (x1_coin : (Nat → Int32)) (x1_knownFree : (Nat → Int32)) (x1_isKnown : Int32) (x2_lineCount : Int32) (x2_goodsCount : Int32) (x2_workCount : Int32) (x2_years : Int32) (x2_lines : (Nat → Int32)) (x2_goods : (Nat → Int32)) (x2_works : (Nat → Int32)) (x2_change : (Nat → Int32)) (x2_coin : (Nat → Int32)) (x2_knownFree : (Nat → Int32)) (x2_isKnown : Int32)  {out : Int32 × Int32 × (Int32 × Int32 × Int32 × Int32 × (Nat → Int32) × (Nat → Int32) × (Nat → Int32) × (Nat → Int32) × (Nat → Int32) × Int32)} (hf : fX6_image (x0_refused, x0_isKept, x0_gone, x0_spent) (x1_lineCount, x1_goodsCount, x1_workCount, x1_years, x1_lines, x1_goods, x1_works, x1_change, x1_coin, x1_knownFree, x1_isKnown) (x2_lineCount, x2_goodsCount, x2_workCount, x2_years, x2_lines, x2_goods, x2_works, x2_change, x2_coin, x2_knownFree, x2_isKnown) = some out) : Ct l d yX6_image cX6_image 1 (some .int) { frames := 2, cells := 0, slots := 0, locals := 47 } [.ref (h0 0)] [gTw d h0 (h2 0) (h1 0) a0_tape a0_shelves a0_choice a0_traffic x0_refused x0_isKept x0_gone x0_spent, gLd d h1 x1_lineCount x1_goodsCount x1_workCount x1_years x1_lines x1_goods x1_works x1_change x1_coin x1_knownFree x1_isKnown, gLd d h2 x2_lineCount x2_goodsCount x2_workCount x2_years x2_lines x2_goods x2_works x2_change x2_coin x2_knownFree x2_isKnown] (fun _ : Unit => (some (.int out.1), [gTw d h0 (h2 0) (h1 0) a0_tape a0_shelves a0_choice a0_traffic x0_refused (out.2.1) x0_gone x0_spent, gLd d h1 (out.2.2.1) (out.2.2.2.1) (out.2.2.2.2.1) (out.2.2.2.2.2.1) (out.2.2.2.2.2.2.1) (out.2.2.2.2.2.2.2.1) (out.2.2.2.2.2.2.2.2.1) (out.2.2.2.2.2.2.2.2.2.1) (out.2.2.2.2.2.2.2.2.2.2.1) x1_knownFree (out.2.2.2.2.2.2.2.2.2.2.2), gLd d h2 x2_lineCount x2_goodsCount x2_workCount x2_years x2_lines x2_goods x2_works x2_change x2_coin x2_knownFree x2_isKnown])) := by
  refine Ct.of (by decide) (Nat.le_of_ble_eq_true rfl) ?_
  intro Φ hl hK hR
  subst hl
  have hK : Ok d Φ RX6 "image" cX6_image 1 (some .int) { frames := 2, cells := 0, slots := 0, locals := 47 } := hK
  unfold fX6_image at hf
  have hf := un4 hf
  have hf := un11 hf
  have hf := un11 hf
  show J d Φ 1 [gTw d h0 (h2 0) (h1 0) a0_tape a0_shelves a0_choice a0_traffic x0_refused x0_isKept x0_gone x0_spent, gLd d h1 x1_lineCount x1_goodsCount x1_workCount x1_years x1_lines x1_goods x1_works x1_change x1_coin x1_knownFree x1_isKnown, gLd d h2 x2_lineCount x2_goodsCount x2_workCount x2_years x2_lines x2_goods x2_works x2_change x2_coin x2_knownFree x2_isKnown] 0 0 0 [(0, .ref (h0 0))] []
  refine J_aload_n hK dX6_image_0 rfl 0 rfl rfl ?_
  refine J_get hK fo_RX6_16 dX6_image_1 rfl 0 0 rfl rfl rfl ?_
  refine J_aload_n hK dX6_image_4 rfl 0 rfl rfl ?_
  refine J_get hK fo_RX6_12 dX6_image_5 rfl 0 0 rfl rfl rfl ?_
  obtain ⟨⟨g2, g3, g4, g5, g6, g7, g8, g9, g10, g11⟩, e12, hf⟩ := bs hf
  have hf := un10 hf
  refine J_callV (m' := 3) (ce' := 0) (sl' := 0) (gr := [gTw d h0 (h2 0) (h1 0) a0_tape a0_shelves a0_choice a0_traffic x0_refused x0_isKept x0_gone x0_spent]) (gs' := fun _ => [gTw d h0 (h2 0) (h1 0) a0_tape a0_shelves a0_choice a0_traffic x0_refused x0_isKept x0_gone x0_spent, gLd d h1 g2 g3 g4 g5 g6 g7 g8 g9 g10 x1_knownFree g11, gLd d h2 x2_lineCount x2_goodsCount x2_workCount x2_years x2_lines x2_goods x2_works x2_change x2_coin x2_knownFree x2_isKnown]) (st' := fun _ => []) (st := []) hK dX6_image_8 cv_RX6_180 iv_yX1_take (As := [.ref (h2 0)]) (kX1_take _ d h1 h2 x1_lineCount x1_goodsCount x1_workCount x1_years x1_lines x1_goods x1_works x1_change x1_coin x1_knownFree x1_isKnown x2_lineCount x2_goodsCount x2_workCount x2_years x2_lines x2_goods x2_works x2_change x2_coin x2_knownFree x2_isKnown e12) rfl rfl (Nat.le_of_ble_eq_true rfl) (by decide) 1 0 rfl rfl rfl [1, 2] [0] rfl rfl rfl rfl [0, 1, 2] rfl (fun _ => rfl) (fun _ => rfl) rfl rfl rfl (fun _ => rfl) (fun _ => ?_)
  refine J_aload_n hK dX6_image_11 rfl 0 rfl rfl ?_
  refine J_iconst (v := 1) hK dX6_image_12 rfl (by decide) ?_
  refine J_put (g' := gTw d h0 (h2 0) (h1 0) a0_tape a0_shelves a0_choice a0_traffic x0_refused (1) x0_gone x0_spent) (gs' := [gTw d h0 (h2 0) (h1 0) a0_tape a0_shelves a0_choice a0_traffic x0_refused (1) x0_gone x0_spent, gLd d h1 g2 g3 g4 g5 g6 g7 g8 g9 g10 x1_knownFree g11, gLd d h2 x2_lineCount x2_goodsCount x2_workCount x2_years x2_lines x2_goods x2_works x2_change x2_coin x2_knownFree x2_isKnown]) hK fp_RX6_49 dX6_image_13 rfl 0 0 rfl rfl rfl rfl (Nat.le_of_ble_eq_true rfl) rfl rfl ?_
  refine J_iconst (v := 1) hK dX6_image_16 rfl (by decide) ?_
  obtain rfl := Option.some.inj hf
  exact J_iret hK hR dX6_image_17 () rfl (by decide) (by decide)

def fX6_back (n : Nat) (X0 : TwT) (X1 : LdT) (X2 : ShT) (X3 : LdT) : Option (Int32 × (Nat → Int32) × (Nat → Int32) × (Int32 × Int32 × Int32 × Int32 × (Nat → Int32) × (Nat → Int32) × (Nat → Int32) × (Nat → Int32) × (Nat → Int32) × Int32)) :=
  u4 (fun (x0_refused : (Nat → Int32)) (x0_isKept : Int32) (x0_gone : Int32) (x0_spent : Int32) => u11 (fun (x1_lineCount : Int32) (x1_goodsCount : Int32) (x1_workCount : Int32) (x1_years : Int32) (x1_lines : (Nat → Int32)) (x1_goods : (Nat → Int32)) (x1_works : (Nat → Int32)) (x1_change : (Nat → Int32)) (x1_coin : (Nat → Int32)) (x1_knownFree : (Nat → Int32)) (x1_isKnown : Int32) => u3 (fun (x2_elements : (Nat → Nat → Int64)) (x2_held : (Nat → Int32)) (x2_sizes : (Nat → Int32)) => u11 (fun (x3_lineCount : Int32) (x3_goodsCount : Int32) (x3_workCount : Int32) (x3_years : Int32) (x3_lines : (Nat → Int32)) (x3_goods : (Nat → Int32)) (x3_works : (Nat → Int32)) (x3_change : (Nat → Int32)) (x3_coin : (Nat → Int32)) (x3_knownFree : (Nat → Int32)) (x3_isKnown : Int32) => if x0_isKept = 0 then ((fX6_refuse (x0_refused, x0_isKept, x0_gone, x0_spent) (-5)).bind (u2 fun v15 g16 => some (v15, g16, x2_held, (x3_lineCount, x3_goodsCount, x3_workCount, x3_years, x3_lines, x3_goods, x3_works, x3_change, x3_coin, x3_isKnown)))) else ((fX1_take (x3_lineCount, x3_goodsCount, x3_workCount, x3_years, x3_lines, x3_goods, x3_works, x3_change, x3_coin, x3_knownFree, x3_isKnown) (x1_lineCount, x1_goodsCount, x1_workCount, x1_years, x1_lines, x1_goods, x1_works, x1_change, x1_coin, x1_knownFree, x1_isKnown)).bind (fun G1 => u10 (fun g2 g3 g4 g5 g6 g7 g8 g9 g10 g11 => (fX2_dropWorksFrom n (x2_elements, x2_held, x2_sizes) g4).bind (fun g13 => some (1, x0_refused, g13, (g2, g3, g4, g5, g6, g7, g8, g9, g10, g11)))) G1))) X3) X2) X1) X0
set_option maxHeartbeats 4000000 in
set_option maxRecDepth 100000 in
theorem kX6_back (l : Launch) (d : DT) (h0 : Nat → Nat) (a0_tape : Nat) (a0_choice : Nat) (a0_traffic : Nat) (h1 : Nat → Nat) (h2 : Nat → Nat) (r2_elements : Nat → Nat) (h3 : Nat → Nat) (n : Nat) (x0_refused : (Nat → Int32)) (x0_isKept : Int32) (x0_gone : Int32) (x0_spent : Int32) (x1_lineCount : Int32) (x1_goodsCount : Int32) (x1_workCount : Int32) (x1_years : Int32) (x1_lines : (Nat → Int32)) (x1_goods : (Nat → Int32)) (x1_works : (Nat → Int32)) (x1_change : (Nat → Int32)) (x1_coin : (Nat → Int32)) (x1_knownFree : (Nat → Int32)) (x1_isKnown : Int32) (x2_elements : (Nat → Nat → Int64)) (x2_held : (Nat → Int32)) (x2_sizes : (Nat → Int32)) (x3_lineCount : Int32) (x3_goodsCount : Int32) (x3_workCount : Int32) (x3_years : Int32) (x3_lines : (Nat → Int32)) (x3_goods : (Nat → Int32)) (x3_works : (Nat → Int32)) (x3_change : (Nat → Int32)) (x3_coin : (Nat → Int32)) (x3_knownFree : (Nat → Int32)) (x3_isKnown : Int32)  {out : Int32 × (Nat → Int32) × (Nat → Int32) × (Int32 × Int32 × Int32 × Int32 × (Nat → Int32) × (Nat → Int32) × (Nat → Int32) × (Nat → Int32) × (Nat → Int32) × Int32)} (hf : fX6_back n (x0_refused, x0_isKept, x0_gone, x0_spent) (x1_lineCount, x1_goodsCount, x1_workCount, x1_years, x1_lines, x1_goods, x1_works, x1_change, x1_coin, x1_knownFree, x1_isKnown) (x2_elements, x2_held, x2_sizes) (x3_lineCount, x3_goodsCount, x3_workCount, x3_years, x3_lines, x3_goods, x3_works, x3_change, x3_coin, x3_knownFree, x3_isKnown) = some out) : Ct l d yX6_back cX6_back 1 (some .int) { frames := 3, cells := 0, slots := 0, locals := 64 } [.ref (h0 0)] [gTw d h0 (h3 0) (h1 0) a0_tape (h2 0) a0_choice a0_traffic x0_refused x0_isKept x0_gone x0_spent, gLd d h1 x1_lineCount x1_goodsCount x1_workCount x1_years x1_lines x1_goods x1_works x1_change x1_coin x1_knownFree x1_isKnown, gSh d h2 r2_elements x2_held x2_sizes, gLd d h3 x3_lineCount x3_goodsCount x3_workCount x3_years x3_lines x3_goods x3_works x3_change x3_coin x3_knownFree x3_isKnown] (fun _ : Unit => (some (.int out.1), [gTw d h0 (h3 0) (h1 0) a0_tape (h2 0) a0_choice a0_traffic (out.2.1) x0_isKept x0_gone x0_spent, gLd d h1 x1_lineCount x1_goodsCount x1_workCount x1_years x1_lines x1_goods x1_works x1_change x1_coin x1_knownFree x1_isKnown, gSh d h2 r2_elements (out.2.2.1) x2_sizes, gLd d h3 (out.2.2.2.1) (out.2.2.2.2.1) (out.2.2.2.2.2.1) (out.2.2.2.2.2.2.1) (out.2.2.2.2.2.2.2.1) (out.2.2.2.2.2.2.2.2.1) (out.2.2.2.2.2.2.2.2.2.1) (out.2.2.2.2.2.2.2.2.2.2.1) (out.2.2.2.2.2.2.2.2.2.2.2.1) x3_knownFree (out.2.2.2.2.2.2.2.2.2.2.2.2)])) := by
  refine Ct.of (by decide) (Nat.le_of_ble_eq_true rfl) ?_
  intro Φ hl hK hR
  subst hl
  have hK : Ok d Φ RX6 "back" cX6_back 1 (some .int) { frames := 3, cells := 0, slots := 0, locals := 64 } := hK
  unfold fX6_back at hf
  have hf := un4 hf
  have hf := un11 hf
  have hf := un3 hf
  have hf := un11 hf
  show J d Φ 1 [gTw d h0 (h3 0) (h1 0) a0_tape (h2 0) a0_choice a0_traffic x0_refused x0_isKept x0_gone x0_spent, gLd d h1 x1_lineCount x1_goodsCount x1_workCount x1_years x1_lines x1_goods x1_works x1_change x1_coin x1_knownFree x1_isKnown, gSh d h2 r2_elements x2_held x2_sizes, gLd d h3 x3_lineCount x3_goodsCount x3_workCount x3_years x3_lines x3_goods x3_works x3_change x3_coin x3_knownFree x3_isKnown] 0 0 0 [(0, .ref (h0 0))] []
  refine J_aload_n hK dX6_back_0 rfl 0 rfl rfl ?_
  refine J_get hK fo_RX6_49 dX6_back_1 rfl 0 0 rfl rfl rfl ?_
  refine J_if_ne (tg := 14) hK dX6_back_4 rfl rfl (fun hc4 => ?_) (fun hc4 => ?_)
  · have hf := iq hc4 hf
    refine J_aload_n hK dX6_back_14 rfl 0 rfl rfl ?_
    refine J_get hK fo_RX6_12 dX6_back_15 rfl 0 0 rfl rfl rfl ?_
    refine J_aload_n hK dX6_back_18 rfl 0 rfl rfl ?_
    refine J_get hK fo_RX6_16 dX6_back_19 rfl 0 0 rfl rfl rfl ?_
    obtain ⟨⟨g2, g3, g4, g5, g6, g7, g8, g9, g10, g11⟩, e12, hf⟩ := bs hf
    have hf := un10 hf
    refine J_callV (m' := 4) (ce' := 0) (sl' := 0) (gr := [gTw d h0 (h3 0) (h1 0) a0_tape (h2 0) a0_choice a0_traffic x0_refused x0_isKept x0_gone x0_spent, gSh d h2 r2_elements x2_held x2_sizes]) (gs' := fun _ => [gTw d h0 (h3 0) (h1 0) a0_tape (h2 0) a0_choice a0_traffic x0_refused x0_isKept x0_gone x0_spent, gLd d h1 x1_lineCount x1_goodsCount x1_workCount x1_years x1_lines x1_goods x1_works x1_change x1_coin x1_knownFree x1_isKnown, gSh d h2 r2_elements x2_held x2_sizes, gLd d h3 g2 g3 g4 g5 g6 g7 g8 g9 g10 x3_knownFree g11]) (st' := fun _ => []) (st := []) hK dX6_back_22 cv_RX6_180 iv_yX1_take (As := [.ref (h1 0)]) (kX1_take _ d h3 h1 x3_lineCount x3_goodsCount x3_workCount x3_years x3_lines x3_goods x3_works x3_change x3_coin x3_knownFree x3_isKnown x1_lineCount x1_goodsCount x1_workCount x1_years x1_lines x1_goods x1_works x1_change x1_coin x1_knownFree x1_isKnown e12) rfl rfl (Nat.le_of_ble_eq_true rfl) (by decide) 3 0 rfl rfl rfl [3, 1] [0, 2] rfl rfl rfl rfl [0, 3, 1, 2] rfl (fun _ => rfl) (fun _ => rfl) rfl rfl rfl (fun _ => rfl) (fun _ => ?_)
    refine J_aload_n hK dX6_back_25 rfl 0 rfl rfl ?_
    refine J_get hK fo_RX6_29 dX6_back_26 rfl 0 0 rfl rfl rfl ?_
    refine J_aload_n hK dX6_back_29 rfl 0 rfl rfl ?_
    refine J_get hK fo_RX6_12 dX6_back_30 rfl 0 0 rfl rfl rfl ?_
    refine J_get hK fo_RX6_139 dX6_back_33 rfl 3 0 rfl rfl rfl ?_
    obtain ⟨g13, e14, hf⟩ := bs hf
    refine J_callV (m' := 4) (ce' := 0) (sl' := 0) (gr := [gTw d h0 (h3 0) (h1 0) a0_tape (h2 0) a0_choice a0_traffic x0_refused x0_isKept x0_gone x0_spent, gLd d h1 x1_lineCount x1_goodsCount x1_workCount x1_years x1_lines x1_goods x1_works x1_change x1_coin x1_knownFree x1_isKnown, gLd d h3 g2 g3 g4 g5 g6 g7 g8 g9 g10 x3_knownFree g11]) (gs' := fun _ => [gTw d h0 (h3 0) (h1 0) a0_tape (h2 0) a0_choice a0_traffic x0_refused x0_isKept x0_gone x0_spent, gLd d h1 x1_lineCount x1_goodsCount x1_workCount x1_years x1_lines x1_goods x1_works x1_change x1_coin x1_knownFree x1_isKnown, gSh d h2 r2_elements g13 x2_sizes, gLd d h3 g2 g3 g4 g5 g6 g7 g8 g9 g10 x3_knownFree g11]) (st' := fun _ => []) (st := []) hK dX6_back_36 cv_RX6_306 iv_yX2_dropWorksFrom (As := [.int g4]) (kX2_dropWorksFrom _ d h2 r2_elements n x2_elements x2_held x2_sizes g4 e14) rfl rfl (Nat.le_of_ble_eq_true rfl) (by decide) 2 0 rfl rfl rfl [2] [0, 1, 3] rfl rfl rfl rfl [0, 1, 3, 2] rfl (fun _ => rfl) (fun _ => rfl) rfl rfl rfl (fun _ => rfl) (fun _ => ?_)
    refine J_iconst (v := 1) hK dX6_back_39 rfl (by decide) ?_
    obtain rfl := Option.some.inj hf
    exact J_iret hK hR dX6_back_40 () rfl (by decide) (by decide)
  · have hf := ip hc4 hf
    refine J_aload_n hK dX6_back_7 rfl 0 rfl rfl ?_
    refine J_bipush (v := (-5)) hK dX6_back_8 rfl (by decide) ?_
    obtain ⟨⟨v15, g16⟩, e17, hf⟩ := bs hf
    have hf := un2 hf
    refine J_callV (m' := 4) (ce' := 0) (sl' := 0) (gr := [gLd d h1 x1_lineCount x1_goodsCount x1_workCount x1_years x1_lines x1_goods x1_works x1_change x1_coin x1_knownFree x1_isKnown, gSh d h2 r2_elements x2_held x2_sizes, gLd d h3 x3_lineCount x3_goodsCount x3_workCount x3_years x3_lines x3_goods x3_works x3_change x3_coin x3_knownFree x3_isKnown]) (gs' := fun _ => [gTw d h0 (h3 0) (h1 0) a0_tape (h2 0) a0_choice a0_traffic g16 x0_isKept x0_gone x0_spent, gLd d h1 x1_lineCount x1_goodsCount x1_workCount x1_years x1_lines x1_goods x1_works x1_change x1_coin x1_knownFree x1_isKnown, gSh d h2 r2_elements x2_held x2_sizes, gLd d h3 x3_lineCount x3_goodsCount x3_workCount x3_years x3_lines x3_goods x3_works x3_change x3_coin x3_knownFree x3_isKnown]) (st' := fun _ => [.int v15]) (st := []) hK dX6_back_10 cv_RX6_68 iv_yX6_refuse (As := [.int (-5)]) (kX6_refuse _ d h0 (h3 0) (h1 0) a0_tape (h2 0) a0_choice a0_traffic x0_refused x0_isKept x0_gone x0_spent (-5) e17) rfl rfl (Nat.le_of_ble_eq_true rfl) (by decide) 0 0 rfl rfl rfl [0] [1, 2, 3] rfl rfl rfl rfl [3, 0, 1, 2] rfl (fun _ => rfl) (fun _ => rfl) rfl rfl rfl (fun _ => rfl) (fun _ => ?_)
    obtain rfl := Option.some.inj hf
    exact J_iret hK hR dX6_back_13 () rfl (by decide) (by decide)

def fJ6_bitCount_0f7a4 (p0 : Int32) : Option (Int32) :=
  (some (p0 - (((p0).toUInt32 >>> (((1 : Int32)).toUInt32 &&& Int32.toUInt32 31)).toInt32 &&& 1431655765))).bind fun t1 => (some ((t1 &&& 858993459) + (((t1).toUInt32 >>> (((2 : Int32)).toUInt32 &&& Int32.toUInt32 31)).toInt32 &&& 858993459))).bind fun t2 => (some ((t2 + ((t2).toUInt32 >>> (((4 : Int32)).toUInt32 &&& Int32.toUInt32 31)).toInt32) &&& 252645135)).bind fun t3 => (some (t3 + ((t3).toUInt32 >>> (((8 : Int32)).toUInt32 &&& Int32.toUInt32 31)).toInt32)).bind fun t4 => (some (t4 + ((t4).toUInt32 >>> (((16 : Int32)).toUInt32 &&& Int32.toUInt32 31)).toInt32)).bind fun t5 => some (t5 &&& 63)
set_option maxHeartbeats 4000000 in
set_option maxRecDepth 100000 in
theorem kJ6_bitCount_0f7a4 (l : Launch) (d : DT)  (p0 : Int32)  {out : Int32} (hf : fJ6_bitCount_0f7a4 p0 = some out) : Ct l d yJ6_bitCount_0f7a4 cJ6_bitCount_0f7a4 1 (some .int) { frames := 0, cells := 0, slots := 0, locals := 0 } [.int p0] [] (fun _ : Unit => (some (.int out), [])) := by
  refine Ct.of (by decide) (Nat.le_of_ble_eq_true rfl) ?_
  intro Φ hl hK hR
  subst hl
  have hK : Ok d Φ RJ6 "bitCount" cJ6_bitCount_0f7a4 1 (some .int) { frames := 0, cells := 0, slots := 0, locals := 0 } := hK
  unfold fJ6_bitCount_0f7a4 at hf
  show J d Φ 1 [] 0 0 0 [(0, .int p0)] []
  refine J_iload_n hK dJ6_bitCount_0f7a4_0 rfl 0 rfl rfl ?_
  refine J_iload_n hK dJ6_bitCount_0f7a4_1 rfl 0 rfl rfl ?_
  refine J_iconst (v := 1) hK dJ6_bitCount_0f7a4_2 rfl (by decide) ?_
  refine J_iushr hK dJ6_bitCount_0f7a4_3 rfl ?_
  refine J_ldcw (v := 1431655765) hK dJ6_bitCount_0f7a4_4 rfl wk_RJ6_265 ?_
  refine J_iand hK dJ6_bitCount_0f7a4_7 rfl ?_
  refine J_isub hK dJ6_bitCount_0f7a4_8 rfl ?_
  obtain ⟨t1, et1, hf⟩ := bs hf
  refine J_nmi et1 ?_
  refine J_istore_n (L' := [(0, .int t1)]) hK dJ6_bitCount_0f7a4_9 rfl rfl (by decide) rfl ?_
  refine J_iload_n hK dJ6_bitCount_0f7a4_10 rfl 0 rfl rfl ?_
  refine J_ldcw (v := 858993459) hK dJ6_bitCount_0f7a4_11 rfl wk_RJ6_266 ?_
  refine J_iand hK dJ6_bitCount_0f7a4_14 rfl ?_
  refine J_iload_n hK dJ6_bitCount_0f7a4_15 rfl 0 rfl rfl ?_
  refine J_iconst (v := 2) hK dJ6_bitCount_0f7a4_16 rfl (by decide) ?_
  refine J_iushr hK dJ6_bitCount_0f7a4_17 rfl ?_
  refine J_ldcw (v := 858993459) hK dJ6_bitCount_0f7a4_18 rfl wk_RJ6_266 ?_
  refine J_iand hK dJ6_bitCount_0f7a4_21 rfl ?_
  refine J_iadd hK dJ6_bitCount_0f7a4_22 rfl ?_
  obtain ⟨t2, et2, hf⟩ := bs hf
  refine J_nmi et2 ?_
  refine J_istore_n (L' := [(0, .int t2)]) hK dJ6_bitCount_0f7a4_23 rfl rfl (by decide) rfl ?_
  refine J_iload_n hK dJ6_bitCount_0f7a4_24 rfl 0 rfl rfl ?_
  refine J_iload_n hK dJ6_bitCount_0f7a4_25 rfl 0 rfl rfl ?_
  refine J_iconst (v := 4) hK dJ6_bitCount_0f7a4_26 rfl (by decide) ?_
  refine J_iushr hK dJ6_bitCount_0f7a4_27 rfl ?_
  refine J_iadd hK dJ6_bitCount_0f7a4_28 rfl ?_
  refine J_ldcw (v := 252645135) hK dJ6_bitCount_0f7a4_29 rfl wk_RJ6_267 ?_
  refine J_iand hK dJ6_bitCount_0f7a4_32 rfl ?_
  obtain ⟨t3, et3, hf⟩ := bs hf
  refine J_nmi et3 ?_
  refine J_istore_n (L' := [(0, .int t3)]) hK dJ6_bitCount_0f7a4_33 rfl rfl (by decide) rfl ?_
  refine J_iload_n hK dJ6_bitCount_0f7a4_34 rfl 0 rfl rfl ?_
  refine J_iload_n hK dJ6_bitCount_0f7a4_35 rfl 0 rfl rfl ?_
  refine J_bipush (v := 8) hK dJ6_bitCount_0f7a4_36 rfl (by decide) ?_
  refine J_iushr hK dJ6_bitCount_0f7a4_38 rfl ?_
  refine J_iadd hK dJ6_bitCount_0f7a4_39 rfl ?_
  obtain ⟨t4, et4, hf⟩ := bs hf
  refine J_nmi et4 ?_
  refine J_istore_n (L' := [(0, .int t4)]) hK dJ6_bitCount_0f7a4_40 rfl rfl (by decide) rfl ?_
  refine J_iload_n hK dJ6_bitCount_0f7a4_41 rfl 0 rfl rfl ?_
  refine J_iload_n hK dJ6_bitCount_0f7a4_42 rfl 0 rfl rfl ?_
  refine J_bipush (v := 16) hK dJ6_bitCount_0f7a4_43 rfl (by decide) ?_
  refine J_iushr hK dJ6_bitCount_0f7a4_45 rfl ?_
  refine J_iadd hK dJ6_bitCount_0f7a4_46 rfl ?_
  obtain ⟨t5, et5, hf⟩ := bs hf
  refine J_nmi et5 ?_
  refine J_istore_n (L' := [(0, .int t5)]) hK dJ6_bitCount_0f7a4_47 rfl rfl (by decide) rfl ?_
  refine J_iload_n hK dJ6_bitCount_0f7a4_48 rfl 0 rfl rfl ?_
  refine J_bipush (v := 63) hK dJ6_bitCount_0f7a4_49 rfl (by decide) ?_
  refine J_iand hK dJ6_bitCount_0f7a4_51 rfl ?_
  obtain rfl := Option.some.inj hf
  exact J_iret hK hR dJ6_bitCount_0f7a4_52 () rfl (by decide) (by decide)

def fX6_status (n : Nat) (X0 : TwT) (X1 : ShT) (X2 : LdT) (X3 : TpT) (p1 : Int32) : Option (Int32) :=
  u4 (fun (x0_refused : (Nat → Int32)) (x0_isKept : Int32) (x0_gone : Int32) (x0_spent : Int32) => u3 (fun (x1_elements : (Nat → Nat → Int64)) (x1_held : (Nat → Int32)) (x1_sizes : (Nat → Int32)) => u11 (fun (x2_lineCount : Int32) (x2_goodsCount : Int32) (x2_workCount : Int32) (x2_years : Int32) (x2_lines : (Nat → Int32)) (x2_goods : (Nat → Int32)) (x2_works : (Nat → Int32)) (x2_change : (Nat → Int32)) (x2_coin : (Nat → Int32)) (x2_knownFree : (Nat → Int32)) (x2_isKnown : Int32) => u6 (fun (x3_bytes : (Nat → Int32)) (x3_size : Int32) (x3_start : Int32) (x3_end : Int32) (x3_token : Int32) (x3_value : Int32) => if p1 = 0 then (some x2_lineCount) else (if p1 = 1 then (some x2_goodsCount) else (if p1 = 2 then (some x2_workCount) else (if p1 = 3 then ((fX1_doneWorks n (x2_lineCount, x2_goodsCount, x2_workCount, x2_years, x2_lines, x2_goods, x2_works, x2_change, x2_coin, x2_knownFree, x2_isKnown)).bind (fun v1 => (fJ6_bitCount_0f7a4 v1).bind (fun v3 => some v3))) else (if p1 = 4 then (some x0_gone) else (if p1 = 5 then (some x0_spent) else (if p1 = 6 then (some x2_years) else (if p1 = 7 then (some x3_size) else (if p1 = 8 then ((fX2_inUse n (x1_elements, x1_held, x1_sizes)).bind (fun v5 => some v5)) else ((fX6_within p1 (12) (16)).bind (fun v7 => if v7 = 0 then (some (-1)) else ((rd 5 x0_refused (p1 - 12)).bind fun v9 => some v9)))))))))))) X3) X2) X1) X0
set_option maxHeartbeats 4000000 in
set_option maxRecDepth 100000 in
theorem kX6_status (l : Launch) (d : DT) (h0 : Nat → Nat) (a0_kept : Nat) (a0_choice : Nat) (a0_traffic : Nat) (h1 : Nat → Nat) (r1_elements : Nat → Nat) (h2 : Nat → Nat) (h3 : Nat → Nat) (n : Nat) (x0_refused : (Nat → Int32)) (x0_isKept : Int32) (x0_gone : Int32) (x0_spent : Int32) (x1_elements : (Nat → Nat → Int64)) (x1_held : (Nat → Int32)) (x1_sizes : (Nat → Int32)) (x2_lineCount : Int32) (x2_goodsCount : Int32) (x2_workCount : Int32) (x2_years : Int32) (x2_lines : (Nat → Int32)) (x2_goods : (Nat → Int32)) (x2_works : (Nat → Int32)) (x2_change : (Nat → Int32)) (x2_coin : (Nat → Int32)) (x2_knownFree : (Nat → Int32)) (x2_isKnown : Int32) (x3_bytes : (Nat → Int32)) (x3_size : Int32) (x3_start : Int32) (x3_end : Int32) (x3_token : Int32) (x3_value : Int32) (p1 : Int32)  {out : Int32} (hf : fX6_status n (x0_refused, x0_isKept, x0_gone, x0_spent) (x1_elements, x1_held, x1_sizes) (x2_lineCount, x2_goodsCount, x2_workCount, x2_years, x2_lines, x2_goods, x2_works, x2_change, x2_coin, x2_knownFree, x2_isKnown) (x3_bytes, x3_size, x3_start, x3_end, x3_token, x3_value) p1 = some out) : Ct l d yX6_status cX6_status 2 (some .int) { frames := 3, cells := 0, slots := 0, locals := 65 } [.ref (h0 0), .int p1] [gTw d h0 (h2 0) a0_kept (h3 0) (h1 0) a0_choice a0_traffic x0_refused x0_isKept x0_gone x0_spent, gSh d h1 r1_elements x1_held x1_sizes, gLd d h2 x2_lineCount x2_goodsCount x2_workCount x2_years x2_lines x2_goods x2_works x2_change x2_coin x2_knownFree x2_isKnown, gTp d h3 x3_bytes x3_size x3_start x3_end x3_token x3_value] (fun _ : Unit => (some (.int out), [gTw d h0 (h2 0) a0_kept (h3 0) (h1 0) a0_choice a0_traffic x0_refused x0_isKept x0_gone x0_spent, gSh d h1 r1_elements x1_held x1_sizes, gLd d h2 x2_lineCount x2_goodsCount x2_workCount x2_years x2_lines x2_goods x2_works x2_change x2_coin x2_knownFree x2_isKnown, gTp d h3 x3_bytes x3_size x3_start x3_end x3_token x3_value])) := by
  refine Ct.of (by decide) (Nat.le_of_ble_eq_true rfl) ?_
  intro Φ hl hK hR
  subst hl
  have hK : Ok d Φ RX6 "status" cX6_status 2 (some .int) { frames := 3, cells := 0, slots := 0, locals := 65 } := hK
  unfold fX6_status at hf
  have hf := un4 hf
  have hf := un3 hf
  have hf := un11 hf
  have hf := un6 hf
  show J d Φ 2 [gTw d h0 (h2 0) a0_kept (h3 0) (h1 0) a0_choice a0_traffic x0_refused x0_isKept x0_gone x0_spent, gSh d h1 r1_elements x1_held x1_sizes, gLd d h2 x2_lineCount x2_goodsCount x2_workCount x2_years x2_lines x2_goods x2_works x2_change x2_coin x2_knownFree x2_isKnown, gTp d h3 x3_bytes x3_size x3_start x3_end x3_token x3_value] 0 0 0 [(0, .ref (h0 0)), (1, .int p1)] []
  refine J_iload_n hK dX6_status_0 rfl 1 rfl rfl ?_
  by_cases hc1_0 : p1 = 0
  · have hf := ip hc1_0 hf
    refine J_swI (tg := 52) hK dX6_status_1 (by rw [hc1_0]; decide) (by rw [hc1_0]; decide) (by rw [hc1_0]; rfl) rfl ?_
    refine J_aload_n hK dX6_status_52 rfl 0 rfl rfl ?_
    refine J_get hK fo_RX6_12 dX6_status_53 rfl 0 0 rfl rfl rfl ?_
    refine J_get hK fo_RX6_123 dX6_status_56 rfl 2 0 rfl rfl rfl ?_
    obtain rfl := Option.some.inj hf
    exact J_iret hK hR dX6_status_59 () rfl (by decide) (by decide)
  have hf := iq hc1_0 hf
  by_cases hc1_1 : p1 = 1
  · have hf := ip hc1_1 hf
    refine J_swI (tg := 60) hK dX6_status_1 (by rw [hc1_1]; decide) (by rw [hc1_1]; decide) (by rw [hc1_1]; rfl) rfl ?_
    refine J_aload_n hK dX6_status_60 rfl 0 rfl rfl ?_
    refine J_get hK fo_RX6_12 dX6_status_61 rfl 0 0 rfl rfl rfl ?_
    refine J_get hK fo_RX6_130 dX6_status_64 rfl 2 0 rfl rfl rfl ?_
    obtain rfl := Option.some.inj hf
    exact J_iret hK hR dX6_status_67 () rfl (by decide) (by decide)
  have hf := iq hc1_1 hf
  by_cases hc1_2 : p1 = 2
  · have hf := ip hc1_2 hf
    refine J_swI (tg := 68) hK dX6_status_1 (by rw [hc1_2]; decide) (by rw [hc1_2]; decide) (by rw [hc1_2]; rfl) rfl ?_
    refine J_aload_n hK dX6_status_68 rfl 0 rfl rfl ?_
    refine J_get hK fo_RX6_12 dX6_status_69 rfl 0 0 rfl rfl rfl ?_
    refine J_get hK fo_RX6_139 dX6_status_72 rfl 2 0 rfl rfl rfl ?_
    obtain rfl := Option.some.inj hf
    exact J_iret hK hR dX6_status_75 () rfl (by decide) (by decide)
  have hf := iq hc1_2 hf
  by_cases hc1_3 : p1 = 3
  · have hf := ip hc1_3 hf
    refine J_swI (tg := 76) hK dX6_status_1 (by rw [hc1_3]; decide) (by rw [hc1_3]; decide) (by rw [hc1_3]; rfl) rfl ?_
    refine J_aload_n hK dX6_status_76 rfl 0 rfl rfl ?_
    refine J_get hK fo_RX6_12 dX6_status_77 rfl 0 0 rfl rfl rfl ?_
    obtain ⟨v1, e2, hf⟩ := bs hf
    refine J_callV (m' := 4) (ce' := 0) (sl' := 0) (gr := [gTw d h0 (h2 0) a0_kept (h3 0) (h1 0) a0_choice a0_traffic x0_refused x0_isKept x0_gone x0_spent, gSh d h1 r1_elements x1_held x1_sizes, gTp d h3 x3_bytes x3_size x3_start x3_end x3_token x3_value]) (gs' := fun _ => [gTw d h0 (h2 0) a0_kept (h3 0) (h1 0) a0_choice a0_traffic x0_refused x0_isKept x0_gone x0_spent, gSh d h1 r1_elements x1_held x1_sizes, gLd d h2 x2_lineCount x2_goodsCount x2_workCount x2_years x2_lines x2_goods x2_works x2_change x2_coin x2_knownFree x2_isKnown, gTp d h3 x3_bytes x3_size x3_start x3_end x3_token x3_value]) (st' := fun _ => [.int v1]) (st := []) hK dX6_status_80 cv_RX6_309 iv_yX1_doneWorks (As := []) (kX1_doneWorks _ d h2 n x2_lineCount x2_goodsCount x2_workCount x2_years x2_lines x2_goods x2_works x2_change x2_coin x2_knownFree x2_isKnown e2) rfl rfl (Nat.le_of_ble_eq_true rfl) (by decide) 2 0 rfl rfl rfl [2] [0, 1, 3] rfl rfl rfl rfl [0, 1, 3, 2] rfl (fun _ => rfl) (fun _ => rfl) rfl rfl rfl (fun _ => rfl) (fun _ => ?_)
    obtain ⟨v3, e4, hf⟩ := bs hf
    refine J_callS (m' := 4) (ce' := 0) (sl' := 0) (gr := [gTw d h0 (h2 0) a0_kept (h3 0) (h1 0) a0_choice a0_traffic x0_refused x0_isKept x0_gone x0_spent, gSh d h1 r1_elements x1_held x1_sizes, gLd d h2 x2_lineCount x2_goodsCount x2_workCount x2_years x2_lines x2_goods x2_works x2_change x2_coin x2_knownFree x2_isKnown, gTp d h3 x3_bytes x3_size x3_start x3_end x3_token x3_value]) (gs' := fun _ => [gTw d h0 (h2 0) a0_kept (h3 0) (h1 0) a0_choice a0_traffic x0_refused x0_isKept x0_gone x0_spent, gSh d h1 r1_elements x1_held x1_sizes, gLd d h2 x2_lineCount x2_goodsCount x2_workCount x2_years x2_lines x2_goods x2_works x2_change x2_coin x2_knownFree x2_isKnown, gTp d h3 x3_bytes x3_size x3_start x3_end x3_token x3_value]) (st' := fun _ => [.int v3]) (st := []) hK dX6_status_83 cv_RX6_312 ws_yJ6_bitCount_0f7a4 (As := [.int v1]) (kJ6_bitCount_0f7a4 _ d v1 e4) rfl rfl (Nat.le_of_ble_eq_true rfl) (by decide) [] [0, 1, 2, 3] rfl rfl rfl rfl [0, 1, 2, 3] rfl (fun _ => rfl) (fun _ => rfl) rfl rfl rfl (fun _ => rfl) (fun _ => ?_)
    obtain rfl := Option.some.inj hf
    exact J_iret hK hR dX6_status_86 () rfl (by decide) (by decide)
  have hf := iq hc1_3 hf
  by_cases hc1_4 : p1 = 4
  · have hf := ip hc1_4 hf
    refine J_swI (tg := 87) hK dX6_status_1 (by rw [hc1_4]; decide) (by rw [hc1_4]; decide) (by rw [hc1_4]; rfl) rfl ?_
    refine J_aload_n hK dX6_status_87 rfl 0 rfl rfl ?_
    refine J_get hK fo_RX6_53 dX6_status_88 rfl 0 0 rfl rfl rfl ?_
    obtain rfl := Option.some.inj hf
    exact J_iret hK hR dX6_status_91 () rfl (by decide) (by decide)
  have hf := iq hc1_4 hf
  by_cases hc1_5 : p1 = 5
  · have hf := ip hc1_5 hf
    refine J_swI (tg := 92) hK dX6_status_1 (by rw [hc1_5]; decide) (by rw [hc1_5]; decide) (by rw [hc1_5]; rfl) rfl ?_
    refine J_aload_n hK dX6_status_92 rfl 0 rfl rfl ?_
    refine J_get hK fo_RX6_57 dX6_status_93 rfl 0 0 rfl rfl rfl ?_
    obtain rfl := Option.some.inj hf
    exact J_iret hK hR dX6_status_96 () rfl (by decide) (by decide)
  have hf := iq hc1_5 hf
  by_cases hc1_6 : p1 = 6
  · have hf := ip hc1_6 hf
    refine J_swI (tg := 97) hK dX6_status_1 (by rw [hc1_6]; decide) (by rw [hc1_6]; decide) (by rw [hc1_6]; rfl) rfl ?_
    refine J_aload_n hK dX6_status_97 rfl 0 rfl rfl ?_
    refine J_get hK fo_RX6_12 dX6_status_98 rfl 0 0 rfl rfl rfl ?_
    refine J_get hK fo_RX6_159 dX6_status_101 rfl 2 0 rfl rfl rfl ?_
    obtain rfl := Option.some.inj hf
    exact J_iret hK hR dX6_status_104 () rfl (by decide) (by decide)
  have hf := iq hc1_6 hf
  by_cases hc1_7 : p1 = 7
  · have hf := ip hc1_7 hf
    refine J_swI (tg := 105) hK dX6_status_1 (by rw [hc1_7]; decide) (by rw [hc1_7]; decide) (by rw [hc1_7]; rfl) rfl ?_
    refine J_aload_n hK dX6_status_105 rfl 0 rfl rfl ?_
    refine J_get hK fo_RX6_22 dX6_status_106 rfl 0 0 rfl rfl rfl ?_
    refine J_get hK fo_RX6_171 dX6_status_109 rfl 3 0 rfl rfl rfl ?_
    obtain rfl := Option.some.inj hf
    exact J_iret hK hR dX6_status_112 () rfl (by decide) (by decide)
  have hf := iq hc1_7 hf
  by_cases hc1_8 : p1 = 8
  · have hf := ip hc1_8 hf
    refine J_swI (tg := 113) hK dX6_status_1 (by rw [hc1_8]; decide) (by rw [hc1_8]; decide) (by rw [hc1_8]; rfl) rfl ?_
    refine J_aload_n hK dX6_status_113 rfl 0 rfl rfl ?_
    refine J_get hK fo_RX6_29 dX6_status_114 rfl 0 0 rfl rfl rfl ?_
    obtain ⟨v5, e6, hf⟩ := bs hf
    refine J_callV (m' := 4) (ce' := 0) (sl' := 0) (gr := [gTw d h0 (h2 0) a0_kept (h3 0) (h1 0) a0_choice a0_traffic x0_refused x0_isKept x0_gone x0_spent, gLd d h2 x2_lineCount x2_goodsCount x2_workCount x2_years x2_lines x2_goods x2_works x2_change x2_coin x2_knownFree x2_isKnown, gTp d h3 x3_bytes x3_size x3_start x3_end x3_token x3_value]) (gs' := fun _ => [gTw d h0 (h2 0) a0_kept (h3 0) (h1 0) a0_choice a0_traffic x0_refused x0_isKept x0_gone x0_spent, gSh d h1 r1_elements x1_held x1_sizes, gLd d h2 x2_lineCount x2_goodsCount x2_workCount x2_years x2_lines x2_goods x2_works x2_change x2_coin x2_knownFree x2_isKnown, gTp d h3 x3_bytes x3_size x3_start x3_end x3_token x3_value]) (st' := fun _ => [.int v5]) (st := []) hK dX6_status_117 cv_RX6_317 iv_yX2_inUse (As := []) (kX2_inUse _ d h1 r1_elements n x1_elements x1_held x1_sizes e6) rfl rfl (Nat.le_of_ble_eq_true rfl) (by decide) 1 0 rfl rfl rfl [1] [0, 2, 3] rfl rfl rfl rfl [0, 3, 1, 2] rfl (fun _ => rfl) (fun _ => rfl) rfl rfl rfl (fun _ => rfl) (fun _ => ?_)
    obtain rfl := Option.some.inj hf
    exact J_iret hK hR dX6_status_120 () rfl (by decide) (by decide)
  have hf := iq hc1_8 hf
  refine J_swO (tg := 121) hK dX6_status_1 (by have q0 : ¬ p1.toInt = 0 := fun h => hc1_0 (Int32.toInt_inj.mp (h.trans (by decide))); have q1 : ¬ p1.toInt = 1 := fun h => hc1_1 (Int32.toInt_inj.mp (h.trans (by decide))); have q2 : ¬ p1.toInt = 2 := fun h => hc1_2 (Int32.toInt_inj.mp (h.trans (by decide))); have q3 : ¬ p1.toInt = 3 := fun h => hc1_3 (Int32.toInt_inj.mp (h.trans (by decide))); have q4 : ¬ p1.toInt = 4 := fun h => hc1_4 (Int32.toInt_inj.mp (h.trans (by decide))); have q5 : ¬ p1.toInt = 5 := fun h => hc1_5 (Int32.toInt_inj.mp (h.trans (by decide))); have q6 : ¬ p1.toInt = 6 := fun h => hc1_6 (Int32.toInt_inj.mp (h.trans (by decide))); have q7 : ¬ p1.toInt = 7 := fun h => hc1_7 (Int32.toInt_inj.mp (h.trans (by decide))); have q8 : ¬ p1.toInt = 8 := fun h => hc1_8 (Int32.toInt_inj.mp (h.trans (by decide))); omega) rfl ?_
  refine J_iload_n hK dX6_status_121 rfl 1 rfl rfl ?_
  refine J_bipush (v := 12) hK dX6_status_122 rfl (by decide) ?_
  refine J_bipush (v := 16) hK dX6_status_124 rfl (by decide) ?_
  obtain ⟨v7, e8, hf⟩ := bs hf
  refine J_callS (m' := 4) (ce' := 0) (sl' := 0) (gr := [gTw d h0 (h2 0) a0_kept (h3 0) (h1 0) a0_choice a0_traffic x0_refused x0_isKept x0_gone x0_spent, gSh d h1 r1_elements x1_held x1_sizes, gLd d h2 x2_lineCount x2_goodsCount x2_workCount x2_years x2_lines x2_goods x2_works x2_change x2_coin x2_knownFree x2_isKnown, gTp d h3 x3_bytes x3_size x3_start x3_end x3_token x3_value]) (gs' := fun _ => [gTw d h0 (h2 0) a0_kept (h3 0) (h1 0) a0_choice a0_traffic x0_refused x0_isKept x0_gone x0_spent, gSh d h1 r1_elements x1_held x1_sizes, gLd d h2 x2_lineCount x2_goodsCount x2_workCount x2_years x2_lines x2_goods x2_works x2_change x2_coin x2_knownFree x2_isKnown, gTp d h3 x3_bytes x3_size x3_start x3_end x3_token x3_value]) (st' := fun _ => [.int v7]) (st := []) hK dX6_status_126 cv_RX6_64 ws_yX6_within (As := [.int p1, .int (12), .int (16)]) (kX6_within _ d p1 (12) (16) e8) rfl rfl (Nat.le_of_ble_eq_true rfl) (by decide) [] [0, 1, 2, 3] rfl rfl rfl rfl [0, 1, 2, 3] rfl (fun _ => rfl) (fun _ => rfl) rfl rfl rfl (fun _ => rfl) (fun _ => ?_)
  refine J_if_eq (tg := 144) hK dX6_status_129 rfl rfl (fun hc129 => ?_) (fun hc129 => ?_)
  · have hf := ip hc129 hf
    refine J_iconst (v := (-1)) hK dX6_status_144 rfl (by decide) ?_
    obtain rfl := Option.some.inj hf
    exact J_iret hK hR dX6_status_145 () rfl (by decide) (by decide)
  · have hf := iq hc129 hf
    refine J_aload_n hK dX6_status_132 rfl 0 rfl rfl ?_
    refine J_get hK fo_RX6_45 dX6_status_133 rfl 0 0 rfl rfl rfl ?_
    refine J_iload_n hK dX6_status_136 rfl 1 rfl rfl ?_
    refine J_bipush (v := 12) hK dX6_status_137 rfl (by decide) ?_
    refine J_isub hK dX6_status_139 rfl ?_
    obtain ⟨v9, ev9, hf⟩ := bs hf
    refine J_iald hK dX6_status_140 rfl 0 1 rfl rfl ev9 ?_
    refine J_goto hK dX6_status_141 (n := 145) rfl ?_
    obtain rfl := Option.some.inj hf
    exact J_iret hK hR dX6_status_145 () rfl (by decide) (by decide)

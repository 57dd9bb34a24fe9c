def fX0_bestOf_s18 (n : Nat) (x0_gained : (Nat → Int32)) (x1_left : (Nat → Int32)) (x1_earned : (Nat → Int32)) (x1_turnCost : Int32) (x1_turnWayless : Int32) (x2_steps : (Nat → Int32)) (x2_nodes : (Nat → Int32)) (x2_stepCount : Int32) (x2_open : (Nat → Int32)) (x2_openCount : Int32) (x2_seen : Int64) (x3_knownFree : (Nat → Int32)) (x4_goodsCount : Int32) (x4_workCount : Int32) (x4_years : Int32) (x4_goods : (Nat → Int32)) (x4_works : (Nat → Int32)) (x4_coin : (Nat → Int32)) (v29 : Int32) (z32 : Int32) (z33 : Int32) (z34 : Int32) (z35 : (Nat → Int32)) (z36 : (Nat → Int32)) (z37 : (Nat → Int32)) (z38 : (Nat → Int32)) (z39 : (Nat → Int32)) (z40 : (Nat → Int32)) (z41 : Int32) (z42 : Int32) (z43 : Int32) (z44 : Int32) (z45 : Int32) (z46 : Int32) (z47 : (Nat → Int32)) (z48 : (Nat → Int32)) (z49 : (Nat → Int32)) (z50 : (Nat → Int32)) (z51 : (Nat → Int32)) (z52 : Int32) (z53 : Int32) (z54 : (Nat → Int32)) (z55 : (Nat → Int32)) (z56 : (Nat → Int32)) (z57 : Int32) : Option ((Int32 × Int32 × Int32 × (Nat → Int32) × (Nat → Int32) × (Nat → Int32) × (Nat → Int32) × (Nat → Int32) × (Nat → Int32) × Int32 × Int32 × Int32 × Int32 × Int32 × Int32 × (Nat → Int32) × (Nat → Int32) × (Nat → Int32) × (Nat → Int32) × (Nat → Int32) × Int32 × Int32 × (Nat → Int32) × (Nat → Int32) × (Nat → Int32) × Int32) ⊕ (Int32 × (Nat → Int32) × (Nat → Int32) × (Nat → Int32) × (Nat → Int32) × (Nat → Int32) × (Nat → Int32) × Int32 × Int32 × Int32 × Int32 × Int32 × Int32 × (Nat → Int32) × (Nat → Int32) × (Nat → Int32) × (Nat → Int32) × (Nat → Int32) × Int32 × Int32 × (Nat → Int32) × (Nat → Int32) × (Nat → Int32) × Int32)) :=
  if ((1 : Int32) <<< (x4_workCount &&& 31)) ≤ z34 then (some (.inr (z32, z35, z36, z37, z38, z39, z40, z41, z42, z43, z44, z45, z46, z47, z48, z49, z50, z51, z52, z53, z54, z55, z56, z57))) else (if (z34 &&& v29) = 0 then ((fX0_totalOf n x0_gained (x1_left, x1_earned, x1_turnCost, x1_turnWayless) (z35, z36, z37, z38, z39, z40, x2_steps, x2_nodes, x2_stepCount, x2_open, x2_openCount, x2_seen, z41, z42) (z43, z44, z45, z46, z47, z48, z49, z50, z51, x3_knownFree, z52) (z53, x4_goodsCount, x4_workCount, x4_years, z54, x4_goods, x4_works, z55, x4_coin, z56, z57) z34).bind (u4 fun v83 G84 G93 G104 => u8 (fun g85 g86 g87 g88 g89 g90 g91 g92 => u10 (fun g94 g95 g96 g97 g98 g99 g100 g101 g102 g103 => u5 (fun g105 g106 g107 g108 g109 => if z33 ≤ v83 then (some (.inl (z32, z33, (z34 + 1), g85, g86, g87, g88, g89, g90, g91, g92, g94, g95, g96, g97, g98, g99, g100, g101, g102, g103, g105, g106, g107, g108, g109))) else (some (.inl (z34, v83, (z34 + 1), g85, g86, g87, g88, g89, g90, g91, g92, g94, g95, g96, g97, g98, g99, g100, g101, g102, g103, g105, g106, g107, g108, g109)))) G104) G93) G84)) else (some (.inl (z32, z33, (z34 + 1), z35, z36, z37, z38, z39, z40, z41, z42, z43, z44, z45, z46, z47, z48, z49, z50, z51, z52, z53, z54, z55, z56, z57))))
def fX0_bestOf (n : Nat) (X0 : ChT) (X1 : TrT) (X2 : WyT) (X3 : LdT) (X4 : LdT) : Option (Int32 × ((Nat → Int32) × (Nat → Int32) × (Nat → Int32) × (Nat → Int32) × (Nat → Int32) × (Nat → Int32) × Int32 × Int32) × (Int32 × Int32 × Int32 × Int32 × (Nat → Int32) × (Nat → Int32) × (Nat → Int32) × (Nat → Int32) × (Nat → Int32) × Int32) × (Int32 × (Nat → Int32) × (Nat → Int32) × (Nat → Int32) × Int32)) :=
  (fun (x0_gained : (Nat → Int32)) => u4 (fun (x1_left : (Nat → Int32)) (x1_earned : (Nat → Int32)) (x1_turnCost : Int32) (x1_turnWayless : Int32) => u14 (fun (x2_edgeA : (Nat → Int32)) (x2_edgeB : (Nat → Int32)) (x2_edgeCost : (Nat → Int32)) (x2_edgeLine : (Nat → Int32)) (x2_change : (Nat → Int32)) (x2_away : (Nat → Int32)) (x2_steps : (Nat → Int32)) (x2_nodes : (Nat → Int32)) (x2_stepCount : Int32) (x2_open : (Nat → Int32)) (x2_openCount : Int32) (x2_seen : Int64) (x2_edgeCount : Int32) (x2_aim : Int32) => u11 (fun (x3_lineCount : Int32) (x3_goodsCount : Int32) (x3_workCount : Int32) (x3_years : Int32) (x3_lines : (Nat → Int32)) (x3_goods : (Nat → Int32)) (x3_works : (Nat → Int32)) (x3_change : (Nat → Int32)) (x3_coin : (Nat → Int32)) (x3_knownFree : (Nat → Int32)) (x3_isKnown : Int32) => u11 (fun (x4_lineCount : Int32) (x4_goodsCount : Int32) (x4_workCount : Int32) (x4_years : Int32) (x4_lines : (Nat → Int32)) (x4_goods : (Nat → Int32)) (x4_works : (Nat → Int32)) (x4_change : (Nat → Int32)) (x4_coin : (Nat → Int32)) (x4_knownFree : (Nat → Int32)) (x4_isKnown : Int32) => (fX0_totalOf n x0_gained (x1_left, x1_earned, x1_turnCost, x1_turnWayless) (x2_edgeA, x2_edgeB, x2_edgeCost, x2_edgeLine, x2_change, x2_away, x2_steps, x2_nodes, x2_stepCount, x2_open, x2_openCount, x2_seen, x2_edgeCount, x2_aim) (x3_lineCount, x3_goodsCount, x3_workCount, x3_years, x3_lines, x3_goods, x3_works, x3_change, x3_coin, x3_knownFree, x3_isKnown) (x4_lineCount, x4_goodsCount, x4_workCount, x4_years, x4_lines, x4_goods, x4_works, x4_change, x4_coin, x4_knownFree, x4_isKnown) (0)).bind (u4 fun v1 G2 G11 G22 => u8 (fun g3 g4 g5 g6 g7 g8 g9 g10 => u10 (fun g12 g13 g14 g15 g16 g17 g18 g19 g20 g21 => u5 (fun g23 g24 g25 g26 g27 => (fX1_doneWorks n (g23, x4_goodsCount, x4_workCount, x4_years, g24, x4_goods, x4_works, g25, x4_coin, g26, g27)).bind (fun v29 => (lp (u26 (fX0_bestOf_s18 n x0_gained x1_left x1_earned x1_turnCost x1_turnWayless x2_steps x2_nodes x2_stepCount x2_open x2_openCount x2_seen x3_knownFree x4_goodsCount x4_workCount x4_years x4_goods x4_works x4_coin v29)) n (0, v1, 1, g3, g4, g5, g6, g7, g8, g9, g10, g12, g13, g14, g15, g16, g17, g18, g19, g20, g21, g23, g24, g25, g26, g27)).bind (u24 fun w59 w60 w61 w62 w63 w64 w65 w66 w67 w68 w69 w70 w71 w72 w73 w74 w75 w76 w77 w78 w79 w80 w81 w82 => some (w59, (w60, w61, w62, w63, w64, w65, w66, w67), (w68, w69, w70, w71, w72, w73, w74, w75, w76, w77), (w78, w79, w80, w81, w82))))) G22) G11) G2)) X4) X3) X2) X1) X0
set_option maxHeartbeats 4000000 in
set_option maxRecDepth 100000 in
theorem kX0_bestOf (l : Launch) (d : DT) (h0 : Nat → Nat) (a0_after : Nat) (h1 : Nat → Nat) (h2 : Nat → Nat) (h3 : Nat → Nat) (h4 : Nat → Nat) (n : Nat) (x0_gained : (Nat → Int32)) (x1_left : (Nat → Int32)) (x1_earned : (Nat → Int32)) (x1_turnCost : Int32) (x1_turnWayless : Int32) (x2_edgeA : (Nat → Int32)) (x2_edgeB : (Nat → Int32)) (x2_edgeCost : (Nat → Int32)) (x2_edgeLine : (Nat → Int32)) (x2_change : (Nat → Int32)) (x2_away : (Nat → Int32)) (x2_steps : (Nat → Int32)) (x2_nodes : (Nat → Int32)) (x2_stepCount : Int32) (x2_open : (Nat → Int32)) (x2_openCount : Int32) (x2_seen : Int64) (x2_edgeCount : Int32) (x2_aim : Int32) (x3_lineCount : Int32) (x3_goodsCount : Int32) (x3_workCount : Int32) (x3_years : Int32) (x3_lines : (Nat → Int32)) (x3_goods : (Nat → Int32)) (x3_works : (Nat → Int32)) (x3_change : (Nat → Int32)) (x3_coin : (Nat → Int32)) (x3_knownFree : (Nat → Int32)) (x3_isKnown : Int32) (x4_lineCount : Int32) (x4_goodsCount : Int32) (x4_workCount : Int32) (x4_years : Int32) (x4_lines : (Nat → Int32)) (x4_goods : (Nat → Int32)) (x4_works : (Nat → Int32)) (x4_change : (Nat → Int32)) (x4_coin : (Nat → Int32)) (x4_knownFree : (Nat → Int32)) (x4_isKnown : Int32)  {out : Int32 × ((Nat → Int32) × (Nat → Int32) × (Nat → Int32) × (Nat → Int32) × (Nat → Int32) × (Nat → Int32) × Int32 × Int32) × (Int32 × Int32 × Int32 × Int32 × (Nat → Int32) × (Nat → Int32) × (Nat → Int32) × (Nat → Int32) × (Nat → Int32) × Int32) × (Int32 × (Nat → Int32) × (Nat → Int32) × (Nat → Int32) × Int32)} (hf : fX0_bestOf n x0_gained (x1_left, x1_earned, x1_turnCost, x1_turnWayless) (x2_edgeA, x2_edgeB, x2_edgeCost, x2_edgeLine, x2_change, x2_away, x2_steps, x2_nodes, x2_stepCount, x2_open, x2_openCount, x2_seen, x2_edgeCount, x2_aim) (x3_lineCount, x3_goodsCount, x3_workCount, x3_years, x3_lines, x3_goods, x3_works, x3_change, x3_coin, x3_knownFree, x3_isKnown) (x4_lineCount, x4_goodsCount, x4_workCount, x4_years, x4_lines, x4_goods, x4_works, x4_change, x4_coin, x4_knownFree, x4_isKnown) = some out) : Ct l d yX0_bestOf cX0_bestOf 7 (some .int) { frames := 5, cells := 0, slots := 0, locals := 127 } [.ref (h0 0), .ref (h4 0)] [gCh d h0 (h1 0) a0_after (h3 0) x0_gained, gTr d h1 (h2 0) x1_left x1_earned x1_turnCost x1_turnWayless, gWy d h2 x2_edgeA x2_edgeB x2_edgeCost x2_edgeLine x2_change x2_away x2_steps x2_nodes x2_stepCount x2_open x2_openCount x2_seen x2_edgeCount x2_aim, gLd d h3 x3_lineCount x3_goodsCount x3_workCount x3_years x3_lines x3_goods x3_works x3_change x3_coin x3_knownFree x3_isKnown, gLd d h4 x4_lineCount x4_goodsCount x4_workCount x4_years x4_lines x4_goods x4_works x4_change x4_coin x4_knownFree x4_isKnown] (fun _ : Unit => (some (.int out.1), [gCh d h0 (h1 0) a0_after (h3 0) x0_gained, gTr d h1 (h2 0) x1_left x1_earned x1_turnCost x1_turnWayless, gWy d h2 (out.2.1.1) (out.2.1.2.1) (out.2.1.2.2.1) (out.2.1.2.2.2.1) (out.2.1.2.2.2.2.1) (out.2.1.2.2.2.2.2.1) x2_steps x2_nodes x2_stepCount x2_open x2_openCount x2_seen (out.2.1.2.2.2.2.2.2.1) (out.2.1.2.2.2.2.2.2.2), gLd d h3 (out.2.2.1.1) (out.2.2.1.2.1) (out.2.2.1.2.2.1) (out.2.2.1.2.2.2.1) (out.2.2.1.2.2.2.2.1) (out.2.2.1.2.2.2.2.2.1) (out.2.2.1.2.2.2.2.2.2.1) (out.2.2.1.2.2.2.2.2.2.2.1) (out.2.2.1.2.2.2.2.2.2.2.2.1) x3_knownFree (out.2.2.1.2.2.2.2.2.2.2.2.2), gLd d h4 (out.2.2.2.1) x4_goodsCount x4_workCount x4_years (out.2.2.2.2.1) x4_goods x4_works (out.2.2.2.2.2.1) x4_coin (out.2.2.2.2.2.2.1) (out.2.2.2.2.2.2.2)])) := by
  refine Ct.of (by decide) (Nat.le_of_ble_eq_true rfl) ?_
  intro Φ hl hK hR
  subst hl
  have hK : Ok d Φ RX0 "bestOf" cX0_bestOf 7 (some .int) { frames := 5, cells := 0, slots := 0, locals := 127 } := hK
  unfold fX0_bestOf at hf
  have hf := un4 hf
  have hf := un14 hf
  have hf := un11 hf
  have hf := un11 hf
  show J d Φ 7 [gCh d h0 (h1 0) a0_after (h3 0) x0_gained, gTr d h1 (h2 0) x1_left x1_earned x1_turnCost x1_turnWayless, gWy d h2 x2_edgeA x2_edgeB x2_edgeCost x2_edgeLine x2_change x2_away x2_steps x2_nodes x2_stepCount x2_open x2_openCount x2_seen x2_edgeCount x2_aim, gLd d h3 x3_lineCount x3_goodsCount x3_workCount x3_years x3_lines x3_goods x3_works x3_change x3_coin x3_knownFree x3_isKnown, gLd d h4 x4_lineCount x4_goodsCount x4_workCount x4_years x4_lines x4_goods x4_works x4_change x4_coin x4_knownFree x4_isKnown] 0 0 0 [(0, .ref (h0 0)), (1, .ref (h4 0))] []
  refine J_iconst (v := 0) hK dX0_bestOf_0 rfl (by decide) ?_
  refine J_istore_n (L' := [(2, .int (0)), (0, .ref (h0 0)), (1, .ref (h4 0))]) hK dX0_bestOf_1 rfl rfl (by decide) rfl ?_
  refine J_aload_n hK dX0_bestOf_2 rfl 1 rfl rfl ?_
  refine J_aload_n hK dX0_bestOf_3 rfl 2 rfl rfl ?_
  refine J_iconst (v := 0) hK dX0_bestOf_4 rfl (by decide) ?_
  obtain ⟨⟨v1, ⟨g3, g4, g5, g6, g7, g8, g9, g10⟩, ⟨g12, g13, g14, g15, g16, g17, g18, g19, g20, g21⟩, ⟨g23, g24, g25, g26, g27⟩⟩, e28, hf⟩ := bs hf
  have hf := un4 hf
  have hf := un8 hf
  have hf := un10 hf
  have hf := un5 hf
  refine J_callV (m' := 5) (ce' := 0) (sl' := 0) (gr := []) (gs' := fun _ => [gCh d h0 (h1 0) a0_after (h3 0) x0_gained, gTr d h1 (h2 0) x1_left x1_earned x1_turnCost x1_turnWayless, gWy d h2 g3 g4 g5 g6 g7 g8 x2_steps x2_nodes x2_stepCount x2_open x2_openCount x2_seen g9 g10, gLd d h3 g12 g13 g14 g15 g16 g17 g18 g19 g20 x3_knownFree g21, gLd d h4 g23 x4_goodsCount x4_workCount x4_years g24 x4_goods x4_works g25 x4_coin g26 g27]) (st' := fun _ => [.int v1]) (st := []) hK dX0_bestOf_5 cv_RX0_77 iv_yX0_totalOf (As := [.ref (h4 0), .int (0)]) (kX0_totalOf _ d h0 a0_after h1 h2 h3 h4 n x0_gained x1_left x1_earned x1_turnCost x1_turnWayless x2_edgeA x2_edgeB x2_edgeCost x2_edgeLine x2_change x2_away x2_steps x2_nodes x2_stepCount x2_open x2_openCount x2_seen x2_edgeCount x2_aim x3_lineCount x3_goodsCount x3_workCount x3_years x3_lines x3_goods x3_works x3_change x3_coin x3_knownFree x3_isKnown x4_lineCount x4_goodsCount x4_workCount x4_years x4_lines x4_goods x4_works x4_change x4_coin x4_knownFree x4_isKnown (0) e28) rfl rfl (Nat.le_of_ble_eq_true rfl) (by decide) 0 0 rfl rfl rfl [0, 1, 2, 3, 4] [] rfl rfl rfl rfl [0, 1, 2, 3, 4] rfl (fun _ => rfl) (fun _ => rfl) rfl rfl rfl (fun _ => rfl) (fun _ => ?_)
  refine J_istore_n (L' := [(3, .int v1), (2, .int (0)), (0, .ref (h0 0)), (1, .ref (h4 0))]) hK dX0_bestOf_8 rfl rfl (by decide) rfl ?_
  refine J_aload_n hK dX0_bestOf_9 rfl 3 rfl rfl ?_
  obtain ⟨v29, e30, hf⟩ := bs hf
  refine J_callV (m' := 5) (ce' := 0) (sl' := 0) (gr := [gCh d h0 (h1 0) a0_after (h3 0) x0_gained, gTr d h1 (h2 0) x1_left x1_earned x1_turnCost x1_turnWayless, gWy d h2 g3 g4 g5 g6 g7 g8 x2_steps x2_nodes x2_stepCount x2_open x2_openCount x2_seen g9 g10, gLd d h3 g12 g13 g14 g15 g16 g17 g18 g19 g20 x3_knownFree g21]) (gs' := fun _ => [gCh d h0 (h1 0) a0_after (h3 0) x0_gained, gTr d h1 (h2 0) x1_left x1_earned x1_turnCost x1_turnWayless, gWy d h2 g3 g4 g5 g6 g7 g8 x2_steps x2_nodes x2_stepCount x2_open x2_openCount x2_seen g9 g10, gLd d h3 g12 g13 g14 g15 g16 g17 g18 g19 g20 x3_knownFree g21, gLd d h4 g23 x4_goodsCount x4_workCount x4_years g24 x4_goods x4_works g25 x4_coin g26 g27]) (st' := fun _ => [.int v29]) (st := []) hK dX0_bestOf_10 cv_RX0_32 iv_yX1_doneWorks (As := []) (kX1_doneWorks _ d h4 n g23 x4_goodsCount x4_workCount x4_years g24 x4_goods x4_works g25 x4_coin g26 g27 e30) rfl rfl (Nat.le_of_ble_eq_true rfl) (by decide) 4 0 rfl rfl rfl [4] [0, 1, 2, 3] rfl rfl rfl rfl [0, 1, 2, 3, 4] rfl (fun _ => rfl) (fun _ => rfl) rfl rfl rfl (fun _ => rfl) (fun _ => ?_)
  refine J_istore (L' := [(4, .int v29), (3, .int v1), (2, .int (0)), (0, .ref (h0 0)), (1, .ref (h4 0))]) hK dX0_bestOf_13 rfl (by decide) rfl ?_
  refine J_iconst (v := 1) hK dX0_bestOf_15 rfl (by decide) ?_
  refine J_istore (L' := [(5, .int (1)), (4, .int v29), (3, .int v1), (2, .int (0)), (0, .ref (h0 0)), (1, .ref (h4 0))]) hK dX0_bestOf_16 rfl (by decide) rfl ?_
  obtain ⟨e58, hl31, hf⟩ := bs hf
  have hx31_64 : ∀ (w59 : Int32) (w60 : (Nat → Int32)) (w61 : (Nat → Int32)) (w62 : (Nat → Int32)) (w63 : (Nat → Int32)) (w64 : (Nat → Int32)) (w65 : (Nat → Int32)) (w66 : Int32) (w67 : Int32) (w68 : Int32) (w69 : Int32) (w70 : Int32) (w71 : Int32) (w72 : (Nat → Int32)) (w73 : (Nat → Int32)) (w74 : (Nat → Int32)) (w75 : (Nat → Int32)) (w76 : (Nat → Int32)) (w77 : Int32) (w78 : Int32) (w79 : (Nat → Int32)) (w80 : (Nat → Int32)) (w81 : (Nat → Int32)) (w82 : Int32), (w59, w60, w61, w62, w63, w64, w65, w66, w67, w68, w69, w70, w71, w72, w73, w74, w75, w76, w77, w78, w79, w80, w81, w82) = e58 → J d Φ 7 [gCh d h0 (h1 0) a0_after (h3 0) x0_gained, gTr d h1 (h2 0) x1_left x1_earned x1_turnCost x1_turnWayless, gWy d h2 w60 w61 w62 w63 w64 w65 x2_steps x2_nodes x2_stepCount x2_open x2_openCount x2_seen w66 w67, gLd d h3 w68 w69 w70 w71 w72 w73 w74 w75 w76 x3_knownFree w77, gLd d h4 w78 x4_goodsCount x4_workCount x4_years w79 x4_goods x4_works w80 x4_coin w81 w82] 0 0 64 [(2, .int w59)] [] := by
    intro w59 w60 w61 w62 w63 w64 w65 w66 w67 w68 w69 w70 w71 w72 w73 w74 w75 w76 w77 w78 w79 w80 w81 w82 he
    rw [← he] at hf
    have hf := un24 hf
    refine J_iload_n hK dX0_bestOf_64 rfl 0 rfl rfl ?_
    obtain rfl := Option.some.inj hf
    exact J_iret hK hR dX0_bestOf_65 () rfl (by decide) (by decide)
  have lo31 : ∀ (k : Nat) (z32 : Int32) (z33 : Int32) (z34 : Int32) (z35 : (Nat → Int32)) (z36 : (Nat → Int32)) (z37 : (Nat → Int32)) (z38 : (Nat → Int32)) (z39 : (Nat → Int32)) (z40 : (Nat → Int32)) (z41 : Int32) (z42 : Int32) (z43 : Int32) (z44 : Int32) (z45 : Int32) (z46 : Int32) (z47 : (Nat → Int32)) (z48 : (Nat → Int32)) (z49 : (Nat → Int32)) (z50 : (Nat → Int32)) (z51 : (Nat → Int32)) (z52 : Int32) (z53 : Int32) (z54 : (Nat → Int32)) (z55 : (Nat → Int32)) (z56 : (Nat → Int32)) (z57 : Int32), lp (u26 (fX0_bestOf_s18 n x0_gained x1_left x1_earned x1_turnCost x1_turnWayless x2_steps x2_nodes x2_stepCount x2_open x2_openCount x2_seen x3_knownFree x4_goodsCount x4_workCount x4_years x4_goods x4_works x4_coin v29)) k (z32, z33, z34, z35, z36, z37, z38, z39, z40, z41, z42, z43, z44, z45, z46, z47, z48, z49, z50, z51, z52, z53, z54, z55, z56, z57) = some e58 → J d Φ 7 [gCh d h0 (h1 0) a0_after (h3 0) x0_gained, gTr d h1 (h2 0) x1_left x1_earned x1_turnCost x1_turnWayless, gWy d h2 z35 z36 z37 z38 z39 z40 x2_steps x2_nodes x2_stepCount x2_open x2_openCount x2_seen z41 z42, gLd d h3 z43 z44 z45 z46 z47 z48 z49 z50 z51 x3_knownFree z52, gLd d h4 z53 x4_goodsCount x4_workCount x4_years z54 x4_goods x4_works z55 x4_coin z56 z57] 0 0 18 [(0, .ref (h0 0)), (1, .ref (h4 0)), (2, .int z32), (3, .int z33), (4, .int v29), (5, .int z34)] [] := by
    intro k
    induction k with
    | zero => intro z32 z33 z34 z35 z36 z37 z38 z39 z40 z41 z42 z43 z44 z45 z46 z47 z48 z49 z50 z51 z52 z53 z54 z55 z56 z57 h; cases h
    | succ k ih31 =>
      intro z32 z33 z34 z35 z36 z37 z38 z39 z40 z41 z42 z43 z44 z45 z46 z47 z48 z49 z50 z51 z52 z53 z54 z55 z56 z57 h
      obtain ⟨k2, rr31, hk2, hs31, hr31⟩ := lp_ok h
      cases hk2
      have hs31 : fX0_bestOf_s18 n x0_gained x1_left x1_earned x1_turnCost x1_turnWayless x2_steps x2_nodes x2_stepCount x2_open x2_openCount x2_seen x3_knownFree x4_goodsCount x4_workCount x4_years x4_goods x4_works x4_coin v29 z32 z33 z34 z35 z36 z37 z38 z39 z40 z41 z42 z43 z44 z45 z46 z47 z48 z49 z50 z51 z52 z53 z54 z55 z56 z57 = some rr31 := hs31
      unfold fX0_bestOf_s18 at hs31
      refine J_iload hK dX0_bestOf_18 rfl 5 rfl ?_
      refine J_iconst (v := 1) hK dX0_bestOf_20 rfl (by decide) ?_
      refine J_aload_n hK dX0_bestOf_21 rfl 1 rfl rfl ?_
      refine J_get hK fo_RX0_44 dX0_bestOf_22 rfl 4 0 rfl rfl rfl ?_
      refine J_ishl hK dX0_bestOf_25 rfl ?_
      refine J_icmp_ge (tg := 64) hK dX0_bestOf_26 rfl rfl (fun hc26 => ?_) (fun hc26 => ?_)
      · have hs31 := ip hc26 hs31
        exact J_loc [2] rfl (hx31_64 z32 z35 z36 z37 z38 z39 z40 z41 z42 z43 z44 z45 z46 z47 z48 z49 z50 z51 z52 z53 z54 z55 z56 z57 (lpx hs31 hr31))
      · have hs31 := iq hc26 hs31
        refine J_iload hK dX0_bestOf_29 rfl 5 rfl ?_
        refine J_iload hK dX0_bestOf_31 rfl 4 rfl ?_
        refine J_iand hK dX0_bestOf_33 rfl ?_
        refine J_if_ne (tg := 58) hK dX0_bestOf_34 rfl rfl (fun hc34 => ?_) (fun hc34 => ?_)
        · have hs31 := iq hc34 hs31
          refine J_iinc (L' := [(5, .int (z34 + 1)), (0, .ref (h0 0)), (1, .ref (h4 0)), (2, .int z32), (3, .int z33), (4, .int v29)]) (v := (z34 + 1)) hK dX0_bestOf_58 rfl 5 rfl rfl (by decide) rfl ?_
          refine J_goto hK dX0_bestOf_61 (n := 18) rfl ?_
          exact J_loc [1, 2, 3, 4, 5, 0] rfl (ih31 z32 z33 (z34 + 1) z35 z36 z37 z38 z39 z40 z41 z42 z43 z44 z45 z46 z47 z48 z49 z50 z51 z52 z53 z54 z55 z56 z57 (lpc hs31 hr31))
        · have hs31 := ip hc34 hs31
          refine J_aload_n hK dX0_bestOf_37 rfl 0 rfl rfl ?_
          refine J_aload_n hK dX0_bestOf_38 rfl 1 rfl rfl ?_
          refine J_iload hK dX0_bestOf_39 rfl 5 rfl ?_
          obtain ⟨⟨v83, ⟨g85, g86, g87, g88, g89, g90, g91, g92⟩, ⟨g94, g95, g96, g97, g98, g99, g100, g101, g102, g103⟩, ⟨g105, g106, g107, g108, g109⟩⟩, e110, hs31⟩ := bs hs31
          have hs31 := un4 hs31
          have hs31 := un8 hs31
          have hs31 := un10 hs31
          have hs31 := un5 hs31
          refine J_callV (m' := 5) (ce' := 0) (sl' := 0) (gr := []) (gs' := fun _ => [gCh d h0 (h1 0) a0_after (h3 0) x0_gained, gTr d h1 (h2 0) x1_left x1_earned x1_turnCost x1_turnWayless, gWy d h2 g85 g86 g87 g88 g89 g90 x2_steps x2_nodes x2_stepCount x2_open x2_openCount x2_seen g91 g92, gLd d h3 g94 g95 g96 g97 g98 g99 g100 g101 g102 x3_knownFree g103, gLd d h4 g105 x4_goodsCount x4_workCount x4_years g106 x4_goods x4_works g107 x4_coin g108 g109]) (st' := fun _ => [.int v83]) (st := []) hK dX0_bestOf_41 cv_RX0_77 iv_yX0_totalOf (As := [.ref (h4 0), .int z34]) (kX0_totalOf _ d h0 a0_after h1 h2 h3 h4 n x0_gained x1_left x1_earned x1_turnCost x1_turnWayless z35 z36 z37 z38 z39 z40 x2_steps x2_nodes x2_stepCount x2_open x2_openCount x2_seen z41 z42 z43 z44 z45 z46 z47 z48 z49 z50 z51 x3_knownFree z52 z53 x4_goodsCount x4_workCount x4_years z54 x4_goods x4_works z55 x4_coin z56 z57 z34 e110) rfl rfl (Nat.le_of_ble_eq_true rfl) (by decide) 0 0 rfl rfl rfl [0, 1, 2, 3, 4] [] rfl rfl rfl rfl [0, 1, 2, 3, 4] rfl (fun _ => rfl) (fun _ => rfl) rfl rfl rfl (fun _ => rfl) (fun _ => ?_)
          refine J_istore (L' := [(6, .int v83), (0, .ref (h0 0)), (1, .ref (h4 0)), (2, .int z32), (3, .int z33), (4, .int v29), (5, .int z34)]) hK dX0_bestOf_44 rfl (by decide) rfl ?_
          refine J_iload hK dX0_bestOf_46 rfl 0 rfl ?_
          refine J_iload_n hK dX0_bestOf_48 rfl 4 rfl rfl ?_
          refine J_icmp_ge (tg := 58) hK dX0_bestOf_49 rfl rfl (fun hc49 => ?_) (fun hc49 => ?_)
          · have hs31 := ip hc49 hs31
            refine J_iinc (L' := [(5, .int (z34 + 1)), (6, .int v83), (0, .ref (h0 0)), (1, .ref (h4 0)), (2, .int z32), (3, .int z33), (4, .int v29)]) (v := (z34 + 1)) hK dX0_bestOf_58 rfl 6 rfl rfl (by decide) rfl ?_
            refine J_goto hK dX0_bestOf_61 (n := 18) rfl ?_
            exact J_loc [2, 3, 4, 5, 6, 0] rfl (ih31 z32 z33 (z34 + 1) g85 g86 g87 g88 g89 g90 g91 g92 g94 g95 g96 g97 g98 g99 g100 g101 g102 g103 g105 g106 g107 g108 g109 (lpc hs31 hr31))
          · have hs31 := iq hc49 hs31
            refine J_iload hK dX0_bestOf_52 rfl 0 rfl ?_
            refine J_istore_n (L' := [(3, .int v83), (6, .int v83), (0, .ref (h0 0)), (1, .ref (h4 0)), (2, .int z32), (4, .int v29), (5, .int z34)]) hK dX0_bestOf_54 rfl rfl (by decide) rfl ?_
            refine J_iload hK dX0_bestOf_55 rfl 6 rfl ?_
            refine J_istore_n (L' := [(2, .int z34), (3, .int v83), (6, .int v83), (0, .ref (h0 0)), (1, .ref (h4 0)), (4, .int v29), (5, .int z34)]) hK dX0_bestOf_57 rfl rfl (by decide) rfl ?_
            refine J_iinc (L' := [(5, .int (z34 + 1)), (2, .int z34), (3, .int v83), (6, .int v83), (0, .ref (h0 0)), (1, .ref (h4 0)), (4, .int v29)]) (v := (z34 + 1)) hK dX0_bestOf_58 rfl 6 rfl rfl (by decide) rfl ?_
            refine J_goto hK dX0_bestOf_61 (n := 18) rfl ?_
            exact J_loc [4, 5, 1, 2, 6, 0] rfl (ih31 z34 v83 (z34 + 1) g85 g86 g87 g88 g89 g90 g91 g92 g94 g95 g96 g97 g98 g99 g100 g101 g102 g103 g105 g106 g107 g108 g109 (lpc hs31 hr31))
  exact J_loc [4, 5, 3, 2, 1, 0] rfl (lo31 n (0) v1 (1) g3 g4 g5 g6 g7 g8 g9 g10 g12 g13 g14 g15 g16 g17 g18 g19 g20 g21 g23 g24 g25 g26 g27 hl31)

def fX0_worthIn (n : Nat) (X0 : ChT) (X1 : TrT) (X2 : WyT) (X3 : LdT) (X4 : LdT) (p2 : Int32) (p3 : Int32) : Option (Int32 × ((Nat → Int32) × (Nat → Int32) × (Nat → Int32) × (Nat → Int32) × (Nat → Int32) × (Nat → Int32) × Int32 × Int32) × (Int32 × Int32 × Int32 × Int32 × (Nat → Int32) × (Nat → Int32) × (Nat → Int32) × (Nat → Int32) × (Nat → Int32) × Int32) × (Int32 × (Nat → Int32) × (Nat → Int32) × (Nat → Int32) × Int32)) :=
  (fun (x0_gained : (Nat → Int32)) => u4 (fun (x1_left : (Nat → Int32)) (x1_earned : (Nat → Int32)) (x1_turnCost : Int32) (x1_turnWayless : Int32) => u14 (fun (x2_edgeA : (Nat → Int32)) (x2_edgeB : (Nat → Int32)) (x2_edgeCost : (Nat → Int32)) (x2_edgeLine : (Nat → Int32)) (x2_change : (Nat → Int32)) (x2_away : (Nat → Int32)) (x2_steps : (Nat → Int32)) (x2_nodes : (Nat → Int32)) (x2_stepCount : Int32) (x2_open : (Nat → Int32)) (x2_openCount : Int32) (x2_seen : Int64) (x2_edgeCount : Int32) (x2_aim : Int32) => u11 (fun (x3_lineCount : Int32) (x3_goodsCount : Int32) (x3_workCount : Int32) (x3_years : Int32) (x3_lines : (Nat → Int32)) (x3_goods : (Nat → Int32)) (x3_works : (Nat → Int32)) (x3_change : (Nat → Int32)) (x3_coin : (Nat → Int32)) (x3_knownFree : (Nat → Int32)) (x3_isKnown : Int32) => u11 (fun (x4_lineCount : Int32) (x4_goodsCount : Int32) (x4_workCount : Int32) (x4_years : Int32) (x4_lines : (Nat → Int32)) (x4_goods : (Nat → Int32)) (x4_works : (Nat → Int32)) (x4_change : (Nat → Int32)) (x4_coin : (Nat → Int32)) (x4_knownFree : (Nat → Int32)) (x4_isKnown : Int32) => (fX0_freeWith n x0_gained (x1_left, x1_earned, x1_turnCost, x1_turnWayless) (x2_edgeA, x2_edgeB, x2_edgeCost, x2_edgeLine, x2_change, x2_away, x2_steps, x2_nodes, x2_stepCount, x2_open, x2_openCount, x2_seen, x2_edgeCount, x2_aim) (x3_lineCount, x3_goodsCount, x3_workCount, x3_years, x3_lines, x3_goods, x3_works, x3_change, x3_coin, x3_knownFree, x3_isKnown) (x4_lineCount, x4_goodsCount, x4_workCount, x4_years, x4_lines, x4_goods, x4_works, x4_change, x4_coin, x4_knownFree, x4_isKnown) (0)).bind (u4 fun v1 G2 G11 G22 => u8 (fun g3 g4 g5 g6 g7 g8 g9 g10 => u10 (fun g12 g13 g14 g15 g16 g17 g18 g19 g20 g21 => u5 (fun g23 g24 g25 g26 g27 => (fX0_freeWith n x0_gained (x1_left, x1_earned, x1_turnCost, x1_turnWayless) (g3, g4, g5, g6, g7, g8, x2_steps, x2_nodes, x2_stepCount, x2_open, x2_openCount, x2_seen, g9, g10) (g12, g13, g14, g15, g16, g17, g18, g19, g20, x3_knownFree, g21) (g23, x4_goodsCount, x4_workCount, x4_years, g24, x4_goods, x4_works, g25, x4_coin, g26, g27) ((1 : Int32) <<< (p2 &&& 31))).bind (u4 fun v29 G30 G39 G50 => u8 (fun g31 g32 g33 g34 g35 g36 g37 g38 => u10 (fun g40 g41 g42 g43 g44 g45 g46 g47 g48 g49 => u5 (fun g51 g52 g53 g54 g55 => (fX1_ofWork (g51, x4_goodsCount, x4_workCount, x4_years, g52, x4_goods, x4_works, g53, x4_coin, g54, g55) p2 (3)).bind (fun v57 => some (((p3 * (v1 - v29)) - v57), (g31, g32, g33, g34, g35, g36, g37, g38), (g40, g41, g42, g43, g44, g45, g46, g47, g48, g49), (g51, g52, g53, g54, g55)))) G50) G39) G30)) G22) G11) G2)) X4) X3) X2) X1) X0
set_option maxHeartbeats 4000000 in
set_option maxRecDepth 100000 in
theorem kX0_worthIn (l : Launch) (d : DT) (h0 : Nat → Nat) (a0_after : Nat) (h1 : Nat → Nat) (h2 : Nat → Nat) (h3 : Nat → Nat) (h4 : Nat → Nat) (n : Nat) (x0_gained : (Nat → Int32)) (x1_left : (Nat → Int32)) (x1_earned : (Nat → Int32)) (x1_turnCost : Int32) (x1_turnWayless : Int32) (x2_edgeA : (Nat → Int32)) (x2_edgeB : (Nat → Int32)) (x2_edgeCost : (Nat → Int32)) (x2_edgeLine : (Nat → Int32)) (x2_change : (Nat → Int32)) (x2_away : (Nat → Int32)) (x2_steps : (Nat → Int32)) (x2_nodes : (Nat → Int32)) (x2_stepCount : Int32) (x2_open : (Nat → Int32)) (x2_openCount : Int32) (x2_seen : Int64) (x2_edgeCount : Int32) (x2_aim : Int32) (x3_lineCount : Int32) (x3_goodsCount : Int32) (x3_workCount : Int32) (x3_years : Int32) (x3_lines : (Nat → Int32)) (x3_goods : (Nat → Int32)) (x3_works : (Nat → Int32)) (x3_change : (Nat → Int32)) (x3_coin : (Nat → Int32)) (x3_knownFree : (Nat → Int32)) (x3_isKnown : Int32) (x4_lineCount : Int32) (x4_goodsCount : Int32) (x4_workCount : Int32) (x4_years : Int32) (x4_lines : (Nat → Int32)) (x4_goods : (Nat → Int32)) (x4_works : (Nat → Int32)) (x4_change : (Nat → Int32)) (x4_coin : (Nat → Int32)) (x4_knownFree : (Nat → Int32)) (x4_isKnown : Int32) (p2 : Int32) (p3 : Int32)  {out : Int32 × ((Nat → Int32) × (Nat → Int32) × (Nat → Int32) × (Nat → Int32) × (Nat → Int32) × (Nat → Int32) × Int32 × Int32) × (Int32 × Int32 × Int32 × Int32 × (Nat → Int32) × (Nat → Int32) × (Nat → Int32) × (Nat → Int32) × (Nat → Int32) × Int32) × (Int32 × (Nat → Int32) × (Nat → Int32) × (Nat → Int32) × Int32)} (hf : fX0_worthIn n x0_gained (x1_left, x1_earned, x1_turnCost, x1_turnWayless) (x2_edgeA, x2_edgeB, x2_edgeCost, x2_edgeLine, x2_change, x2_away, x2_steps, x2_nodes, x2_stepCount, x2_open, x2_openCount, x2_seen, x2_edgeCount, x2_aim) (x3_lineCount, x3_goodsCount, x3_workCount, x3_years, x3_lines, x3_goods, x3_works, x3_change, x3_coin, x3_knownFree, x3_isKnown) (x4_lineCount, x4_goodsCount, x4_workCount, x4_years, x4_lines, x4_goods, x4_works, x4_change, x4_coin, x4_knownFree, x4_isKnown) p2 p3 = some out) : Ct l d yX0_worthIn cX0_worthIn 4 (some .int) { frames := 4, cells := 0, slots := 0, locals := 103 } [.ref (h0 0), .ref (h4 0), .int p2, .int p3] [gCh d h0 (h1 0) a0_after (h3 0) x0_gained, gTr d h1 (h2 0) x1_left x1_earned x1_turnCost x1_turnWayless, gWy d h2 x2_edgeA x2_edgeB x2_edgeCost x2_edgeLine x2_change x2_away x2_steps x2_nodes x2_stepCount x2_open x2_openCount x2_seen x2_edgeCount x2_aim, gLd d h3 x3_lineCount x3_goodsCount x3_workCount x3_years x3_lines x3_goods x3_works x3_change x3_coin x3_knownFree x3_isKnown, gLd d h4 x4_lineCount x4_goodsCount x4_workCount x4_years x4_lines x4_goods x4_works x4_change x4_coin x4_knownFree x4_isKnown] (fun _ : Unit => (some (.int out.1), [gCh d h0 (h1 0) a0_after (h3 0) x0_gained, gTr d h1 (h2 0) x1_left x1_earned x1_turnCost x1_turnWayless, gWy d h2 (out.2.1.1) (out.2.1.2.1) (out.2.1.2.2.1) (out.2.1.2.2.2.1) (out.2.1.2.2.2.2.1) (out.2.1.2.2.2.2.2.1) x2_steps x2_nodes x2_stepCount x2_open x2_openCount x2_seen (out.2.1.2.2.2.2.2.2.1) (out.2.1.2.2.2.2.2.2.2), gLd d h3 (out.2.2.1.1) (out.2.2.1.2.1) (out.2.2.1.2.2.1) (out.2.2.1.2.2.2.1) (out.2.2.1.2.2.2.2.1) (out.2.2.1.2.2.2.2.2.1) (out.2.2.1.2.2.2.2.2.2.1) (out.2.2.1.2.2.2.2.2.2.2.1) (out.2.2.1.2.2.2.2.2.2.2.2.1) x3_knownFree (out.2.2.1.2.2.2.2.2.2.2.2.2), gLd d h4 (out.2.2.2.1) x4_goodsCount x4_workCount x4_years (out.2.2.2.2.1) x4_goods x4_works (out.2.2.2.2.2.1) x4_coin (out.2.2.2.2.2.2.1) (out.2.2.2.2.2.2.2)])) := by
  refine Ct.of (by decide) (Nat.le_of_ble_eq_true rfl) ?_
  intro Φ hl hK hR
  subst hl
  have hK : Ok d Φ RX0 "worthIn" cX0_worthIn 4 (some .int) { frames := 4, cells := 0, slots := 0, locals := 103 } := hK
  unfold fX0_worthIn at hf
  have hf := un4 hf
  have hf := un14 hf
  have hf := un11 hf
  have hf := un11 hf
  show J d Φ 4 [gCh d h0 (h1 0) a0_after (h3 0) x0_gained, gTr d h1 (h2 0) x1_left x1_earned x1_turnCost x1_turnWayless, gWy d h2 x2_edgeA x2_edgeB x2_edgeCost x2_edgeLine x2_change x2_away x2_steps x2_nodes x2_stepCount x2_open x2_openCount x2_seen x2_edgeCount x2_aim, gLd d h3 x3_lineCount x3_goodsCount x3_workCount x3_years x3_lines x3_goods x3_works x3_change x3_coin x3_knownFree x3_isKnown, gLd d h4 x4_lineCount x4_goodsCount x4_workCount x4_years x4_lines x4_goods x4_works x4_change x4_coin x4_knownFree x4_isKnown] 0 0 0 [(0, .ref (h0 0)), (1, .ref (h4 0)), (2, .int p2), (3, .int p3)] []
  refine J_iload_n hK dX0_worthIn_0 rfl 3 rfl rfl ?_
  refine J_aload_n hK dX0_worthIn_1 rfl 0 rfl rfl ?_
  refine J_aload_n hK dX0_worthIn_2 rfl 1 rfl rfl ?_
  refine J_iconst (v := 0) hK dX0_worthIn_3 rfl (by decide) ?_
  obtain ⟨⟨v1, ⟨g3, g4, g5, g6, g7, g8, g9, g10⟩, ⟨g12, g13, g14, g15, g16, g17, g18, g19, g20, g21⟩, ⟨g23, g24, g25, g26, g27⟩⟩, e28, hf⟩ := bs hf
  have hf := un4 hf
  have hf := un8 hf
  have hf := un10 hf
  have hf := un5 hf
  refine J_callV (m' := 5) (ce' := 0) (sl' := 0) (gr := []) (gs' := fun _ => [gCh d h0 (h1 0) a0_after (h3 0) x0_gained, gTr d h1 (h2 0) x1_left x1_earned x1_turnCost x1_turnWayless, gWy d h2 g3 g4 g5 g6 g7 g8 x2_steps x2_nodes x2_stepCount x2_open x2_openCount x2_seen g9 g10, gLd d h3 g12 g13 g14 g15 g16 g17 g18 g19 g20 x3_knownFree g21, gLd d h4 g23 x4_goodsCount x4_workCount x4_years g24 x4_goods x4_works g25 x4_coin g26 g27]) (st' := fun _ => [.int v1, .int p3]) (st := [.int p3]) hK dX0_worthIn_4 cv_RX0_66 iv_yX0_freeWith (As := [.ref (h4 0), .int (0)]) (kX0_freeWith _ d h0 a0_after h1 h2 h3 h4 n x0_gained x1_left x1_earned x1_turnCost x1_turnWayless x2_edgeA x2_edgeB x2_edgeCost x2_edgeLine x2_change x2_away x2_steps x2_nodes x2_stepCount x2_open x2_openCount x2_seen x2_edgeCount x2_aim x3_lineCount x3_goodsCount x3_workCount x3_years x3_lines x3_goods x3_works x3_change x3_coin x3_knownFree x3_isKnown x4_lineCount x4_goodsCount x4_workCount x4_years x4_lines x4_goods x4_works x4_change x4_coin x4_knownFree x4_isKnown (0) e28) rfl rfl (Nat.le_of_ble_eq_true rfl) (by decide) 0 0 rfl rfl rfl [0, 1, 2, 3, 4] [] rfl rfl rfl rfl [0, 1, 2, 3, 4] rfl (fun _ => rfl) (fun _ => rfl) rfl rfl rfl (fun _ => rfl) (fun _ => ?_)
  refine J_aload_n hK dX0_worthIn_7 rfl 0 rfl rfl ?_
  refine J_aload_n hK dX0_worthIn_8 rfl 1 rfl rfl ?_
  refine J_iconst (v := 1) hK dX0_worthIn_9 rfl (by decide) ?_
  refine J_iload_n hK dX0_worthIn_10 rfl 2 rfl rfl ?_
  refine J_ishl hK dX0_worthIn_11 rfl ?_
  obtain ⟨⟨v29, ⟨g31, g32, g33, g34, g35, g36, g37, g38⟩, ⟨g40, g41, g42, g43, g44, g45, g46, g47, g48, g49⟩, ⟨g51, g52, g53, g54, g55⟩⟩, e56, hf⟩ := bs hf
  have hf := un4 hf
  have hf := un8 hf
  have hf := un10 hf
  have hf := un5 hf
  refine J_callV (m' := 5) (ce' := 0) (sl' := 0) (gr := []) (gs' := fun _ => [gCh d h0 (h1 0) a0_after (h3 0) x0_gained, gTr d h1 (h2 0) x1_left x1_earned x1_turnCost x1_turnWayless, gWy d h2 g31 g32 g33 g34 g35 g36 x2_steps x2_nodes x2_stepCount x2_open x2_openCount x2_seen g37 g38, gLd d h3 g40 g41 g42 g43 g44 g45 g46 g47 g48 x3_knownFree g49, gLd d h4 g51 x4_goodsCount x4_workCount x4_years g52 x4_goods x4_works g53 x4_coin g54 g55]) (st' := fun _ => [.int v29, .int v1, .int p3]) (st := [.int v1, .int p3]) hK dX0_worthIn_12 cv_RX0_66 iv_yX0_freeWith (As := [.ref (h4 0), .int ((1 : Int32) <<< (p2 &&& 31))]) (kX0_freeWith _ d h0 a0_after h1 h2 h3 h4 n x0_gained x1_left x1_earned x1_turnCost x1_turnWayless g3 g4 g5 g6 g7 g8 x2_steps x2_nodes x2_stepCount x2_open x2_openCount x2_seen g9 g10 g12 g13 g14 g15 g16 g17 g18 g19 g20 x3_knownFree g21 g23 x4_goodsCount x4_workCount x4_years g24 x4_goods x4_works g25 x4_coin g26 g27 ((1 : Int32) <<< (p2 &&& 31)) e56) rfl rfl (Nat.le_of_ble_eq_true rfl) (by decide) 0 0 rfl rfl rfl [0, 1, 2, 3, 4] [] rfl rfl rfl rfl [0, 1, 2, 3, 4] rfl (fun _ => rfl) (fun _ => rfl) rfl rfl rfl (fun _ => rfl) (fun _ => ?_)
  refine J_isub hK dX0_worthIn_15 rfl ?_
  refine J_imul hK dX0_worthIn_16 rfl ?_
  refine J_aload_n hK dX0_worthIn_17 rfl 1 rfl rfl ?_
  refine J_iload_n hK dX0_worthIn_18 rfl 2 rfl rfl ?_
  refine J_iconst (v := 3) hK dX0_worthIn_19 rfl (by decide) ?_
  obtain ⟨v57, e58, hf⟩ := bs hf
  refine J_callV (m' := 5) (ce' := 0) (sl' := 0) (gr := [gCh d h0 (h1 0) a0_after (h3 0) x0_gained, gTr d h1 (h2 0) x1_left x1_earned x1_turnCost x1_turnWayless, gWy d h2 g31 g32 g33 g34 g35 g36 x2_steps x2_nodes x2_stepCount x2_open x2_openCount x2_seen g37 g38, gLd d h3 g40 g41 g42 g43 g44 g45 g46 g47 g48 x3_knownFree g49]) (gs' := fun _ => [gCh d h0 (h1 0) a0_after (h3 0) x0_gained, gTr d h1 (h2 0) x1_left x1_earned x1_turnCost x1_turnWayless, gWy d h2 g31 g32 g33 g34 g35 g36 x2_steps x2_nodes x2_stepCount x2_open x2_openCount x2_seen g37 g38, gLd d h3 g40 g41 g42 g43 g44 g45 g46 g47 g48 x3_knownFree g49, gLd d h4 g51 x4_goodsCount x4_workCount x4_years g52 x4_goods x4_works g53 x4_coin g54 g55]) (st' := fun _ => [.int v57, .int (p3 * (v1 - v29))]) (st := [.int (p3 * (v1 - v29))]) hK dX0_worthIn_20 cv_RX0_73 iv_yX1_ofWork (As := [.int p2, .int (3)]) (kX1_ofWork _ d h4 g51 x4_goodsCount x4_workCount x4_years g52 x4_goods x4_works g53 x4_coin g54 g55 p2 (3) e58) rfl rfl (Nat.le_of_ble_eq_true rfl) (by decide) 4 0 rfl rfl rfl [4] [0, 1, 2, 3] rfl rfl rfl rfl [0, 1, 2, 3, 4] rfl (fun _ => rfl) (fun _ => rfl) rfl rfl rfl (fun _ => rfl) (fun _ => ?_)
  refine J_isub hK dX0_worthIn_23 rfl ?_
  obtain rfl := Option.some.inj hf
  exact J_iret hK hR dX0_worthIn_24 () rfl (by decide) (by decide)

def fX0_firstOf_s7 (n : Nat) (x0_gained : (Nat → Int32)) (x1_left : (Nat → Int32)) (x1_earned : (Nat → Int32)) (x1_turnCost : Int32) (x1_turnWayless : Int32) (x2_steps : (Nat → Int32)) (x2_nodes : (Nat → Int32)) (x2_stepCount : Int32) (x2_open : (Nat → Int32)) (x2_openCount : Int32) (x2_seen : Int64) (x3_knownFree : (Nat → Int32)) (x4_goodsCount : Int32) (x4_workCount : Int32) (x4_years : Int32) (x4_goods : (Nat → Int32)) (x4_works : (Nat → Int32)) (x4_coin : (Nat → Int32)) (z2 : Int32) (z3 : Int32) (z4 : Int32) (z5 : (Nat → Int32)) (z6 : (Nat → Int32)) (z7 : (Nat → Int32)) (z8 : (Nat → Int32)) (z9 : (Nat → Int32)) (z10 : (Nat → Int32)) (z11 : Int32) (z12 : Int32) (z13 : Int32) (z14 : Int32) (z15 : Int32) (z16 : Int32) (z17 : (Nat → Int32)) (z18 : (Nat → Int32)) (z19 : (Nat → Int32)) (z20 : (Nat → Int32)) (z21 : (Nat → Int32)) (z22 : Int32) (z23 : Int32) (z24 : (Nat → Int32)) (z25 : (Nat → Int32)) (z26 : (Nat → Int32)) (z27 : Int32) : Option ((Int32 × Int32 × Int32 × (Nat → Int32) × (Nat → Int32) × (Nat → Int32) × (Nat → Int32) × (Nat → Int32) × (Nat → Int32) × Int32 × Int32 × Int32 × Int32 × Int32 × Int32 × (Nat → Int32) × (Nat → Int32) × (Nat → Int32) × (Nat → Int32) × (Nat → Int32) × Int32 × Int32 × (Nat → Int32) × (Nat → Int32) × (Nat → Int32) × Int32) ⊕ (Int32 × (Nat → Int32) × (Nat → Int32) × (Nat → Int32) × (Nat → Int32) × (Nat → Int32) × (Nat → Int32) × Int32 × Int32 × Int32 × Int32 × Int32 × Int32 × (Nat → Int32) × (Nat → Int32) × (Nat → Int32) × (Nat → Int32) × (Nat → Int32) × Int32 × Int32 × (Nat → Int32) × (Nat → Int32) × (Nat → Int32) × Int32)) :=
  if x4_workCount ≤ z4 then (some (.inr (z2, z5, z6, z7, z8, z9, z10, z11, z12, z13, z14, z15, z16, z17, z18, z19, z20, z21, z22, z23, z24, z25, z26, z27))) else ((fX1_isDone (z23, x4_goodsCount, x4_workCount, x4_years, z24, x4_goods, x4_works, z25, x4_coin, z26, z27) z4).bind (fun v53 => if v53 = 0 then ((fX0_worthIn n x0_gained (x1_left, x1_earned, x1_turnCost, x1_turnWayless) (z5, z6, z7, z8, z9, z10, x2_steps, x2_nodes, x2_stepCount, x2_open, x2_openCount, x2_seen, z11, z12) (z13, z14, z15, z16, z17, z18, z19, z20, z21, x3_knownFree, z22) (z23, x4_goodsCount, x4_workCount, x4_years, z24, x4_goods, x4_works, z25, x4_coin, z26, z27) z4 x4_years).bind (u4 fun v55 G56 G65 G76 => u8 (fun g57 g58 g59 g60 g61 g62 g63 g64 => u10 (fun g66 g67 g68 g69 g70 g71 g72 g73 g74 g75 => u5 (fun g77 g78 g79 g80 g81 => if v55 ≤ z3 then (some (.inl (z2, z3, (z4 + 1), g57, g58, g59, g60, g61, g62, g63, g64, g66, g67, g68, g69, g70, g71, g72, g73, g74, g75, g77, g78, g79, g80, g81))) else (some (.inl (z4, v55, (z4 + 1), g57, g58, g59, g60, g61, g62, g63, g64, g66, g67, g68, g69, g70, g71, g72, g73, g74, g75, g77, g78, g79, g80, g81)))) G76) G65) G56)) else (some (.inl (z2, z3, (z4 + 1), z5, z6, z7, z8, z9, z10, z11, z12, z13, z14, z15, z16, z17, z18, z19, z20, z21, z22, z23, z24, z25, z26, z27)))))
def fX0_firstOf (n : Nat) (X0 : ChT) (X1 : TrT) (X2 : WyT) (X3 : LdT) (X4 : LdT) : Option (Int32 × ((Nat → Int32) × (Nat → Int32) × (Nat → Int32) × (Nat → Int32) × (Nat → Int32) × (Nat → Int32) × Int32 × Int32) × (Int32 × Int32 × Int32 × Int32 × (Nat → Int32) × (Nat → Int32) × (Nat → Int32) × (Nat → Int32) × (Nat → Int32) × Int32) × (Int32 × (Nat → Int32) × (Nat → Int32) × (Nat → Int32) × Int32)) :=
  (fun (x0_gained : (Nat → Int32)) => u4 (fun (x1_left : (Nat → Int32)) (x1_earned : (Nat → Int32)) (x1_turnCost : Int32) (x1_turnWayless : Int32) => u14 (fun (x2_edgeA : (Nat → Int32)) (x2_edgeB : (Nat → Int32)) (x2_edgeCost : (Nat → Int32)) (x2_edgeLine : (Nat → Int32)) (x2_change : (Nat → Int32)) (x2_away : (Nat → Int32)) (x2_steps : (Nat → Int32)) (x2_nodes : (Nat → Int32)) (x2_stepCount : Int32) (x2_open : (Nat → Int32)) (x2_openCount : Int32) (x2_seen : Int64) (x2_edgeCount : Int32) (x2_aim : Int32) => u11 (fun (x3_lineCount : Int32) (x3_goodsCount : Int32) (x3_workCount : Int32) (x3_years : Int32) (x3_lines : (Nat → Int32)) (x3_goods : (Nat → Int32)) (x3_works : (Nat → Int32)) (x3_change : (Nat → Int32)) (x3_coin : (Nat → Int32)) (x3_knownFree : (Nat → Int32)) (x3_isKnown : Int32) => u11 (fun (x4_lineCount : Int32) (x4_goodsCount : Int32) (x4_workCount : Int32) (x4_years : Int32) (x4_lines : (Nat → Int32)) (x4_goods : (Nat → Int32)) (x4_works : (Nat → Int32)) (x4_change : (Nat → Int32)) (x4_coin : (Nat → Int32)) (x4_knownFree : (Nat → Int32)) (x4_isKnown : Int32) => (lp (u26 (fX0_firstOf_s7 n x0_gained x1_left x1_earned x1_turnCost x1_turnWayless x2_steps x2_nodes x2_stepCount x2_open x2_openCount x2_seen x3_knownFree x4_goodsCount x4_workCount x4_years x4_goods x4_works x4_coin)) n ((-1), 0, 0, x2_edgeA, x2_edgeB, x2_edgeCost, x2_edgeLine, x2_change, x2_away, x2_edgeCount, x2_aim, x3_lineCount, x3_goodsCount, x3_workCount, x3_years, x3_lines, x3_goods, x3_works, x3_change, x3_coin, x3_isKnown, x4_lineCount, x4_lines, x4_change, x4_knownFree, x4_isKnown)).bind (u24 fun w29 w30 w31 w32 w33 w34 w35 w36 w37 w38 w39 w40 w41 w42 w43 w44 w45 w46 w47 w48 w49 w50 w51 w52 => some (w29, (w30, w31, w32, w33, w34, w35, w36, w37), (w38, w39, w40, w41, w42, w43, w44, w45, w46, w47), (w48, w49, w50, w51, w52)))) X4) X3) X2) X1) X0
set_option maxHeartbeats 4000000 in
set_option maxRecDepth 100000 in
theorem kX0_firstOf (l : Launch) (d : DT) (h0 : Nat → Nat) (a0_after : Nat) (h1 : Nat → Nat) (h2 : Nat → Nat) (h3 : Nat → Nat) (h4 : Nat → Nat) (n : Nat) (x0_gained : (Nat → Int32)) (x1_left : (Nat → Int32)) (x1_earned : (Nat → Int32)) (x1_turnCost : Int32) (x1_turnWayless : Int32) (x2_edgeA : (Nat → Int32)) (x2_edgeB : (Nat → Int32)) (x2_edgeCost : (Nat → Int32)) (x2_edgeLine : (Nat → Int32)) (x2_change : (Nat → Int32)) (x2_away : (Nat → Int32)) (x2_steps : (Nat → Int32)) (x2_nodes : (Nat → Int32)) (x2_stepCount : Int32) (x2_open : (Nat → Int32)) (x2_openCount : Int32) (x2_seen : Int64) (x2_edgeCount : Int32) (x2_aim : Int32) (x3_lineCount : Int32) (x3_goodsCount : Int32) (x3_workCount : Int32) (x3_years : Int32) (x3_lines : (Nat → Int32)) (x3_goods : (Nat → Int32)) (x3_works : (Nat → Int32)) (x3_change : (Nat → Int32)) (x3_coin : (Nat → Int32)) (x3_knownFree : (Nat → Int32)) (x3_isKnown : Int32) (x4_lineCount : Int32) (x4_goodsCount : Int32) (x4_workCount : Int32) (x4_years : Int32) (x4_lines : (Nat → Int32)) (x4_goods : (Nat → Int32)) (x4_works : (Nat → Int32)) (x4_change : (Nat → Int32)) (x4_coin : (Nat → Int32)) (x4_knownFree : (Nat → Int32)) (x4_isKnown : Int32)  {out : Int32 × ((Nat → Int32) × (Nat → Int32) × (Nat → Int32) × (Nat → Int32) × (Nat → Int32) × (Nat → Int32) × Int32 × Int32) × (Int32 × Int32 × Int32 × Int32 × (Nat → Int32) × (Nat → Int32) × (Nat → Int32) × (Nat → Int32) × (Nat → Int32) × Int32) × (Int32 × (Nat → Int32) × (Nat → Int32) × (Nat → Int32) × Int32)} (hf : fX0_firstOf n x0_gained (x1_left, x1_earned, x1_turnCost, x1_turnWayless) (x2_edgeA, x2_edgeB, x2_edgeCost, x2_edgeLine, x2_change, x2_away, x2_steps, x2_nodes, x2_stepCount, x2_open, x2_openCount, x2_seen, x2_edgeCount, x2_aim) (x3_lineCount, x3_goodsCount, x3_workCount, x3_years, x3_lines, x3_goods, x3_works, x3_change, x3_coin, x3_knownFree, x3_isKnown) (x4_lineCount, x4_goodsCount, x4_workCount, x4_years, x4_lines, x4_goods, x4_works, x4_change, x4_coin, x4_knownFree, x4_isKnown) = some out) : Ct l d yX0_firstOf cX0_firstOf 6 (some .int) { frames := 5, cells := 0, slots := 0, locals := 126 } [.ref (h0 0), .ref (h4 0)] [gCh d h0 (h1 0) a0_after (h3 0) x0_gained, gTr d h1 (h2 0) x1_left x1_earned x1_turnCost x1_turnWayless, gWy d h2 x2_edgeA x2_edgeB x2_edgeCost x2_edgeLine x2_change x2_away x2_steps x2_nodes x2_stepCount x2_open x2_openCount x2_seen x2_edgeCount x2_aim, gLd d h3 x3_lineCount x3_goodsCount x3_workCount x3_years x3_lines x3_goods x3_works x3_change x3_coin x3_knownFree x3_isKnown, gLd d h4 x4_lineCount x4_goodsCount x4_workCount x4_years x4_lines x4_goods x4_works x4_change x4_coin x4_knownFree x4_isKnown] (fun _ : Unit => (some (.int out.1), [gCh d h0 (h1 0) a0_after (h3 0) x0_gained, gTr d h1 (h2 0) x1_left x1_earned x1_turnCost x1_turnWayless, gWy d h2 (out.2.1.1) (out.2.1.2.1) (out.2.1.2.2.1) (out.2.1.2.2.2.1) (out.2.1.2.2.2.2.1) (out.2.1.2.2.2.2.2.1) x2_steps x2_nodes x2_stepCount x2_open x2_openCount x2_seen (out.2.1.2.2.2.2.2.2.1) (out.2.1.2.2.2.2.2.2.2), gLd d h3 (out.2.2.1.1) (out.2.2.1.2.1) (out.2.2.1.2.2.1) (out.2.2.1.2.2.2.1) (out.2.2.1.2.2.2.2.1) (out.2.2.1.2.2.2.2.2.1) (out.2.2.1.2.2.2.2.2.2.1) (out.2.2.1.2.2.2.2.2.2.2.1) (out.2.2.1.2.2.2.2.2.2.2.2.1) x3_knownFree (out.2.2.1.2.2.2.2.2.2.2.2.2), gLd d h4 (out.2.2.2.1) x4_goodsCount x4_workCount x4_years (out.2.2.2.2.1) x4_goods x4_works (out.2.2.2.2.2.1) x4_coin (out.2.2.2.2.2.2.1) (out.2.2.2.2.2.2.2)])) := by
  refine Ct.of (by decide) (Nat.le_of_ble_eq_true rfl) ?_
  intro Φ hl hK hR
  subst hl
  have hK : Ok d Φ RX0 "firstOf" cX0_firstOf 6 (some .int) { frames := 5, cells := 0, slots := 0, locals := 126 } := hK
  unfold fX0_firstOf at hf
  have hf := un4 hf
  have hf := un14 hf
  have hf := un11 hf
  have hf := un11 hf
  show J d Φ 6 [gCh d h0 (h1 0) a0_after (h3 0) x0_gained, gTr d h1 (h2 0) x1_left x1_earned x1_turnCost x1_turnWayless, gWy d h2 x2_edgeA x2_edgeB x2_edgeCost x2_edgeLine x2_change x2_away x2_steps x2_nodes x2_stepCount x2_open x2_openCount x2_seen x2_edgeCount x2_aim, gLd d h3 x3_lineCount x3_goodsCount x3_workCount x3_years x3_lines x3_goods x3_works x3_change x3_coin x3_knownFree x3_isKnown, gLd d h4 x4_lineCount x4_goodsCount x4_workCount x4_years x4_lines x4_goods x4_works x4_change x4_coin x4_knownFree x4_isKnown] 0 0 0 [(0, .ref (h0 0)), (1, .ref (h4 0))] []
  refine J_iconst (v := (-1)) hK dX0_firstOf_0 rfl (by decide) ?_
  refine J_istore_n (L' := [(2, .int (-1)), (0, .ref (h0 0)), (1, .ref (h4 0))]) hK dX0_firstOf_1 rfl rfl (by decide) rfl ?_
  refine J_iconst (v := 0) hK dX0_firstOf_2 rfl (by decide) ?_
  refine J_istore_n (L' := [(3, .int (0)), (2, .int (-1)), (0, .ref (h0 0)), (1, .ref (h4 0))]) hK dX0_firstOf_3 rfl rfl (by decide) rfl ?_
  refine J_iconst (v := 0) hK dX0_firstOf_4 rfl (by decide) ?_
  refine J_istore (L' := [(4, .int (0)), (3, .int (0)), (2, .int (-1)), (0, .ref (h0 0)), (1, .ref (h4 0))]) hK dX0_firstOf_5 rfl (by decide) rfl ?_
  obtain ⟨e28, hl1, hf⟩ := bs hf
  have hx1_56 : ∀ (w29 : Int32) (w30 : (Nat → Int32)) (w31 : (Nat → Int32)) (w32 : (Nat → Int32)) (w33 : (Nat → Int32)) (w34 : (Nat → Int32)) (w35 : (Nat → Int32)) (w36 : Int32) (w37 : Int32) (w38 : Int32) (w39 : Int32) (w40 : Int32) (w41 : Int32) (w42 : (Nat → Int32)) (w43 : (Nat → Int32)) (w44 : (Nat → Int32)) (w45 : (Nat → Int32)) (w46 : (Nat → Int32)) (w47 : Int32) (w48 : Int32) (w49 : (Nat → Int32)) (w50 : (Nat → Int32)) (w51 : (Nat → Int32)) (w52 : Int32), (w29, w30, w31, w32, w33, w34, w35, w36, w37, w38, w39, w40, w41, w42, w43, w44, w45, w46, w47, w48, w49, w50, w51, w52) = e28 → J d Φ 6 [gCh d h0 (h1 0) a0_after (h3 0) x0_gained, gTr d h1 (h2 0) x1_left x1_earned x1_turnCost x1_turnWayless, gWy d h2 w30 w31 w32 w33 w34 w35 x2_steps x2_nodes x2_stepCount x2_open x2_openCount x2_seen w36 w37, gLd d h3 w38 w39 w40 w41 w42 w43 w44 w45 w46 x3_knownFree w47, gLd d h4 w48 x4_goodsCount x4_workCount x4_years w49 x4_goods x4_works w50 x4_coin w51 w52] 0 0 56 [(2, .int w29)] [] := by
    intro w29 w30 w31 w32 w33 w34 w35 w36 w37 w38 w39 w40 w41 w42 w43 w44 w45 w46 w47 w48 w49 w50 w51 w52 he
    rw [← he] at hf
    have hf := un24 hf
    refine J_iload_n hK dX0_firstOf_56 rfl 0 rfl rfl ?_
    obtain rfl := Option.some.inj hf
    exact J_iret hK hR dX0_firstOf_57 () rfl (by decide) (by decide)
  have lo1 : ∀ (k : Nat) (z2 : Int32) (z3 : Int32) (z4 : Int32) (z5 : (Nat → Int32)) (z6 : (Nat → Int32)) (z7 : (Nat → Int32)) (z8 : (Nat → Int32)) (z9 : (Nat → Int32)) (z10 : (Nat → Int32)) (z11 : Int32) (z12 : Int32) (z13 : Int32) (z14 : Int32) (z15 : Int32) (z16 : Int32) (z17 : (Nat → Int32)) (z18 : (Nat → Int32)) (z19 : (Nat → Int32)) (z20 : (Nat → Int32)) (z21 : (Nat → Int32)) (z22 : Int32) (z23 : Int32) (z24 : (Nat → Int32)) (z25 : (Nat → Int32)) (z26 : (Nat → Int32)) (z27 : Int32), lp (u26 (fX0_firstOf_s7 n x0_gained x1_left x1_earned x1_turnCost x1_turnWayless x2_steps x2_nodes x2_stepCount x2_open x2_openCount x2_seen x3_knownFree x4_goodsCount x4_workCount x4_years x4_goods x4_works x4_coin)) k (z2, z3, z4, z5, z6, z7, z8, z9, z10, z11, z12, z13, z14, z15, z16, z17, z18, z19, z20, z21, z22, z23, z24, z25, z26, z27) = some e28 → J d Φ 6 [gCh d h0 (h1 0) a0_after (h3 0) x0_gained, gTr d h1 (h2 0) x1_left x1_earned x1_turnCost x1_turnWayless, gWy d h2 z5 z6 z7 z8 z9 z10 x2_steps x2_nodes x2_stepCount x2_open x2_openCount x2_seen z11 z12, gLd d h3 z13 z14 z15 z16 z17 z18 z19 z20 z21 x3_knownFree z22, gLd d h4 z23 x4_goodsCount x4_workCount x4_years z24 x4_goods x4_works z25 x4_coin z26 z27] 0 0 7 [(0, .ref (h0 0)), (1, .ref (h4 0)), (2, .int z2), (3, .int z3), (4, .int z4)] [] := by
    intro k
    induction k with
    | zero => intro z2 z3 z4 z5 z6 z7 z8 z9 z10 z11 z12 z13 z14 z15 z16 z17 z18 z19 z20 z21 z22 z23 z24 z25 z26 z27 h; cases h
    | succ k ih1 =>
      intro z2 z3 z4 z5 z6 z7 z8 z9 z10 z11 z12 z13 z14 z15 z16 z17 z18 z19 z20 z21 z22 z23 z24 z25 z26 z27 h
      obtain ⟨k2, rr1, hk2, hs1, hr1⟩ := lp_ok h
      cases hk2
      have hs1 : fX0_firstOf_s7 n x0_gained x1_left x1_earned x1_turnCost x1_turnWayless x2_steps x2_nodes x2_stepCount x2_open x2_openCount x2_seen x3_knownFree x4_goodsCount x4_workCount x4_years x4_goods x4_works x4_coin z2 z3 z4 z5 z6 z7 z8 z9 z10 z11 z12 z13 z14 z15 z16 z17 z18 z19 z20 z21 z22 z23 z24 z25 z26 z27 = some rr1 := hs1
      unfold fX0_firstOf_s7 at hs1
      refine J_iload hK dX0_firstOf_7 rfl 4 rfl ?_
      refine J_aload_n hK dX0_firstOf_9 rfl 1 rfl rfl ?_
      refine J_get hK fo_RX0_44 dX0_firstOf_10 rfl 4 0 rfl rfl rfl ?_
      refine J_icmp_ge (tg := 56) hK dX0_firstOf_13 rfl rfl (fun hc13 => ?_) (fun hc13 => ?_)
      · have hs1 := ip hc13 hs1
        exact J_loc [2] rfl (hx1_56 z2 z5 z6 z7 z8 z9 z10 z11 z12 z13 z14 z15 z16 z17 z18 z19 z20 z21 z22 z23 z24 z25 z26 z27 (lpx hs1 hr1))
      · have hs1 := iq hc13 hs1
        refine J_aload_n hK dX0_firstOf_16 rfl 1 rfl rfl ?_
        refine J_iload hK dX0_firstOf_17 rfl 4 rfl ?_
        obtain ⟨v53, e54, hs1⟩ := bs hs1
        refine J_callV (m' := 5) (ce' := 0) (sl' := 0) (gr := [gCh d h0 (h1 0) a0_after (h3 0) x0_gained, gTr d h1 (h2 0) x1_left x1_earned x1_turnCost x1_turnWayless, gWy d h2 z5 z6 z7 z8 z9 z10 x2_steps x2_nodes x2_stepCount x2_open x2_openCount x2_seen z11 z12, gLd d h3 z13 z14 z15 z16 z17 z18 z19 z20 z21 x3_knownFree z22]) (gs' := fun _ => [gCh d h0 (h1 0) a0_after (h3 0) x0_gained, gTr d h1 (h2 0) x1_left x1_earned x1_turnCost x1_turnWayless, gWy d h2 z5 z6 z7 z8 z9 z10 x2_steps x2_nodes x2_stepCount x2_open x2_openCount x2_seen z11 z12, gLd d h3 z13 z14 z15 z16 z17 z18 z19 z20 z21 x3_knownFree z22, gLd d h4 z23 x4_goodsCount x4_workCount x4_years z24 x4_goods x4_works z25 x4_coin z26 z27]) (st' := fun _ => [.int v53]) (st := []) hK dX0_firstOf_19 cv_RX0_69 iv_yX1_isDone (As := [.int z4]) (kX1_isDone _ d h4 z23 x4_goodsCount x4_workCount x4_years z24 x4_goods x4_works z25 x4_coin z26 z27 z4 e54) rfl rfl (Nat.le_of_ble_eq_true rfl) (by decide) 4 0 rfl rfl rfl [4] [0, 1, 2, 3] rfl rfl rfl rfl [0, 1, 2, 3, 4] rfl (fun _ => rfl) (fun _ => rfl) rfl rfl rfl (fun _ => rfl) (fun _ => ?_)
        refine J_if_ne (tg := 50) hK dX0_firstOf_22 rfl rfl (fun hc22 => ?_) (fun hc22 => ?_)
        · have hs1 := iq hc22 hs1
          refine J_iinc (L' := [(4, .int (z4 + 1)), (0, .ref (h0 0)), (1, .ref (h4 0)), (2, .int z2), (3, .int z3)]) (v := (z4 + 1)) hK dX0_firstOf_50 rfl 4 rfl rfl (by decide) rfl ?_
          refine J_goto hK dX0_firstOf_53 (n := 7) rfl ?_
          exact J_loc [1, 2, 3, 4, 0] rfl (ih1 z2 z3 (z4 + 1) z5 z6 z7 z8 z9 z10 z11 z12 z13 z14 z15 z16 z17 z18 z19 z20 z21 z22 z23 z24 z25 z26 z27 (lpc hs1 hr1))
        · have hs1 := ip hc22 hs1
          refine J_aload_n hK dX0_firstOf_25 rfl 0 rfl rfl ?_
          refine J_aload_n hK dX0_firstOf_26 rfl 1 rfl rfl ?_
          refine J_iload hK dX0_firstOf_27 rfl 4 rfl ?_
          refine J_aload_n hK dX0_firstOf_29 rfl 1 rfl rfl ?_
          refine J_get hK fo_RX0_63 dX0_firstOf_30 rfl 4 0 rfl rfl rfl ?_
          obtain ⟨⟨v55, ⟨g57, g58, g59, g60, g61, g62, g63, g64⟩, ⟨g66, g67, g68, g69, g70, g71, g72, g73, g74, g75⟩, ⟨g77, g78, g79, g80, g81⟩⟩, e82, hs1⟩ := bs hs1
          have hs1 := un4 hs1
          have hs1 := un8 hs1
          have hs1 := un10 hs1
          have hs1 := un5 hs1
          refine J_callV (m' := 5) (ce' := 0) (sl' := 0) (gr := []) (gs' := fun _ => [gCh d h0 (h1 0) a0_after (h3 0) x0_gained, gTr d h1 (h2 0) x1_left x1_earned x1_turnCost x1_turnWayless, gWy d h2 g57 g58 g59 g60 g61 g62 x2_steps x2_nodes x2_stepCount x2_open x2_openCount x2_seen g63 g64, gLd d h3 g66 g67 g68 g69 g70 g71 g72 g73 g74 x3_knownFree g75, gLd d h4 g77 x4_goodsCount x4_workCount x4_years g78 x4_goods x4_works g79 x4_coin g80 g81]) (st' := fun _ => [.int v55]) (st := []) hK dX0_firstOf_33 cv_RX0_80 iv_yX0_worthIn (As := [.ref (h4 0), .int z4, .int x4_years]) (kX0_worthIn _ d h0 a0_after h1 h2 h3 h4 n x0_gained x1_left x1_earned x1_turnCost x1_turnWayless z5 z6 z7 z8 z9 z10 x2_steps x2_nodes x2_stepCount x2_open x2_openCount x2_seen z11 z12 z13 z14 z15 z16 z17 z18 z19 z20 z21 x3_knownFree z22 z23 x4_goodsCount x4_workCount x4_years z24 x4_goods x4_works z25 x4_coin z26 z27 z4 x4_years e82) rfl rfl (Nat.le_of_ble_eq_true rfl) (by decide) 0 0 rfl rfl rfl [0, 1, 2, 3, 4] [] rfl rfl rfl rfl [0, 1, 2, 3, 4] rfl (fun _ => rfl) (fun _ => rfl) rfl rfl rfl (fun _ => rfl) (fun _ => ?_)
          refine J_istore (L' := [(5, .int v55), (0, .ref (h0 0)), (1, .ref (h4 0)), (2, .int z2), (3, .int z3), (4, .int z4)]) hK dX0_firstOf_36 rfl (by decide) rfl ?_
          refine J_iload hK dX0_firstOf_38 rfl 0 rfl ?_
          refine J_iload_n hK dX0_firstOf_40 rfl 4 rfl rfl ?_
          refine J_icmp_le (tg := 50) hK dX0_firstOf_41 rfl rfl (fun hc41 => ?_) (fun hc41 => ?_)
          · have hs1 := ip hc41 hs1
            refine J_iinc (L' := [(4, .int (z4 + 1)), (5, .int v55), (0, .ref (h0 0)), (1, .ref (h4 0)), (2, .int z2), (3, .int z3)]) (v := (z4 + 1)) hK dX0_firstOf_50 rfl 5 rfl rfl (by decide) rfl ?_
            refine J_goto hK dX0_firstOf_53 (n := 7) rfl ?_
            exact J_loc [2, 3, 4, 5, 0] rfl (ih1 z2 z3 (z4 + 1) g57 g58 g59 g60 g61 g62 g63 g64 g66 g67 g68 g69 g70 g71 g72 g73 g74 g75 g77 g78 g79 g80 g81 (lpc hs1 hr1))
          · have hs1 := iq hc41 hs1
            refine J_iload hK dX0_firstOf_44 rfl 0 rfl ?_
            refine J_istore_n (L' := [(3, .int v55), (5, .int v55), (0, .ref (h0 0)), (1, .ref (h4 0)), (2, .int z2), (4, .int z4)]) hK dX0_firstOf_46 rfl rfl (by decide) rfl ?_
            refine J_iload hK dX0_firstOf_47 rfl 5 rfl ?_
            refine J_istore_n (L' := [(2, .int z4), (3, .int v55), (5, .int v55), (0, .ref (h0 0)), (1, .ref (h4 0)), (4, .int z4)]) hK dX0_firstOf_49 rfl rfl (by decide) rfl ?_
            refine J_iinc (L' := [(4, .int (z4 + 1)), (2, .int z4), (3, .int v55), (5, .int v55), (0, .ref (h0 0)), (1, .ref (h4 0))]) (v := (z4 + 1)) hK dX0_firstOf_50 rfl 5 rfl rfl (by decide) rfl ?_
            refine J_goto hK dX0_firstOf_53 (n := 7) rfl ?_
            exact J_loc [4, 5, 1, 2, 0] rfl (ih1 z4 v55 (z4 + 1) g57 g58 g59 g60 g61 g62 g63 g64 g66 g67 g68 g69 g70 g71 g72 g73 g74 g75 g77 g78 g79 g80 g81 (lpc hs1 hr1))
  exact J_loc [3, 4, 2, 1, 0] rfl (lo1 n (-1) (0) (0) x2_edgeA x2_edgeB x2_edgeCost x2_edgeLine x2_change x2_away x2_edgeCount x2_aim x3_lineCount x3_goodsCount x3_workCount x3_years x3_lines x3_goods x3_works x3_change x3_coin x3_isKnown x4_lineCount x4_lines x4_change x4_knownFree x4_isKnown hl1)

def fX1_performForGood (X0 : LdT) (p1 : Int32) : Option ((Int32 × (Nat → Int32) × (Nat → Int32) × (Nat → Int32) × Int32)) :=
  u11 (fun (x0_lineCount : Int32) (x0_goodsCount : Int32) (x0_workCount : Int32) (x0_years : Int32) (x0_lines : (Nat → Int32)) (x0_goods : (Nat → Int32)) (x0_works : (Nat → Int32)) (x0_change : (Nat → Int32)) (x0_coin : (Nat → Int32)) (x0_knownFree : (Nat → Int32)) (x0_isKnown : Int32) => (fX1_hasWork (x0_lineCount, x0_goodsCount, x0_workCount, x0_years, x0_lines, x0_goods, x0_works, x0_change, x0_coin, x0_knownFree, x0_isKnown) p1).bind (fun v1 => if v1 = 0 then (some (x0_lineCount, x0_lines, x0_works, x0_change, x0_isKnown)) else ((fX1_perform (x0_lineCount, x0_goodsCount, x0_workCount, x0_years, x0_lines, x0_goods, x0_works, x0_change, x0_coin, x0_knownFree, x0_isKnown) p1).bind (u4 fun g3 g4 g5 g6 => (wr 35 x0_works ((p1 * 5) + 4) (1)).bind fun f8 => some (g3, g4, f8, g5, 0))))) X0
set_option maxHeartbeats 4000000 in
set_option maxRecDepth 100000 in
theorem kX1_performForGood (l : Launch) (d : DT) (h0 : Nat → Nat) (x0_lineCount : Int32) (x0_goodsCount : Int32) (x0_workCount : Int32) (x0_years : Int32) (x0_lines : (Nat → Int32)) (x0_goods : (Nat → Int32)) (x0_works : (Nat → Int32)) (x0_change : (Nat → Int32)) (x0_coin : (Nat → Int32)) (x0_knownFree : (Nat → Int32)) (x0_isKnown : Int32) (p1 : Int32)  {out : (Int32 × (Nat → Int32) × (Nat → Int32) × (Nat → Int32) × Int32)} (hf : fX1_performForGood (x0_lineCount, x0_goodsCount, x0_workCount, x0_years, x0_lines, x0_goods, x0_works, x0_change, x0_coin, x0_knownFree, x0_isKnown) p1 = some out) : Ct l d yX1_performForGood cX1_performForGood 2 none { frames := 3, cells := 0, slots := 0, locals := 66 } [.ref (h0 0), .int p1] [gLd d h0 x0_lineCount x0_goodsCount x0_workCount x0_years x0_lines x0_goods x0_works x0_change x0_coin x0_knownFree x0_isKnown] (fun _ : Unit => (none, [gLd d h0 (out.1) x0_goodsCount x0_workCount x0_years (out.2.1) x0_goods (out.2.2.1) (out.2.2.2.1) x0_coin x0_knownFree (out.2.2.2.2)])) := by
  refine Ct.of (by decide) (Nat.le_of_ble_eq_true rfl) ?_
  intro Φ hl hK hR
  subst hl
  have hK : Ok d Φ RX1 "performForGood" cX1_performForGood 2 none { frames := 3, cells := 0, slots := 0, locals := 66 } := hK
  unfold fX1_performForGood at hf
  have hf := un11 hf
  show J d Φ 2 [gLd d h0 x0_lineCount x0_goodsCount x0_workCount x0_years x0_lines x0_goods x0_works x0_change x0_coin x0_knownFree x0_isKnown] 0 0 0 [(0, .ref (h0 0)), (1, .int p1)] []
  refine J_aload_n hK dX1_performForGood_0 rfl 0 rfl rfl ?_
  refine J_iload_n hK dX1_performForGood_1 rfl 1 rfl rfl ?_
  obtain ⟨v1, e2, hf⟩ := bs hf
  refine J_callV (m' := 1) (ce' := 0) (sl' := 0) (gr := []) (gs' := fun _ => [gLd d h0 x0_lineCount x0_goodsCount x0_workCount x0_years x0_lines x0_goods x0_works x0_change x0_coin x0_knownFree x0_isKnown]) (st' := fun _ => [.int v1]) (st := []) hK dX1_performForGood_2 cv_RX1_85 iv_yX1_hasWork (As := [.int p1]) (kX1_hasWork _ d h0 x0_lineCount x0_goodsCount x0_workCount x0_years x0_lines x0_goods x0_works x0_change x0_coin x0_knownFree x0_isKnown p1 e2) rfl rfl (Nat.le_of_ble_eq_true rfl) (by decide) 0 0 rfl rfl rfl [0] [] rfl rfl rfl rfl [0] rfl (fun _ => rfl) (fun _ => rfl) rfl rfl rfl (fun _ => rfl) (fun _ => ?_)
  refine J_if_eq (tg := 29) hK dX1_performForGood_5 rfl rfl (fun hc5 => ?_) (fun hc5 => ?_)
  · have hf := ip hc5 hf
    obtain rfl := Option.some.inj hf
    exact J_vret hK hR dX1_performForGood_29 () rfl (by decide) (by decide)
  · have hf := iq hc5 hf
    refine J_aload_n hK dX1_performForGood_8 rfl 0 rfl rfl ?_
    refine J_iload_n hK dX1_performForGood_9 rfl 1 rfl rfl ?_
    obtain ⟨⟨g3, g4, g5, g6⟩, e7, hf⟩ := bs hf
    have hf := un4 hf
    refine J_callV (m' := 1) (ce' := 0) (sl' := 0) (gr := []) (gs' := fun _ => [gLd d h0 g3 x0_goodsCount x0_workCount x0_years g4 x0_goods x0_works g5 x0_coin x0_knownFree g6]) (st' := fun _ => []) (st := []) hK dX1_performForGood_10 cv_RX1_102 iv_yX1_perform (As := [.int p1]) (kX1_perform _ d h0 x0_lineCount x0_goodsCount x0_workCount x0_years x0_lines x0_goods x0_works x0_change x0_coin x0_knownFree x0_isKnown p1 e7) rfl rfl (Nat.le_of_ble_eq_true rfl) (by decide) 0 0 rfl rfl rfl [0] [] rfl rfl rfl rfl [0] rfl (fun _ => rfl) (fun _ => rfl) rfl rfl rfl (fun _ => rfl) (fun _ => ?_)
    refine J_aload_n hK dX1_performForGood_13 rfl 0 rfl rfl ?_
    refine J_get hK fo_RX1_18 dX1_performForGood_14 rfl 0 0 rfl rfl rfl ?_
    refine J_iload_n hK dX1_performForGood_17 rfl 1 rfl rfl ?_
    refine J_iconst (v := 5) hK dX1_performForGood_18 rfl (by decide) ?_
    refine J_imul hK dX1_performForGood_19 rfl ?_
    refine J_iconst (v := 4) hK dX1_performForGood_20 rfl (by decide) ?_
    refine J_iadd hK dX1_performForGood_21 rfl ?_
    refine J_iconst (v := 1) hK dX1_performForGood_22 rfl (by decide) ?_
    obtain ⟨f8, ef8, hf⟩ := bs hf
    refine J_iast (g' := gLd d h0 g3 x0_goodsCount x0_workCount x0_years g4 x0_goods f8 g5 x0_coin x0_knownFree g6) (gs' := [gLd d h0 g3 x0_goodsCount x0_workCount x0_years g4 x0_goods f8 g5 x0_coin x0_knownFree g6]) hK dX1_performForGood_23 rfl 0 3 rfl rfl ef8 rfl rfl ?_
    refine J_aload_n hK dX1_performForGood_24 rfl 0 rfl rfl ?_
    refine J_iconst (v := 0) hK dX1_performForGood_25 rfl (by decide) ?_
    refine J_put (g' := gLd d h0 g3 x0_goodsCount x0_workCount x0_years g4 x0_goods f8 g5 x0_coin x0_knownFree (0)) (gs' := [gLd d h0 g3 x0_goodsCount x0_workCount x0_years g4 x0_goods f8 g5 x0_coin x0_knownFree (0)]) hK fp_RX1_43 dX1_performForGood_26 rfl 0 0 rfl rfl rfl rfl (Nat.le_of_ble_eq_true rfl) rfl rfl ?_
    obtain rfl := Option.some.inj hf
    exact J_vret hK hR dX1_performForGood_29 () rfl (by decide) (by decide)

def fX0_greedyOf_s22 (n : Nat) (x0_gained : (Nat → Int32)) (x2_left : (Nat → Int32)) (x2_earned : (Nat → Int32)) (x2_turnCost : Int32) (x2_turnWayless : Int32) (x3_steps : (Nat → Int32)) (x3_nodes : (Nat → Int32)) (x3_stepCount : Int32) (x3_open : (Nat → Int32)) (x3_openCount : Int32) (x3_seen : Int64) (x4_knownFree : (Nat → Int32)) (g3 : Int32) (g4 : Int32) (g5 : Int32) (g7 : (Nat → Int32)) (g10 : (Nat → Int32)) (z42 : Int32) (z43 : Int32) (z44 : Int32) (z45 : Int32) (z46 : (Nat → Int32)) (z47 : (Nat → Int32)) (z48 : (Nat → Int32)) (z49 : (Nat → Int32)) (z50 : Int32) (z51 : (Nat → Int32)) (z52 : (Nat → Int32)) (z53 : (Nat → Int32)) (z54 : (Nat → Int32)) (z55 : (Nat → Int32)) (z56 : (Nat → Int32)) (z57 : Int32) (z58 : Int32) (z59 : Int32) (z60 : Int32) (z61 : Int32) (z62 : Int32) (z63 : (Nat → Int32)) (z64 : (Nat → Int32)) (z65 : (Nat → Int32)) (z66 : (Nat → Int32)) (z67 : (Nat → Int32)) (z68 : Int32) : Option ((Int32 × Int32 × Int32 × Int32 × (Nat → Int32) × (Nat → Int32) × (Nat → Int32) × (Nat → Int32) × Int32 × (Nat → Int32) × (Nat → Int32) × (Nat → Int32) × (Nat → Int32) × (Nat → Int32) × (Nat → Int32) × Int32 × Int32 × Int32 × Int32 × Int32 × Int32 × (Nat → Int32) × (Nat → Int32) × (Nat → Int32) × (Nat → Int32) × (Nat → Int32) × Int32) ⊕ (Int32 × Int32 × (Nat → Int32) × (Nat → Int32) × (Nat → Int32) × (Nat → Int32) × Int32 × (Nat → Int32) × (Nat → Int32) × (Nat → Int32) × (Nat → Int32) × (Nat → Int32) × (Nat → Int32) × Int32 × Int32 × Int32 × Int32 × Int32 × Int32 × (Nat → Int32) × (Nat → Int32) × (Nat → Int32) × (Nat → Int32) × (Nat → Int32) × Int32)) :=
  if 7 ≤ z44 then (some (.inr (z42, z45, z46, z47, z48, z49, z50, z51, z52, z53, z54, z55, z56, z57, z58, z59, z60, z61, z62, z63, z64, z65, z66, z67, z68))) else (if z43 = (-1) then (some (.inr (z42, z45, z46, z47, z48, z49, z50, z51, z52, z53, z54, z55, z56, z57, z58, z59, z60, z61, z62, z63, z64, z65, z66, z67, z68))) else ((some (z42 ||| ((1 : Int32) <<< (z43 &&& 31)))).bind fun t95 => (fX1_performForGood (z45, g3, g4, g5, z46, g7, z47, z48, g10, z49, z50) z43).bind (fun G96 => u5 (fun g97 g98 g99 g100 g101 => (fX0_firstOf n x0_gained (x2_left, x2_earned, x2_turnCost, x2_turnWayless) (z51, z52, z53, z54, z55, z56, x3_steps, x3_nodes, x3_stepCount, x3_open, x3_openCount, x3_seen, z57, z58) (z59, z60, z61, z62, z63, z64, z65, z66, z67, x4_knownFree, z68) (g97, g3, g4, g5, g98, g7, g99, g100, g10, z49, g101)).bind (u4 fun v103 G104 G113 G124 => u8 (fun g105 g106 g107 g108 g109 g110 g111 g112 => u10 (fun g114 g115 g116 g117 g118 g119 g120 g121 g122 g123 => u5 (fun g125 g126 g127 g128 g129 => some (.inl (t95, v103, (z44 + 1), g125, g126, g99, g127, g128, g129, g105, g106, g107, g108, g109, g110, g111, g112, g114, g115, g116, g117, g118, g119, g120, g121, g122, g123))) G124) G113) G104)) G96)))
def fX0_greedyOf (n : Nat) (X0 : ChT) (X1 : LdT) (X2 : TrT) (X3 : WyT) (X4 : LdT) (X5 : LdT) : Option (Int32 × (Int32 × Int32 × Int32 × Int32 × (Nat → Int32) × (Nat → Int32) × (Nat → Int32) × (Nat → Int32) × (Nat → Int32) × (Nat → Int32) × Int32) × ((Nat → Int32) × (Nat → Int32) × (Nat → Int32) × (Nat → Int32) × (Nat → Int32) × (Nat → Int32) × Int32 × Int32) × (Int32 × Int32 × Int32 × Int32 × (Nat → Int32) × (Nat → Int32) × (Nat → Int32) × (Nat → Int32) × (Nat → Int32) × Int32)) :=
  (fun (x0_gained : (Nat → Int32)) => u11 (fun (x1_lineCount : Int32) (x1_goodsCount : Int32) (x1_workCount : Int32) (x1_years : Int32) (x1_lines : (Nat → Int32)) (x1_goods : (Nat → Int32)) (x1_works : (Nat → Int32)) (x1_change : (Nat → Int32)) (x1_coin : (Nat → Int32)) (x1_knownFree : (Nat → Int32)) (x1_isKnown : Int32) => u4 (fun (x2_left : (Nat → Int32)) (x2_earned : (Nat → Int32)) (x2_turnCost : Int32) (x2_turnWayless : Int32) => u14 (fun (x3_edgeA : (Nat → Int32)) (x3_edgeB : (Nat → Int32)) (x3_edgeCost : (Nat → Int32)) (x3_edgeLine : (Nat → Int32)) (x3_change : (Nat → Int32)) (x3_away : (Nat → Int32)) (x3_steps : (Nat → Int32)) (x3_nodes : (Nat → Int32)) (x3_stepCount : Int32) (x3_open : (Nat → Int32)) (x3_openCount : Int32) (x3_seen : Int64) (x3_edgeCount : Int32) (x3_aim : Int32) => u11 (fun (x4_lineCount : Int32) (x4_goodsCount : Int32) (x4_workCount : Int32) (x4_years : Int32) (x4_lines : (Nat → Int32)) (x4_goods : (Nat → Int32)) (x4_works : (Nat → Int32)) (x4_change : (Nat → Int32)) (x4_coin : (Nat → Int32)) (x4_knownFree : (Nat → Int32)) (x4_isKnown : Int32) => u11 (fun (x5_lineCount : Int32) (x5_goodsCount : Int32) (x5_workCount : Int32) (x5_years : Int32) (x5_lines : (Nat → Int32)) (x5_goods : (Nat → Int32)) (x5_works : (Nat → Int32)) (x5_change : (Nat → Int32)) (x5_coin : (Nat → Int32)) (x5_knownFree : (Nat → Int32)) (x5_isKnown : Int32) => (fX1_take (x1_lineCount, x1_goodsCount, x1_workCount, x1_years, x1_lines, x1_goods, x1_works, x1_change, x1_coin, x1_knownFree, x1_isKnown) (x5_lineCount, x5_goodsCount, x5_workCount, x5_years, x5_lines, x5_goods, x5_works, x5_change, x5_coin, x5_knownFree, x5_isKnown)).bind (fun G1 => u10 (fun g2 g3 g4 g5 g6 g7 g8 g9 g10 g11 => (fX0_firstOf n x0_gained (x2_left, x2_earned, x2_turnCost, x2_turnWayless) (x3_edgeA, x3_edgeB, x3_edgeCost, x3_edgeLine, x3_change, x3_away, x3_steps, x3_nodes, x3_stepCount, x3_open, x3_openCount, x3_seen, x3_edgeCount, x3_aim) (x4_lineCount, x4_goodsCount, x4_workCount, x4_years, x4_lines, x4_goods, x4_works, x4_change, x4_coin, x4_knownFree, x4_isKnown) (g2, g3, g4, g5, g6, g7, g8, g9, g10, x1_knownFree, g11)).bind (u4 fun v13 G14 G23 G34 => u8 (fun g15 g16 g17 g18 g19 g20 g21 g22 => u10 (fun g24 g25 g26 g27 g28 g29 g30 g31 g32 g33 => u5 (fun g35 g36 g37 g38 g39 => (lp (u27 (fX0_greedyOf_s22 n x0_gained x2_left x2_earned x2_turnCost x2_turnWayless x3_steps x3_nodes x3_stepCount x3_open x3_openCount x3_seen x4_knownFree g3 g4 g5 g7 g10)) n (0, v13, 0, g35, g36, g8, g37, g38, g39, g15, g16, g17, g18, g19, g20, g21, g22, g24, g25, g26, g27, g28, g29, g30, g31, g32, g33)).bind (u25 fun w70 w71 w72 w73 w74 w75 w76 w77 w78 w79 w80 w81 w82 w83 w84 w85 w86 w87 w88 w89 w90 w91 w92 w93 w94 => some (w70, (w71, g3, g4, g5, w72, g7, w73, w74, g10, w75, w76), (w77, w78, w79, w80, w81, w82, w83, w84), (w85, w86, w87, w88, w89, w90, w91, w92, w93, w94)))) G34) G23) G14)) G1)) X5) X4) X3) X2) X1) X0
set_option maxHeartbeats 4000000 in
set_option maxRecDepth 100000 in
theorem kX0_greedyOf (l : Launch) (d : DT) (h0 : Nat → Nat) (h1 : Nat → Nat) (h2 : Nat → Nat) (h3 : Nat → Nat) (h4 : Nat → Nat) (h5 : Nat → Nat) (n : Nat) (x0_gained : (Nat → Int32)) (x1_lineCount : Int32) (x1_goodsCount : Int32) (x1_workCount : Int32) (x1_years : Int32) (x1_lines : (Nat → Int32)) (x1_goods : (Nat → Int32)) (x1_works : (Nat → Int32)) (x1_change : (Nat → Int32)) (x1_coin : (Nat → Int32)) (x1_knownFree : (Nat → Int32)) (x1_isKnown : Int32) (x2_left : (Nat → Int32)) (x2_earned : (Nat → Int32)) (x2_turnCost : Int32) (x2_turnWayless : Int32) (x3_edgeA : (Nat → Int32)) (x3_edgeB : (Nat → Int32)) (x3_edgeCost : (Nat → Int32)) (x3_edgeLine : (Nat → Int32)) (x3_change : (Nat → Int32)) (x3_away : (Nat → Int32)) (x3_steps : (Nat → Int32)) (x3_nodes : (Nat → Int32)) (x3_stepCount : Int32) (x3_open : (Nat → Int32)) (x3_openCount : Int32) (x3_seen : Int64) (x3_edgeCount : Int32) (x3_aim : Int32) (x4_lineCount : Int32) (x4_goodsCount : Int32) (x4_workCount : Int32) (x4_years : Int32) (x4_lines : (Nat → Int32)) (x4_goods : (Nat → Int32)) (x4_works : (Nat → Int32)) (x4_change : (Nat → Int32)) (x4_coin : (Nat → Int32)) (x4_knownFree : (Nat → Int32)) (x4_isKnown : Int32) (x5_lineCount : Int32) (x5_goodsCount : Int32) (x5_workCount : Int32) (x5_years : Int32) (x5_lines : (Nat → Int32)) (x5_goods : (Nat → Int32)) (x5_works : (Nat → Int32)) (x5_change : (Nat → Int32)) (x5_coin : (Nat → Int32)) (x5_knownFree : (Nat → Int32)) (x5_isKnown : Int32)  {out : Int32 × (Int32 × Int32 × Int32 × Int32 × (Nat → Int32) × (Nat → Int32) × (Nat → Int32) × (Nat → Int32) × (Nat → Int32) × (Nat → Int32) × Int32) × ((Nat → Int32) × (Nat → Int32) × (Nat → Int32) × (Nat → Int32) × (Nat → Int32) × (Nat → Int32) × Int32 × Int32) × (Int32 × Int32 × Int32 × Int32 × (Nat → Int32) × (Nat → Int32) × (Nat → Int32) × (Nat → Int32) × (Nat → Int32) × Int32)} (hf : fX0_greedyOf n x0_gained (x1_lineCount, x1_goodsCount, x1_workCount, x1_years, x1_lines, x1_goods, x1_works, x1_change, x1_coin, x1_knownFree, x1_isKnown) (x2_left, x2_earned, x2_turnCost, x2_turnWayless) (x3_edgeA, x3_edgeB, x3_edgeCost, x3_edgeLine, x3_change, x3_away, x3_steps, x3_nodes, x3_stepCount, x3_open, x3_openCount, x3_seen, x3_edgeCount, x3_aim) (x4_lineCount, x4_goodsCount, x4_workCount, x4_years, x4_lines, x4_goods, x4_works, x4_change, x4_coin, x4_knownFree, x4_isKnown) (x5_lineCount, x5_goodsCount, x5_workCount, x5_years, x5_lines, x5_goods, x5_works, x5_change, x5_coin, x5_knownFree, x5_isKnown) = some out) : Ct l d yX0_greedyOf cX0_greedyOf 5 (some .int) { frames := 6, cells := 0, slots := 0, locals := 151 } [.ref (h0 0), .ref (h5 0)] [gCh d h0 (h2 0) (h1 0) (h4 0) x0_gained, gLd d h1 x1_lineCount x1_goodsCount x1_workCount x1_years x1_lines x1_goods x1_works x1_change x1_coin x1_knownFree x1_isKnown, gTr d h2 (h3 0) x2_left x2_earned x2_turnCost x2_turnWayless, gWy d h3 x3_edgeA x3_edgeB x3_edgeCost x3_edgeLine x3_change x3_away x3_steps x3_nodes x3_stepCount x3_open x3_openCount x3_seen x3_edgeCount x3_aim, gLd d h4 x4_lineCount x4_goodsCount x4_workCount x4_years x4_lines x4_goods x4_works x4_change x4_coin x4_knownFree x4_isKnown, gLd d h5 x5_lineCount x5_goodsCount x5_workCount x5_years x5_lines x5_goods x5_works x5_change x5_coin x5_knownFree x5_isKnown] (fun _ : Unit => (some (.int out.1), [gCh d h0 (h2 0) (h1 0) (h4 0) x0_gained, gLd d h1 (out.2.1.1) (out.2.1.2.1) (out.2.1.2.2.1) (out.2.1.2.2.2.1) (out.2.1.2.2.2.2.1) (out.2.1.2.2.2.2.2.1) (out.2.1.2.2.2.2.2.2.1) (out.2.1.2.2.2.2.2.2.2.1) (out.2.1.2.2.2.2.2.2.2.2.1) (out.2.1.2.2.2.2.2.2.2.2.2.1) (out.2.1.2.2.2.2.2.2.2.2.2.2), gTr d h2 (h3 0) x2_left x2_earned x2_turnCost x2_turnWayless, gWy d h3 (out.2.2.1.1) (out.2.2.1.2.1) (out.2.2.1.2.2.1) (out.2.2.1.2.2.2.1) (out.2.2.1.2.2.2.2.1) (out.2.2.1.2.2.2.2.2.1) x3_steps x3_nodes x3_stepCount x3_open x3_openCount x3_seen (out.2.2.1.2.2.2.2.2.2.1) (out.2.2.1.2.2.2.2.2.2.2), gLd d h4 (out.2.2.2.1) (out.2.2.2.2.1) (out.2.2.2.2.2.1) (out.2.2.2.2.2.2.1) (out.2.2.2.2.2.2.2.1) (out.2.2.2.2.2.2.2.2.1) (out.2.2.2.2.2.2.2.2.2.1) (out.2.2.2.2.2.2.2.2.2.2.1) (out.2.2.2.2.2.2.2.2.2.2.2.1) x4_knownFree (out.2.2.2.2.2.2.2.2.2.2.2.2), gLd d h5 x5_lineCount x5_goodsCount x5_workCount x5_years x5_lines x5_goods x5_works x5_change x5_coin x5_knownFree x5_isKnown])) := by
  refine Ct.of (by decide) (Nat.le_of_ble_eq_true rfl) ?_
  intro Φ hl hK hR
  subst hl
  have hK : Ok d Φ RX0 "greedyOf" cX0_greedyOf 5 (some .int) { frames := 6, cells := 0, slots := 0, locals := 151 } := hK
  unfold fX0_greedyOf at hf
  have hf := un11 hf
  have hf := un4 hf
  have hf := un14 hf
  have hf := un11 hf
  have hf := un11 hf
  show J d Φ 5 [gCh d h0 (h2 0) (h1 0) (h4 0) x0_gained, gLd d h1 x1_lineCount x1_goodsCount x1_workCount x1_years x1_lines x1_goods x1_works x1_change x1_coin x1_knownFree x1_isKnown, gTr d h2 (h3 0) x2_left x2_earned x2_turnCost x2_turnWayless, gWy d h3 x3_edgeA x3_edgeB x3_edgeCost x3_edgeLine x3_change x3_away x3_steps x3_nodes x3_stepCount x3_open x3_openCount x3_seen x3_edgeCount x3_aim, gLd d h4 x4_lineCount x4_goodsCount x4_workCount x4_years x4_lines x4_goods x4_works x4_change x4_coin x4_knownFree x4_isKnown, gLd d h5 x5_lineCount x5_goodsCount x5_workCount x5_years x5_lines x5_goods x5_works x5_change x5_coin x5_knownFree x5_isKnown] 0 0 0 [(0, .ref (h0 0)), (1, .ref (h5 0))] []
  refine J_aload_n hK dX0_greedyOf_0 rfl 0 rfl rfl ?_
  refine J_get hK fo_RX0_21 dX0_greedyOf_1 rfl 0 0 rfl rfl rfl ?_
  refine J_aload_n hK dX0_greedyOf_4 rfl 1 rfl rfl ?_
  obtain ⟨⟨g2, g3, g4, g5, g6, g7, g8, g9, g10, g11⟩, e12, hf⟩ := bs hf
  have hf := un10 hf
  refine J_callV (m' := 6) (ce' := 0) (sl' := 0) (gr := [gCh d h0 (h2 0) (h1 0) (h4 0) x0_gained, gTr d h2 (h3 0) x2_left x2_earned x2_turnCost x2_turnWayless, gWy d h3 x3_edgeA x3_edgeB x3_edgeCost x3_edgeLine x3_change x3_away x3_steps x3_nodes x3_stepCount x3_open x3_openCount x3_seen x3_edgeCount x3_aim, gLd d h4 x4_lineCount x4_goodsCount x4_workCount x4_years x4_lines x4_goods x4_works x4_change x4_coin x4_knownFree x4_isKnown]) (gs' := fun _ => [gCh d h0 (h2 0) (h1 0) (h4 0) x0_gained, gLd d h1 g2 g3 g4 g5 g6 g7 g8 g9 g10 x1_knownFree g11, gTr d h2 (h3 0) x2_left x2_earned x2_turnCost x2_turnWayless, gWy d h3 x3_edgeA x3_edgeB x3_edgeCost x3_edgeLine x3_change x3_away x3_steps x3_nodes x3_stepCount x3_open x3_openCount x3_seen x3_edgeCount x3_aim, gLd d h4 x4_lineCount x4_goodsCount x4_workCount x4_years x4_lines x4_goods x4_works x4_change x4_coin x4_knownFree x4_isKnown, gLd d h5 x5_lineCount x5_goodsCount x5_workCount x5_years x5_lines x5_goods x5_works x5_change x5_coin x5_knownFree x5_isKnown]) (st' := fun _ => []) (st := []) hK dX0_greedyOf_5 cv_RX0_40 iv_yX1_take (As := [.ref (h5 0)]) (kX1_take _ d h1 h5 x1_lineCount x1_goodsCount x1_workCount x1_years x1_lines x1_goods x1_works x1_change x1_coin x1_knownFree x1_isKnown x5_lineCount x5_goodsCount x5_workCount x5_years x5_lines x5_goods x5_works x5_change x5_coin x5_knownFree x5_isKnown e12) rfl rfl (Nat.le_of_ble_eq_true rfl) (by decide) 1 0 rfl rfl rfl [1, 5] [0, 2, 3, 4] rfl rfl rfl rfl [0, 4, 1, 2, 3, 5] rfl (fun _ => rfl) (fun _ => rfl) rfl rfl rfl (fun _ => rfl) (fun _ => ?_)
  refine J_iconst (v := 0) hK dX0_greedyOf_8 rfl (by decide) ?_
  refine J_istore_n (L' := [(2, .int (0)), (0, .ref (h0 0)), (1, .ref (h5 0))]) hK dX0_greedyOf_9 rfl rfl (by decide) rfl ?_
  refine J_aload_n hK dX0_greedyOf_10 rfl 1 rfl rfl ?_
  refine J_aload_n hK dX0_greedyOf_11 rfl 1 rfl rfl ?_
  refine J_get hK fo_RX0_21 dX0_greedyOf_12 rfl 0 0 rfl rfl rfl ?_
  obtain ⟨⟨v13, ⟨g15, g16, g17, g18, g19, g20, g21, g22⟩, ⟨g24, g25, g26, g27, g28, g29, g30, g31, g32, g33⟩, ⟨g35, g36, g37, g38, g39⟩⟩, e40, hf⟩ := bs hf
  have hf := un4 hf
  have hf := un8 hf
  have hf := un10 hf
  have hf := un5 hf
  refine J_callV (m' := 6) (ce' := 0) (sl' := 0) (gr := [gLd d h5 x5_lineCount x5_goodsCount x5_workCount x5_years x5_lines x5_goods x5_works x5_change x5_coin x5_knownFree x5_isKnown]) (gs' := fun _ => [gCh d h0 (h2 0) (h1 0) (h4 0) x0_gained, gLd d h1 g35 g3 g4 g5 g36 g7 g8 g37 g10 g38 g39, gTr d h2 (h3 0) x2_left x2_earned x2_turnCost x2_turnWayless, gWy d h3 g15 g16 g17 g18 g19 g20 x3_steps x3_nodes x3_stepCount x3_open x3_openCount x3_seen g21 g22, gLd d h4 g24 g25 g26 g27 g28 g29 g30 g31 g32 x4_knownFree g33, gLd d h5 x5_lineCount x5_goodsCount x5_workCount x5_years x5_lines x5_goods x5_works x5_change x5_coin x5_knownFree x5_isKnown]) (st' := fun _ => [.int v13]) (st := []) hK dX0_greedyOf_15 cv_RX0_84 iv_yX0_firstOf (As := [.ref (h1 0)]) (kX0_firstOf _ d h0 (h1 0) h2 h3 h4 h1 n x0_gained x2_left x2_earned x2_turnCost x2_turnWayless x3_edgeA x3_edgeB x3_edgeCost x3_edgeLine x3_change x3_away x3_steps x3_nodes x3_stepCount x3_open x3_openCount x3_seen x3_edgeCount x3_aim x4_lineCount x4_goodsCount x4_workCount x4_years x4_lines x4_goods x4_works x4_change x4_coin x4_knownFree x4_isKnown g2 g3 g4 g5 g6 g7 g8 g9 g10 x1_knownFree g11 e40) rfl rfl (Nat.le_of_ble_eq_true rfl) (by decide) 0 0 rfl rfl rfl [0, 2, 3, 4, 1] [5] rfl rfl rfl rfl [1, 5, 2, 3, 4, 0] rfl (fun _ => rfl) (fun _ => rfl) rfl rfl rfl (fun _ => rfl) (fun _ => ?_)
  refine J_istore_n (L' := [(3, .int v13), (2, .int (0)), (0, .ref (h0 0)), (1, .ref (h5 0))]) hK dX0_greedyOf_18 rfl rfl (by decide) rfl ?_
  refine J_iconst (v := 0) hK dX0_greedyOf_19 rfl (by decide) ?_
  refine J_istore (L' := [(4, .int (0)), (3, .int v13), (2, .int (0)), (0, .ref (h0 0)), (1, .ref (h5 0))]) hK dX0_greedyOf_20 rfl (by decide) rfl ?_
  obtain ⟨e69, hl41, hf⟩ := bs hf
  have hx41_63 : ∀ (w70 : Int32) (w71 : Int32) (w72 : (Nat → Int32)) (w73 : (Nat → Int32)) (w74 : (Nat → Int32)) (w75 : (Nat → Int32)) (w76 : Int32) (w77 : (Nat → Int32)) (w78 : (Nat → Int32)) (w79 : (Nat → Int32)) (w80 : (Nat → Int32)) (w81 : (Nat → Int32)) (w82 : (Nat → Int32)) (w83 : Int32) (w84 : Int32) (w85 : Int32) (w86 : Int32) (w87 : Int32) (w88 : Int32) (w89 : (Nat → Int32)) (w90 : (Nat → Int32)) (w91 : (Nat → Int32)) (w92 : (Nat → Int32)) (w93 : (Nat → Int32)) (w94 : Int32), (w70, w71, w72, w73, w74, w75, w76, w77, w78, w79, w80, w81, w82, w83, w84, w85, w86, w87, w88, w89, w90, w91, w92, w93, w94) = e69 → J d Φ 5 [gCh d h0 (h2 0) (h1 0) (h4 0) x0_gained, gLd d h1 w71 g3 g4 g5 w72 g7 w73 w74 g10 w75 w76, gTr d h2 (h3 0) x2_left x2_earned x2_turnCost x2_turnWayless, gWy d h3 w77 w78 w79 w80 w81 w82 x3_steps x3_nodes x3_stepCount x3_open x3_openCount x3_seen w83 w84, gLd d h4 w85 w86 w87 w88 w89 w90 w91 w92 w93 x4_knownFree w94, gLd d h5 x5_lineCount x5_goodsCount x5_workCount x5_years x5_lines x5_goods x5_works x5_change x5_coin x5_knownFree x5_isKnown] 0 0 63 [(2, .int w70)] [] := by
    intro w70 w71 w72 w73 w74 w75 w76 w77 w78 w79 w80 w81 w82 w83 w84 w85 w86 w87 w88 w89 w90 w91 w92 w93 w94 he
    rw [← he] at hf
    have hf := un25 hf
    refine J_iload_n hK dX0_greedyOf_63 rfl 0 rfl rfl ?_
    obtain rfl := Option.some.inj hf
    exact J_iret hK hR dX0_greedyOf_64 () rfl (by decide) (by decide)
  have lo41 : ∀ (k : Nat) (z42 : Int32) (z43 : Int32) (z44 : Int32) (z45 : Int32) (z46 : (Nat → Int32)) (z47 : (Nat → Int32)) (z48 : (Nat → Int32)) (z49 : (Nat → Int32)) (z50 : Int32) (z51 : (Nat → Int32)) (z52 : (Nat → Int32)) (z53 : (Nat → Int32)) (z54 : (Nat → Int32)) (z55 : (Nat → Int32)) (z56 : (Nat → Int32)) (z57 : Int32) (z58 : Int32) (z59 : Int32) (z60 : Int32) (z61 : Int32) (z62 : Int32) (z63 : (Nat → Int32)) (z64 : (Nat → Int32)) (z65 : (Nat → Int32)) (z66 : (Nat → Int32)) (z67 : (Nat → Int32)) (z68 : Int32), lp (u27 (fX0_greedyOf_s22 n x0_gained x2_left x2_earned x2_turnCost x2_turnWayless x3_steps x3_nodes x3_stepCount x3_open x3_openCount x3_seen x4_knownFree g3 g4 g5 g7 g10)) k (z42, z43, z44, z45, z46, z47, z48, z49, z50, z51, z52, z53, z54, z55, z56, z57, z58, z59, z60, z61, z62, z63, z64, z65, z66, z67, z68) = some e69 → J d Φ 5 [gCh d h0 (h2 0) (h1 0) (h4 0) x0_gained, gLd d h1 z45 g3 g4 g5 z46 g7 z47 z48 g10 z49 z50, gTr d h2 (h3 0) x2_left x2_earned x2_turnCost x2_turnWayless, gWy d h3 z51 z52 z53 z54 z55 z56 x3_steps x3_nodes x3_stepCount x3_open x3_openCount x3_seen z57 z58, gLd d h4 z59 z60 z61 z62 z63 z64 z65 z66 z67 x4_knownFree z68, gLd d h5 x5_lineCount x5_goodsCount x5_workCount x5_years x5_lines x5_goods x5_works x5_change x5_coin x5_knownFree x5_isKnown] 0 0 22 [(0, .ref (h0 0)), (2, .int z42), (3, .int z43), (4, .int z44)] [] := by
    intro k
    induction k with
    | zero => intro z42 z43 z44 z45 z46 z47 z48 z49 z50 z51 z52 z53 z54 z55 z56 z57 z58 z59 z60 z61 z62 z63 z64 z65 z66 z67 z68 h; cases h
    | succ k ih41 =>
      intro z42 z43 z44 z45 z46 z47 z48 z49 z50 z51 z52 z53 z54 z55 z56 z57 z58 z59 z60 z61 z62 z63 z64 z65 z66 z67 z68 h
      obtain ⟨k2, rr41, hk2, hs41, hr41⟩ := lp_ok h
      cases hk2
      have hs41 : fX0_greedyOf_s22 n x0_gained x2_left x2_earned x2_turnCost x2_turnWayless x3_steps x3_nodes x3_stepCount x3_open x3_openCount x3_seen x4_knownFree g3 g4 g5 g7 g10 z42 z43 z44 z45 z46 z47 z48 z49 z50 z51 z52 z53 z54 z55 z56 z57 z58 z59 z60 z61 z62 z63 z64 z65 z66 z67 z68 = some rr41 := hs41
      unfold fX0_greedyOf_s22 at hs41
      refine J_iload hK dX0_greedyOf_22 rfl 3 rfl ?_
      refine J_bipush (v := 7) hK dX0_greedyOf_24 rfl (by decide) ?_
      refine J_icmp_ge (tg := 63) hK dX0_greedyOf_26 rfl rfl (fun hc26 => ?_) (fun hc26 => ?_)
      · have hs41 := ip hc26 hs41
        exact J_loc [1] rfl (hx41_63 z42 z45 z46 z47 z48 z49 z50 z51 z52 z53 z54 z55 z56 z57 z58 z59 z60 z61 z62 z63 z64 z65 z66 z67 z68 (lpx hs41 hr41))
      · have hs41 := iq hc26 hs41
        refine J_iload_n hK dX0_greedyOf_29 rfl 2 rfl rfl ?_
        refine J_iconst (v := (-1)) hK dX0_greedyOf_30 rfl (by decide) ?_
        refine J_icmp_eq (tg := 63) hK dX0_greedyOf_31 rfl rfl (fun hc31 => ?_) (fun hc31 => ?_)
        · have hs41 := ip hc31 hs41
          exact J_loc [1] rfl (hx41_63 z42 z45 z46 z47 z48 z49 z50 z51 z52 z53 z54 z55 z56 z57 z58 z59 z60 z61 z62 z63 z64 z65 z66 z67 z68 (lpx hs41 hr41))
        · have hs41 := iq hc31 hs41
          refine J_iload_n hK dX0_greedyOf_34 rfl 1 rfl rfl ?_
          refine J_iconst (v := 1) hK dX0_greedyOf_35 rfl (by decide) ?_
          refine J_iload_n hK dX0_greedyOf_36 rfl 2 rfl rfl ?_
          refine J_ishl hK dX0_greedyOf_37 rfl ?_
          refine J_ior hK dX0_greedyOf_38 rfl ?_
          obtain ⟨t95, et95, hs41⟩ := bs hs41
          refine J_nmi et95 ?_
          refine J_istore_n (L' := [(2, .int t95), (0, .ref (h0 0)), (3, .int z43), (4, .int z44)]) hK dX0_greedyOf_39 rfl rfl (by decide) rfl ?_
          refine J_aload_n hK dX0_greedyOf_40 rfl 1 rfl rfl ?_
          refine J_get hK fo_RX0_21 dX0_greedyOf_41 rfl 0 0 rfl rfl rfl ?_
          refine J_iload_n hK dX0_greedyOf_44 rfl 2 rfl rfl ?_
          obtain ⟨⟨g97, g98, g99, g100, g101⟩, e102, hs41⟩ := bs hs41
          have hs41 := un5 hs41
          refine J_callV (m' := 6) (ce' := 0) (sl' := 0) (gr := [gCh d h0 (h2 0) (h1 0) (h4 0) x0_gained, gTr d h2 (h3 0) x2_left x2_earned x2_turnCost x2_turnWayless, gWy d h3 z51 z52 z53 z54 z55 z56 x3_steps x3_nodes x3_stepCount x3_open x3_openCount x3_seen z57 z58, gLd d h4 z59 z60 z61 z62 z63 z64 z65 z66 z67 x4_knownFree z68, gLd d h5 x5_lineCount x5_goodsCount x5_workCount x5_years x5_lines x5_goods x5_works x5_change x5_coin x5_knownFree x5_isKnown]) (gs' := fun _ => [gCh d h0 (h2 0) (h1 0) (h4 0) x0_gained, gLd d h1 g97 g3 g4 g5 g98 g7 g99 g100 g10 z49 g101, gTr d h2 (h3 0) x2_left x2_earned x2_turnCost x2_turnWayless, gWy d h3 z51 z52 z53 z54 z55 z56 x3_steps x3_nodes x3_stepCount x3_open x3_openCount x3_seen z57 z58, gLd d h4 z59 z60 z61 z62 z63 z64 z65 z66 z67 x4_knownFree z68, gLd d h5 x5_lineCount x5_goodsCount x5_workCount x5_years x5_lines x5_goods x5_works x5_change x5_coin x5_knownFree x5_isKnown]) (st' := fun _ => []) (st := []) hK dX0_greedyOf_45 cv_RX0_88 iv_yX1_performForGood (As := [.int z43]) (kX1_performForGood _ d h1 z45 g3 g4 g5 z46 g7 z47 z48 g10 z49 z50 z43 e102) rfl rfl (Nat.le_of_ble_eq_true rfl) (by decide) 1 0 rfl rfl rfl [1] [0, 2, 3, 4, 5] rfl rfl rfl rfl [0, 5, 1, 2, 3, 4] rfl (fun _ => rfl) (fun _ => rfl) rfl rfl rfl (fun _ => rfl) (fun _ => ?_)
          refine J_aload_n hK dX0_greedyOf_48 rfl 1 rfl rfl ?_
          refine J_aload_n hK dX0_greedyOf_49 rfl 1 rfl rfl ?_
          refine J_get hK fo_RX0_21 dX0_greedyOf_50 rfl 0 0 rfl rfl rfl ?_
          obtain ⟨⟨v103, ⟨g105, g106, g107, g108, g109, g110, g111, g112⟩, ⟨g114, g115, g116, g117, g118, g119, g120, g121, g122, g123⟩, ⟨g125, g126, g127, g128, g129⟩⟩, e130, hs41⟩ := bs hs41
          have hs41 := un4 hs41
          have hs41 := un8 hs41
          have hs41 := un10 hs41
          have hs41 := un5 hs41
          refine J_callV (m' := 6) (ce' := 0) (sl' := 0) (gr := [gLd d h5 x5_lineCount x5_goodsCount x5_workCount x5_years x5_lines x5_goods x5_works x5_change x5_coin x5_knownFree x5_isKnown]) (gs' := fun _ => [gCh d h0 (h2 0) (h1 0) (h4 0) x0_gained, gLd d h1 g125 g3 g4 g5 g126 g7 g99 g127 g10 g128 g129, gTr d h2 (h3 0) x2_left x2_earned x2_turnCost x2_turnWayless, gWy d h3 g105 g106 g107 g108 g109 g110 x3_steps x3_nodes x3_stepCount x3_open x3_openCount x3_seen g111 g112, gLd d h4 g114 g115 g116 g117 g118 g119 g120 g121 g122 x4_knownFree g123, gLd d h5 x5_lineCount x5_goodsCount x5_workCount x5_years x5_lines x5_goods x5_works x5_change x5_coin x5_knownFree x5_isKnown]) (st' := fun _ => [.int v103]) (st := []) hK dX0_greedyOf_53 cv_RX0_84 iv_yX0_firstOf (As := [.ref (h1 0)]) (kX0_firstOf _ d h0 (h1 0) h2 h3 h4 h1 n x0_gained x2_left x2_earned x2_turnCost x2_turnWayless z51 z52 z53 z54 z55 z56 x3_steps x3_nodes x3_stepCount x3_open x3_openCount x3_seen z57 z58 z59 z60 z61 z62 z63 z64 z65 z66 z67 x4_knownFree z68 g97 g3 g4 g5 g98 g7 g99 g100 g10 z49 g101 e130) rfl rfl (Nat.le_of_ble_eq_true rfl) (by decide) 0 0 rfl rfl rfl [0, 2, 3, 4, 1] [5] rfl rfl rfl rfl [1, 5, 2, 3, 4, 0] rfl (fun _ => rfl) (fun _ => rfl) rfl rfl rfl (fun _ => rfl) (fun _ => ?_)
          refine J_istore_n (L' := [(3, .int v103), (2, .int t95), (0, .ref (h0 0)), (4, .int z44)]) hK dX0_greedyOf_56 rfl rfl (by decide) rfl ?_
          refine J_iinc (L' := [(4, .int (z44 + 1)), (3, .int v103), (2, .int t95), (0, .ref (h0 0))]) (v := (z44 + 1)) hK dX0_greedyOf_57 rfl 3 rfl rfl (by decide) rfl ?_
          refine J_goto hK dX0_greedyOf_60 (n := 22) rfl ?_
          exact J_loc [3, 2, 1, 0] rfl (ih41 t95 v103 (z44 + 1) g125 g126 g99 g127 g128 g129 g105 g106 g107 g108 g109 g110 g111 g112 g114 g115 g116 g117 g118 g119 g120 g121 g122 g123 (lpc hs41 hr41))
  exact J_loc [3, 2, 1, 0] rfl (lo41 n (0) v13 (0) g35 g36 g8 g37 g38 g39 g15 g16 g17 g18 g19 g20 g21 g22 g24 g25 g26 g27 g28 g29 g30 g31 g32 g33 hl41)

def fX0_alwaysCostsMore_s12 (n : Nat) (p2 : Int32) (x0_gained : (Nat → Int32)) (x1_left : (Nat → Int32)) (x1_earned : (Nat → Int32)) (x1_turnCost : Int32) (x1_turnWayless : Int32) (x2_steps : (Nat → Int32)) (x2_nodes : (Nat → Int32)) (x2_stepCount : Int32) (x2_open : (Nat → Int32)) (x2_openCount : Int32) (x2_seen : Int64) (x3_knownFree : (Nat → Int32)) (x4_goodsCount : Int32) (x4_workCount : Int32) (x4_years : Int32) (x4_goods : (Nat → Int32)) (x4_works : (Nat → Int32)) (x4_coin : (Nat → Int32)) (t3 : Int32) (z5 : Int32) (z6 : (Nat → Int32)) (z7 : (Nat → Int32)) (z8 : (Nat → Int32)) (z9 : (Nat → Int32)) (z10 : (Nat → Int32)) (z11 : (Nat → Int32)) (z12 : Int32) (z13 : Int32) (z14 : Int32) (z15 : Int32) (z16 : Int32) (z17 : Int32) (z18 : (Nat → Int32)) (z19 : (Nat → Int32)) (z20 : (Nat → Int32)) (z21 : (Nat → Int32)) (z22 : (Nat → Int32)) (z23 : Int32) (z24 : Int32) (z25 : (Nat → Int32)) (z26 : (Nat → Int32)) (z27 : (Nat → Int32)) (z28 : Int32) : Option ((Int32 × (Nat → Int32) × (Nat → Int32) × (Nat → Int32) × (Nat → Int32) × (Nat → Int32) × (Nat → Int32) × Int32 × Int32 × Int32 × Int32 × Int32 × Int32 × (Nat → Int32) × (Nat → Int32) × (Nat → Int32) × (Nat → Int32) × (Nat → Int32) × Int32 × Int32 × (Nat → Int32) × (Nat → Int32) × (Nat → Int32) × Int32) ⊕ ((((Nat → Int32) × (Nat → Int32) × (Nat → Int32) × (Nat → Int32) × (Nat → Int32) × (Nat → Int32) × Int32 × Int32 × Int32 × Int32 × Int32 × Int32 × (Nat → Int32) × (Nat → Int32) × (Nat → Int32) × (Nat → Int32) × (Nat → Int32) × Int32 × Int32 × (Nat → Int32) × (Nat → Int32) × (Nat → Int32) × Int32) ⊕ ((Nat → Int32) × (Nat → Int32) × (Nat → Int32) × (Nat → Int32) × (Nat → Int32) × (Nat → Int32) × Int32 × Int32 × Int32 × Int32 × Int32 × Int32 × (Nat → Int32) × (Nat → Int32) × (Nat → Int32) × (Nat → Int32) × (Nat → Int32) × Int32 × Int32 × (Nat → Int32) × (Nat → Int32) × (Nat → Int32) × Int32)))) :=
  if ((1 : Int32) <<< (x4_workCount &&& 31)) ≤ z5 then (some (.inr (.inr (z6, z7, z8, z9, z10, z11, z12, z13, z14, z15, z16, z17, z18, z19, z20, z21, z22, z23, z24, z25, z26, z27, z28)))) else (if (z5 &&& t3) = 0 then ((fX0_totalOf n x0_gained (x1_left, x1_earned, x1_turnCost, x1_turnWayless) (z6, z7, z8, z9, z10, z11, x2_steps, x2_nodes, x2_stepCount, x2_open, x2_openCount, x2_seen, z12, z13) (z14, z15, z16, z17, z18, z19, z20, z21, z22, x3_knownFree, z23) (z24, x4_goodsCount, x4_workCount, x4_years, z25, x4_goods, x4_works, z26, x4_coin, z27, z28) (z5 ||| ((1 : Int32) <<< (p2 &&& 31)))).bind (u4 fun v76 G77 G86 G97 => u8 (fun g78 g79 g80 g81 g82 g83 g84 g85 => u10 (fun g87 g88 g89 g90 g91 g92 g93 g94 g95 g96 => u5 (fun g98 g99 g100 g101 g102 => (fX0_totalOf n x0_gained (x1_left, x1_earned, x1_turnCost, x1_turnWayless) (g78, g79, g80, g81, g82, g83, x2_steps, x2_nodes, x2_stepCount, x2_open, x2_openCount, x2_seen, g84, g85) (g87, g88, g89, g90, g91, g92, g93, g94, g95, x3_knownFree, g96) (g98, x4_goodsCount, x4_workCount, x4_years, g99, x4_goods, x4_works, g100, x4_coin, g101, g102) z5).bind (u4 fun v104 G105 G114 G125 => u8 (fun g106 g107 g108 g109 g110 g111 g112 g113 => u10 (fun g115 g116 g117 g118 g119 g120 g121 g122 g123 g124 => u5 (fun g126 g127 g128 g129 g130 => if v104 < v76 then (some (.inl ((z5 + 1), g106, g107, g108, g109, g110, g111, g112, g113, g115, g116, g117, g118, g119, g120, g121, g122, g123, g124, g126, g127, g128, g129, g130))) else (some (.inr (.inl (g106, g107, g108, g109, g110, g111, g112, g113, g115, g116, g117, g118, g119, g120, g121, g122, g123, g124, g126, g127, g128, g129, g130))))) G125) G114) G105)) G97) G86) G77)) else (some (.inl ((z5 + 1), z6, z7, z8, z9, z10, z11, z12, z13, z14, z15, z16, z17, z18, z19, z20, z21, z22, z23, z24, z25, z26, z27, z28))))
def fX0_alwaysCostsMore (n : Nat) (X0 : ChT) (X1 : TrT) (X2 : WyT) (X3 : LdT) (X4 : LdT) (p2 : Int32) : Option (Int32 × ((Nat → Int32) × (Nat → Int32) × (Nat → Int32) × (Nat → Int32) × (Nat → Int32) × (Nat → Int32) × Int32 × Int32) × (Int32 × Int32 × Int32 × Int32 × (Nat → Int32) × (Nat → Int32) × (Nat → Int32) × (Nat → Int32) × (Nat → Int32) × Int32) × (Int32 × (Nat → Int32) × (Nat → Int32) × (Nat → Int32) × Int32)) :=
  (fun (x0_gained : (Nat → Int32)) => u4 (fun (x1_left : (Nat → Int32)) (x1_earned : (Nat → Int32)) (x1_turnCost : Int32) (x1_turnWayless : Int32) => u14 (fun (x2_edgeA : (Nat → Int32)) (x2_edgeB : (Nat → Int32)) (x2_edgeCost : (Nat → Int32)) (x2_edgeLine : (Nat → Int32)) (x2_change : (Nat → Int32)) (x2_away : (Nat → Int32)) (x2_steps : (Nat → Int32)) (x2_nodes : (Nat → Int32)) (x2_stepCount : Int32) (x2_open : (Nat → Int32)) (x2_openCount : Int32) (x2_seen : Int64) (x2_edgeCount : Int32) (x2_aim : Int32) => u11 (fun (x3_lineCount : Int32) (x3_goodsCount : Int32) (x3_workCount : Int32) (x3_years : Int32) (x3_lines : (Nat → Int32)) (x3_goods : (Nat → Int32)) (x3_works : (Nat → Int32)) (x3_change : (Nat → Int32)) (x3_coin : (Nat → Int32)) (x3_knownFree : (Nat → Int32)) (x3_isKnown : Int32) => u11 (fun (x4_lineCount : Int32) (x4_goodsCount : Int32) (x4_workCount : Int32) (x4_years : Int32) (x4_lines : (Nat → Int32)) (x4_goods : (Nat → Int32)) (x4_works : (Nat → Int32)) (x4_change : (Nat → Int32)) (x4_coin : (Nat → Int32)) (x4_knownFree : (Nat → Int32)) (x4_isKnown : Int32) => (fX1_doneWorks n (x4_lineCount, x4_goodsCount, x4_workCount, x4_years, x4_lines, x4_goods, x4_works, x4_change, x4_coin, x4_knownFree, x4_isKnown)).bind (fun v1 => (some (v1 ||| ((1 : Int32) <<< (p2 &&& 31)))).bind fun t3 => (lp (u24 (fX0_alwaysCostsMore_s12 n p2 x0_gained x1_left x1_earned x1_turnCost x1_turnWayless x2_steps x2_nodes x2_stepCount x2_open x2_openCount x2_seen x3_knownFree x4_goodsCount x4_workCount x4_years x4_goods x4_works x4_coin t3)) n (0, x2_edgeA, x2_edgeB, x2_edgeCost, x2_edgeLine, x2_change, x2_away, x2_edgeCount, x2_aim, x3_lineCount, x3_goodsCount, x3_workCount, x3_years, x3_lines, x3_goods, x3_works, x3_change, x3_coin, x3_isKnown, x4_lineCount, x4_lines, x4_change, x4_knownFree, x4_isKnown)).bind (Sum.elim (u23 fun w30 w31 w32 w33 w34 w35 w36 w37 w38 w39 w40 w41 w42 w43 w44 w45 w46 w47 w48 w49 w50 w51 w52 => some (0, (w30, w31, w32, w33, w34, w35, w36, w37), (w38, w39, w40, w41, w42, w43, w44, w45, w46, w47), (w48, w49, w50, w51, w52))) (u23 fun w53 w54 w55 w56 w57 w58 w59 w60 w61 w62 w63 w64 w65 w66 w67 w68 w69 w70 w71 w72 w73 w74 w75 => some (1, (w53, w54, w55, w56, w57, w58, w59, w60), (w61, w62, w63, w64, w65, w66, w67, w68, w69, w70), (w71, w72, w73, w74, w75)))))) X4) X3) X2) X1) X0
set_option maxHeartbeats 4000000 in
set_option maxRecDepth 100000 in
theorem kX0_alwaysCostsMore (l : Launch) (d : DT) (h0 : Nat → Nat) (a0_after : Nat) (h1 : Nat → Nat) (h2 : Nat → Nat) (h3 : Nat → Nat) (h4 : Nat → Nat) (n : Nat) (x0_gained : (Nat → Int32)) (x1_left : (Nat → Int32)) (x1_earned : (Nat → Int32)) (x1_turnCost : Int32) (x1_turnWayless : Int32) (x2_edgeA : (Nat → Int32)) (x2_edgeB : (Nat → Int32)) (x2_edgeCost : (Nat → Int32)) (x2_edgeLine : (Nat → Int32)) (x2_change : (Nat → Int32)) (x2_away : (Nat → Int32)) (x2_steps : (Nat → Int32)) (x2_nodes : (Nat → Int32)) (x2_stepCount : Int32) (x2_open : (Nat → Int32)) (x2_openCount : Int32) (x2_seen : Int64) (x2_edgeCount : Int32) (x2_aim : Int32) (x3_lineCount : Int32) (x3_goodsCount : Int32) (x3_workCount : Int32) (x3_years : Int32) (x3_lines : (Nat → Int32)) (x3_goods : (Nat → Int32)) (x3_works : (Nat → Int32)) (x3_change : (Nat → Int32)) (x3_coin : (Nat → Int32)) (x3_knownFree : (Nat → Int32)) (x3_isKnown : Int32) (x4_lineCount : Int32) (x4_goodsCount : Int32) (x4_workCount : Int32) (x4_years : Int32) (x4_lines : (Nat → Int32)) (x4_goods : (Nat → Int32)) (x4_works : (Nat → Int32)) (x4_change : (Nat → Int32)) (x4_coin : (Nat → Int32)) (x4_knownFree : (Nat → Int32)) (x4_isKnown : Int32) (p2 : Int32)  {out : Int32 × ((Nat → Int32) × (Nat → Int32) × (Nat → Int32) × (Nat → Int32) × (Nat → Int32) × (Nat → Int32) × Int32 × Int32) × (Int32 × Int32 × Int32 × Int32 × (Nat → Int32) × (Nat → Int32) × (Nat → Int32) × (Nat → Int32) × (Nat → Int32) × Int32) × (Int32 × (Nat → Int32) × (Nat → Int32) × (Nat → Int32) × Int32)} (hf : fX0_alwaysCostsMore n x0_gained (x1_left, x1_earned, x1_turnCost, x1_turnWayless) (x2_edgeA, x2_edgeB, x2_edgeCost, x2_edgeLine, x2_change, x2_away, x2_steps, x2_nodes, x2_stepCount, x2_open, x2_openCount, x2_seen, x2_edgeCount, x2_aim) (x3_lineCount, x3_goodsCount, x3_workCount, x3_years, x3_lines, x3_goods, x3_works, x3_change, x3_coin, x3_knownFree, x3_isKnown) (x4_lineCount, x4_goodsCount, x4_workCount, x4_years, x4_lines, x4_goods, x4_works, x4_change, x4_coin, x4_knownFree, x4_isKnown) p2 = some out) : Ct l d yX0_alwaysCostsMore cX0_alwaysCostsMore 5 (some .boolean) { frames := 5, cells := 0, slots := 0, locals := 127 } [.ref (h0 0), .ref (h4 0), .int p2] [gCh d h0 (h1 0) a0_after (h3 0) x0_gained, gTr d h1 (h2 0) x1_left x1_earned x1_turnCost x1_turnWayless, gWy d h2 x2_edgeA x2_edgeB x2_edgeCost x2_edgeLine x2_change x2_away x2_steps x2_nodes x2_stepCount x2_open x2_openCount x2_seen x2_edgeCount x2_aim, gLd d h3 x3_lineCount x3_goodsCount x3_workCount x3_years x3_lines x3_goods x3_works x3_change x3_coin x3_knownFree x3_isKnown, gLd d h4 x4_lineCount x4_goodsCount x4_workCount x4_years x4_lines x4_goods x4_works x4_change x4_coin x4_knownFree x4_isKnown] (fun _ : Unit => (some (.int out.1), [gCh d h0 (h1 0) a0_after (h3 0) x0_gained, gTr d h1 (h2 0) x1_left x1_earned x1_turnCost x1_turnWayless, gWy d h2 (out.2.1.1) (out.2.1.2.1) (out.2.1.2.2.1) (out.2.1.2.2.2.1) (out.2.1.2.2.2.2.1) (out.2.1.2.2.2.2.2.1) x2_steps x2_nodes x2_stepCount x2_open x2_openCount x2_seen (out.2.1.2.2.2.2.2.2.1) (out.2.1.2.2.2.2.2.2.2), gLd d h3 (out.2.2.1.1) (out.2.2.1.2.1) (out.2.2.1.2.2.1) (out.2.2.1.2.2.2.1) (out.2.2.1.2.2.2.2.1) (out.2.2.1.2.2.2.2.2.1) (out.2.2.1.2.2.2.2.2.2.1) (out.2.2.1.2.2.2.2.2.2.2.1) (out.2.2.1.2.2.2.2.2.2.2.2.1) x3_knownFree (out.2.2.1.2.2.2.2.2.2.2.2.2), gLd d h4 (out.2.2.2.1) x4_goodsCount x4_workCount x4_years (out.2.2.2.2.1) x4_goods x4_works (out.2.2.2.2.2.1) x4_coin (out.2.2.2.2.2.2.1) (out.2.2.2.2.2.2.2)])) := by
  refine Ct.of (by decide) (Nat.le_of_ble_eq_true rfl) ?_
  intro Φ hl hK hR
  subst hl
  have hK : Ok d Φ RX0 "alwaysCostsMore" cX0_alwaysCostsMore 5 (some .boolean) { frames := 5, cells := 0, slots := 0, locals := 127 } := hK
  unfold fX0_alwaysCostsMore at hf
  have hf := un4 hf
  have hf := un14 hf
  have hf := un11 hf
  have hf := un11 hf
  show J d Φ 5 [gCh d h0 (h1 0) a0_after (h3 0) x0_gained, gTr d h1 (h2 0) x1_left x1_earned x1_turnCost x1_turnWayless, gWy d h2 x2_edgeA x2_edgeB x2_edgeCost x2_edgeLine x2_change x2_away x2_steps x2_nodes x2_stepCount x2_open x2_openCount x2_seen x2_edgeCount x2_aim, gLd d h3 x3_lineCount x3_goodsCount x3_workCount x3_years x3_lines x3_goods x3_works x3_change x3_coin x3_knownFree x3_isKnown, gLd d h4 x4_lineCount x4_goodsCount x4_workCount x4_years x4_lines x4_goods x4_works x4_change x4_coin x4_knownFree x4_isKnown] 0 0 0 [(0, .ref (h0 0)), (1, .ref (h4 0)), (2, .int p2)] []
  refine J_aload_n hK dX0_alwaysCostsMore_0 rfl 1 rfl rfl ?_
  obtain ⟨v1, e2, hf⟩ := bs hf
  refine J_callV (m' := 5) (ce' := 0) (sl' := 0) (gr := [gCh d h0 (h1 0) a0_after (h3 0) x0_gained, gTr d h1 (h2 0) x1_left x1_earned x1_turnCost x1_turnWayless, gWy d h2 x2_edgeA x2_edgeB x2_edgeCost x2_edgeLine x2_change x2_away x2_steps x2_nodes x2_stepCount x2_open x2_openCount x2_seen x2_edgeCount x2_aim, gLd d h3 x3_lineCount x3_goodsCount x3_workCount x3_years x3_lines x3_goods x3_works x3_change x3_coin x3_knownFree x3_isKnown]) (gs' := fun _ => [gCh d h0 (h1 0) a0_after (h3 0) x0_gained, gTr d h1 (h2 0) x1_left x1_earned x1_turnCost x1_turnWayless, gWy d h2 x2_edgeA x2_edgeB x2_edgeCost x2_edgeLine x2_change x2_away x2_steps x2_nodes x2_stepCount x2_open x2_openCount x2_seen x2_edgeCount x2_aim, gLd d h3 x3_lineCount x3_goodsCount x3_workCount x3_years x3_lines x3_goods x3_works x3_change x3_coin x3_knownFree x3_isKnown, gLd d h4 x4_lineCount x4_goodsCount x4_workCount x4_years x4_lines x4_goods x4_works x4_change x4_coin x4_knownFree x4_isKnown]) (st' := fun _ => [.int v1]) (st := []) hK dX0_alwaysCostsMore_1 cv_RX0_32 iv_yX1_doneWorks (As := []) (kX1_doneWorks _ d h4 n x4_lineCount x4_goodsCount x4_workCount x4_years x4_lines x4_goods x4_works x4_change x4_coin x4_knownFree x4_isKnown e2) rfl rfl (Nat.le_of_ble_eq_true rfl) (by decide) 4 0 rfl rfl rfl [4] [0, 1, 2, 3] rfl rfl rfl rfl [0, 1, 2, 3, 4] rfl (fun _ => rfl) (fun _ => rfl) rfl rfl rfl (fun _ => rfl) (fun _ => ?_)
  refine J_iconst (v := 1) hK dX0_alwaysCostsMore_4 rfl (by decide) ?_
  refine J_iload_n hK dX0_alwaysCostsMore_5 rfl 2 rfl rfl ?_
  refine J_ishl hK dX0_alwaysCostsMore_6 rfl ?_
  refine J_ior hK dX0_alwaysCostsMore_7 rfl ?_
  obtain ⟨t3, et3, hf⟩ := bs hf
  refine J_nmi et3 ?_
  refine J_istore_n (L' := [(3, .int t3), (0, .ref (h0 0)), (1, .ref (h4 0)), (2, .int p2)]) hK dX0_alwaysCostsMore_8 rfl rfl (by decide) rfl ?_
  refine J_iconst (v := 0) hK dX0_alwaysCostsMore_9 rfl (by decide) ?_
  refine J_istore (L' := [(4, .int (0)), (3, .int t3), (0, .ref (h0 0)), (1, .ref (h4 0)), (2, .int p2)]) hK dX0_alwaysCostsMore_10 rfl (by decide) rfl ?_
  obtain ⟨e29, hl4, hf⟩ := bs hf
  have hx4_51 : ∀ (w30 : (Nat → Int32)) (w31 : (Nat → Int32)) (w32 : (Nat → Int32)) (w33 : (Nat → Int32)) (w34 : (Nat → Int32)) (w35 : (Nat → Int32)) (w36 : Int32) (w37 : Int32) (w38 : Int32) (w39 : Int32) (w40 : Int32) (w41 : Int32) (w42 : (Nat → Int32)) (w43 : (Nat → Int32)) (w44 : (Nat → Int32)) (w45 : (Nat → Int32)) (w46 : (Nat → Int32)) (w47 : Int32) (w48 : Int32) (w49 : (Nat → Int32)) (w50 : (Nat → Int32)) (w51 : (Nat → Int32)) (w52 : Int32), (.inl (w30, w31, w32, w33, w34, w35, w36, w37, w38, w39, w40, w41, w42, w43, w44, w45, w46, w47, w48, w49, w50, w51, w52)) = e29 → J d Φ 5 [gCh d h0 (h1 0) a0_after (h3 0) x0_gained, gTr d h1 (h2 0) x1_left x1_earned x1_turnCost x1_turnWayless, gWy d h2 w30 w31 w32 w33 w34 w35 x2_steps x2_nodes x2_stepCount x2_open x2_openCount x2_seen w36 w37, gLd d h3 w38 w39 w40 w41 w42 w43 w44 w45 w46 x3_knownFree w47, gLd d h4 w48 x4_goodsCount x4_workCount x4_years w49 x4_goods x4_works w50 x4_coin w51 w52] 0 0 51 [] [] := by
    intro w30 w31 w32 w33 w34 w35 w36 w37 w38 w39 w40 w41 w42 w43 w44 w45 w46 w47 w48 w49 w50 w51 w52 he
    rw [← he] at hf
    simp only [Sum.elim_inl, Sum.elim_inr] at hf
    have hf := un23 hf
    refine J_iconst (v := 0) hK dX0_alwaysCostsMore_51 rfl (by decide) ?_
    obtain rfl := Option.some.inj hf
    exact J_zret hK hR dX0_alwaysCostsMore_52 () rfl rfl (by decide) (by decide)
  have hx4_59 : ∀ (w53 : (Nat → Int32)) (w54 : (Nat → Int32)) (w55 : (Nat → Int32)) (w56 : (Nat → Int32)) (w57 : (Nat → Int32)) (w58 : (Nat → Int32)) (w59 : Int32) (w60 : Int32) (w61 : Int32) (w62 : Int32) (w63 : Int32) (w64 : Int32) (w65 : (Nat → Int32)) (w66 : (Nat → Int32)) (w67 : (Nat → Int32)) (w68 : (Nat → Int32)) (w69 : (Nat → Int32)) (w70 : Int32) (w71 : Int32) (w72 : (Nat → Int32)) (w73 : (Nat → Int32)) (w74 : (Nat → Int32)) (w75 : Int32), (.inr (w53, w54, w55, w56, w57, w58, w59, w60, w61, w62, w63, w64, w65, w66, w67, w68, w69, w70, w71, w72, w73, w74, w75)) = e29 → J d Φ 5 [gCh d h0 (h1 0) a0_after (h3 0) x0_gained, gTr d h1 (h2 0) x1_left x1_earned x1_turnCost x1_turnWayless, gWy d h2 w53 w54 w55 w56 w57 w58 x2_steps x2_nodes x2_stepCount x2_open x2_openCount x2_seen w59 w60, gLd d h3 w61 w62 w63 w64 w65 w66 w67 w68 w69 x3_knownFree w70, gLd d h4 w71 x4_goodsCount x4_workCount x4_years w72 x4_goods x4_works w73 x4_coin w74 w75] 0 0 59 [] [] := by
    intro w53 w54 w55 w56 w57 w58 w59 w60 w61 w62 w63 w64 w65 w66 w67 w68 w69 w70 w71 w72 w73 w74 w75 he
    rw [← he] at hf
    simp only [Sum.elim_inl, Sum.elim_inr] at hf
    have hf := un23 hf
    refine J_iconst (v := 1) hK dX0_alwaysCostsMore_59 rfl (by decide) ?_
    obtain rfl := Option.some.inj hf
    exact J_zret hK hR dX0_alwaysCostsMore_60 () rfl rfl (by decide) (by decide)
  have lo4 : ∀ (k : Nat) (z5 : Int32) (z6 : (Nat → Int32)) (z7 : (Nat → Int32)) (z8 : (Nat → Int32)) (z9 : (Nat → Int32)) (z10 : (Nat → Int32)) (z11 : (Nat → Int32)) (z12 : Int32) (z13 : Int32) (z14 : Int32) (z15 : Int32) (z16 : Int32) (z17 : Int32) (z18 : (Nat → Int32)) (z19 : (Nat → Int32)) (z20 : (Nat → Int32)) (z21 : (Nat → Int32)) (z22 : (Nat → Int32)) (z23 : Int32) (z24 : Int32) (z25 : (Nat → Int32)) (z26 : (Nat → Int32)) (z27 : (Nat → Int32)) (z28 : Int32), lp (u24 (fX0_alwaysCostsMore_s12 n p2 x0_gained x1_left x1_earned x1_turnCost x1_turnWayless x2_steps x2_nodes x2_stepCount x2_open x2_openCount x2_seen x3_knownFree x4_goodsCount x4_workCount x4_years x4_goods x4_works x4_coin t3)) k (z5, z6, z7, z8, z9, z10, z11, z12, z13, z14, z15, z16, z17, z18, z19, z20, z21, z22, z23, z24, z25, z26, z27, z28) = some e29 → J d Φ 5 [gCh d h0 (h1 0) a0_after (h3 0) x0_gained, gTr d h1 (h2 0) x1_left x1_earned x1_turnCost x1_turnWayless, gWy d h2 z6 z7 z8 z9 z10 z11 x2_steps x2_nodes x2_stepCount x2_open x2_openCount x2_seen z12 z13, gLd d h3 z14 z15 z16 z17 z18 z19 z20 z21 z22 x3_knownFree z23, gLd d h4 z24 x4_goodsCount x4_workCount x4_years z25 x4_goods x4_works z26 x4_coin z27 z28] 0 0 12 [(0, .ref (h0 0)), (1, .ref (h4 0)), (2, .int p2), (3, .int t3), (4, .int z5)] [] := by
    intro k
    induction k with
    | zero => intro z5 z6 z7 z8 z9 z10 z11 z12 z13 z14 z15 z16 z17 z18 z19 z20 z21 z22 z23 z24 z25 z26 z27 z28 h; cases h
    | succ k ih4 =>
      intro z5 z6 z7 z8 z9 z10 z11 z12 z13 z14 z15 z16 z17 z18 z19 z20 z21 z22 z23 z24 z25 z26 z27 z28 h
      obtain ⟨k2, rr4, hk2, hs4, hr4⟩ := lp_ok h
      cases hk2
      have hs4 : fX0_alwaysCostsMore_s12 n p2 x0_gained x1_left x1_earned x1_turnCost x1_turnWayless x2_steps x2_nodes x2_stepCount x2_open x2_openCount x2_seen x3_knownFree x4_goodsCount x4_workCount x4_years x4_goods x4_works x4_coin t3 z5 z6 z7 z8 z9 z10 z11 z12 z13 z14 z15 z16 z17 z18 z19 z20 z21 z22 z23 z24 z25 z26 z27 z28 = some rr4 := hs4
      unfold fX0_alwaysCostsMore_s12 at hs4
      refine J_iload hK dX0_alwaysCostsMore_12 rfl 4 rfl ?_
      refine J_iconst (v := 1) hK dX0_alwaysCostsMore_14 rfl (by decide) ?_
      refine J_aload_n hK dX0_alwaysCostsMore_15 rfl 1 rfl rfl ?_
      refine J_get hK fo_RX0_44 dX0_alwaysCostsMore_16 rfl 4 0 rfl rfl rfl ?_
      refine J_ishl hK dX0_alwaysCostsMore_19 rfl ?_
      refine J_icmp_ge (tg := 59) hK dX0_alwaysCostsMore_20 rfl rfl (fun hc20 => ?_) (fun hc20 => ?_)
      · have hs4 := ip hc20 hs4
        exact J_loc [] rfl (hx4_59 z6 z7 z8 z9 z10 z11 z12 z13 z14 z15 z16 z17 z18 z19 z20 z21 z22 z23 z24 z25 z26 z27 z28 (lpx hs4 hr4))
      · have hs4 := iq hc20 hs4
        refine J_iload hK dX0_alwaysCostsMore_23 rfl 4 rfl ?_
        refine J_iload_n hK dX0_alwaysCostsMore_25 rfl 3 rfl rfl ?_
        refine J_iand hK dX0_alwaysCostsMore_26 rfl ?_
        refine J_if_ne (tg := 53) hK dX0_alwaysCostsMore_27 rfl rfl (fun hc27 => ?_) (fun hc27 => ?_)
        · have hs4 := iq hc27 hs4
          refine J_iinc (L' := [(4, .int (z5 + 1)), (0, .ref (h0 0)), (1, .ref (h4 0)), (2, .int p2), (3, .int t3)]) (v := (z5 + 1)) hK dX0_alwaysCostsMore_53 rfl 4 rfl rfl (by decide) rfl ?_
          refine J_goto hK dX0_alwaysCostsMore_56 (n := 12) rfl ?_
          exact J_loc [1, 2, 3, 4, 0] rfl (ih4 (z5 + 1) z6 z7 z8 z9 z10 z11 z12 z13 z14 z15 z16 z17 z18 z19 z20 z21 z22 z23 z24 z25 z26 z27 z28 (lpc hs4 hr4))
        · have hs4 := ip hc27 hs4
          refine J_aload_n hK dX0_alwaysCostsMore_30 rfl 0 rfl rfl ?_
          refine J_aload_n hK dX0_alwaysCostsMore_31 rfl 1 rfl rfl ?_
          refine J_iload hK dX0_alwaysCostsMore_32 rfl 4 rfl ?_
          refine J_iconst (v := 1) hK dX0_alwaysCostsMore_34 rfl (by decide) ?_
          refine J_iload_n hK dX0_alwaysCostsMore_35 rfl 2 rfl rfl ?_
          refine J_ishl hK dX0_alwaysCostsMore_36 rfl ?_
          refine J_ior hK dX0_alwaysCostsMore_37 rfl ?_
          obtain ⟨⟨v76, ⟨g78, g79, g80, g81, g82, g83, g84, g85⟩, ⟨g87, g88, g89, g90, g91, g92, g93, g94, g95, g96⟩, ⟨g98, g99, g100, g101, g102⟩⟩, e103, hs4⟩ := bs hs4
          have hs4 := un4 hs4
          have hs4 := un8 hs4
          have hs4 := un10 hs4
          have hs4 := un5 hs4
          refine J_callV (m' := 5) (ce' := 0) (sl' := 0) (gr := []) (gs' := fun _ => [gCh d h0 (h1 0) a0_after (h3 0) x0_gained, gTr d h1 (h2 0) x1_left x1_earned x1_turnCost x1_turnWayless, gWy d h2 g78 g79 g80 g81 g82 g83 x2_steps x2_nodes x2_stepCount x2_open x2_openCount x2_seen g84 g85, gLd d h3 g87 g88 g89 g90 g91 g92 g93 g94 g95 x3_knownFree g96, gLd d h4 g98 x4_goodsCount x4_workCount x4_years g99 x4_goods x4_works g100 x4_coin g101 g102]) (st' := fun _ => [.int v76]) (st := []) hK dX0_alwaysCostsMore_38 cv_RX0_77 iv_yX0_totalOf (As := [.ref (h4 0), .int (z5 ||| ((1 : Int32) <<< (p2 &&& 31)))]) (kX0_totalOf _ d h0 a0_after h1 h2 h3 h4 n x0_gained x1_left x1_earned x1_turnCost x1_turnWayless z6 z7 z8 z9 z10 z11 x2_steps x2_nodes x2_stepCount x2_open x2_openCount x2_seen z12 z13 z14 z15 z16 z17 z18 z19 z20 z21 z22 x3_knownFree z23 z24 x4_goodsCount x4_workCount x4_years z25 x4_goods x4_works z26 x4_coin z27 z28 (z5 ||| ((1 : Int32) <<< (p2 &&& 31))) e103) rfl rfl (Nat.le_of_ble_eq_true rfl) (by decide) 0 0 rfl rfl rfl [0, 1, 2, 3, 4] [] rfl rfl rfl rfl [0, 1, 2, 3, 4] rfl (fun _ => rfl) (fun _ => rfl) rfl rfl rfl (fun _ => rfl) (fun _ => ?_)
          refine J_aload_n hK dX0_alwaysCostsMore_41 rfl 0 rfl rfl ?_
          refine J_aload_n hK dX0_alwaysCostsMore_42 rfl 1 rfl rfl ?_
          refine J_iload hK dX0_alwaysCostsMore_43 rfl 4 rfl ?_
          obtain ⟨⟨v104, ⟨g106, g107, g108, g109, g110, g111, g112, g113⟩, ⟨g115, g116, g117, g118, g119, g120, g121, g122, g123, g124⟩, ⟨g126, g127, g128, g129, g130⟩⟩, e131, hs4⟩ := bs hs4
          have hs4 := un4 hs4
          have hs4 := un8 hs4
          have hs4 := un10 hs4
          have hs4 := un5 hs4
          refine J_callV (m' := 5) (ce' := 0) (sl' := 0) (gr := []) (gs' := fun _ => [gCh d h0 (h1 0) a0_after (h3 0) x0_gained, gTr d h1 (h2 0) x1_left x1_earned x1_turnCost x1_turnWayless, gWy d h2 g106 g107 g108 g109 g110 g111 x2_steps x2_nodes x2_stepCount x2_open x2_openCount x2_seen g112 g113, gLd d h3 g115 g116 g117 g118 g119 g120 g121 g122 g123 x3_knownFree g124, gLd d h4 g126 x4_goodsCount x4_workCount x4_years g127 x4_goods x4_works g128 x4_coin g129 g130]) (st' := fun _ => [.int v104, .int v76]) (st := [.int v76]) hK dX0_alwaysCostsMore_45 cv_RX0_77 iv_yX0_totalOf (As := [.ref (h4 0), .int z5]) (kX0_totalOf _ d h0 a0_after h1 h2 h3 h4 n x0_gained x1_left x1_earned x1_turnCost x1_turnWayless g78 g79 g80 g81 g82 g83 x2_steps x2_nodes x2_stepCount x2_open x2_openCount x2_seen g84 g85 g87 g88 g89 g90 g91 g92 g93 g94 g95 x3_knownFree g96 g98 x4_goodsCount x4_workCount x4_years g99 x4_goods x4_works g100 x4_coin g101 g102 z5 e131) rfl rfl (Nat.le_of_ble_eq_true rfl) (by decide) 0 0 rfl rfl rfl [0, 1, 2, 3, 4] [] rfl rfl rfl rfl [0, 1, 2, 3, 4] rfl (fun _ => rfl) (fun _ => rfl) rfl rfl rfl (fun _ => rfl) (fun _ => ?_)
          refine J_icmp_gt (tg := 53) hK dX0_alwaysCostsMore_48 rfl rfl (fun hc48 => ?_) (fun hc48 => ?_)
          · have hs4 := ip hc48 hs4
            refine J_iinc (L' := [(4, .int (z5 + 1)), (0, .ref (h0 0)), (1, .ref (h4 0)), (2, .int p2), (3, .int t3)]) (v := (z5 + 1)) hK dX0_alwaysCostsMore_53 rfl 4 rfl rfl (by decide) rfl ?_
            refine J_goto hK dX0_alwaysCostsMore_56 (n := 12) rfl ?_
            exact J_loc [1, 2, 3, 4, 0] rfl (ih4 (z5 + 1) g106 g107 g108 g109 g110 g111 g112 g113 g115 g116 g117 g118 g119 g120 g121 g122 g123 g124 g126 g127 g128 g129 g130 (lpc hs4 hr4))
          · have hs4 := iq hc48 hs4
            exact J_loc [] rfl (hx4_51 g106 g107 g108 g109 g110 g111 g112 g113 g115 g116 g117 g118 g119 g120 g121 g122 g123 g124 g126 g127 g128 g129 g130 (lpx hs4 hr4))
  exact J_loc [2, 3, 4, 1, 0] rfl (lo4 n (0) x2_edgeA x2_edgeB x2_edgeCost x2_edgeLine x2_change x2_away x2_edgeCount x2_aim x3_lineCount x3_goodsCount x3_workCount x3_years x3_lines x3_goods x3_works x3_change x3_coin x3_isKnown x4_lineCount x4_lines x4_change x4_knownFree x4_isKnown hl4)

def fX0_neverOf_s4 (n : Nat) (x0_gained : (Nat → Int32)) (x1_left : (Nat → Int32)) (x1_earned : (Nat → Int32)) (x1_turnCost : Int32) (x1_turnWayless : Int32) (x2_steps : (Nat → Int32)) (x2_nodes : (Nat → Int32)) (x2_stepCount : Int32) (x2_open : (Nat → Int32)) (x2_openCount : Int32) (x2_seen : Int64) (x3_knownFree : (Nat → Int32)) (x4_goodsCount : Int32) (x4_workCount : Int32) (x4_years : Int32) (x4_goods : (Nat → Int32)) (x4_works : (Nat → Int32)) (x4_coin : (Nat → Int32)) (z2 : Int32) (z3 : Int32) (z4 : (Nat → Int32)) (z5 : (Nat → Int32)) (z6 : (Nat → Int32)) (z7 : (Nat → Int32)) (z8 : (Nat → Int32)) (z9 : (Nat → Int32)) (z10 : Int32) (z11 : Int32) (z12 : Int32) (z13 : Int32) (z14 : Int32) (z15 : Int32) (z16 : (Nat → Int32)) (z17 : (Nat → Int32)) (z18 : (Nat → Int32)) (z19 : (Nat → Int32)) (z20 : (Nat → Int32)) (z21 : Int32) (z22 : Int32) (z23 : (Nat → Int32)) (z24 : (Nat → Int32)) (z25 : (Nat → Int32)) (z26 : Int32) : Option ((Int32 × Int32 × (Nat → Int32) × (Nat → Int32) × (Nat → Int32) × (Nat → Int32) × (Nat → Int32) × (Nat → Int32) × Int32 × Int32 × Int32 × Int32 × Int32 × Int32 × (Nat → Int32) × (Nat → Int32) × (Nat → Int32) × (Nat → Int32) × (Nat → Int32) × Int32 × Int32 × (Nat → Int32) × (Nat → Int32) × (Nat → Int32) × Int32) ⊕ (Int32 × (Nat → Int32) × (Nat → Int32) × (Nat → Int32) × (Nat → Int32) × (Nat → Int32) × (Nat → Int32) × Int32 × Int32 × Int32 × Int32 × Int32 × Int32 × (Nat → Int32) × (Nat → Int32) × (Nat → Int32) × (Nat → Int32) × (Nat → Int32) × Int32 × Int32 × (Nat → Int32) × (Nat → Int32) × (Nat → Int32) × Int32)) :=
  if x4_workCount ≤ z3 then (some (.inr (z2, z4, z5, z6, z7, z8, z9, z10, z11, z12, z13, z14, z15, z16, z17, z18, z19, z20, z21, z22, z23, z24, z25, z26))) else ((fX1_isDone (z22, x4_goodsCount, x4_workCount, x4_years, z23, x4_goods, x4_works, z24, x4_coin, z25, z26) z3).bind (fun v52 => if v52 = 0 then ((fX0_alwaysCostsMore n x0_gained (x1_left, x1_earned, x1_turnCost, x1_turnWayless) (z4, z5, z6, z7, z8, z9, x2_steps, x2_nodes, x2_stepCount, x2_open, x2_openCount, x2_seen, z10, z11) (z12, z13, z14, z15, z16, z17, z18, z19, z20, x3_knownFree, z21) (z22, x4_goodsCount, x4_workCount, x4_years, z23, x4_goods, x4_works, z24, x4_coin, z25, z26) z3).bind (u4 fun v54 G55 G64 G75 => u8 (fun g56 g57 g58 g59 g60 g61 g62 g63 => u10 (fun g65 g66 g67 g68 g69 g70 g71 g72 g73 g74 => u5 (fun g76 g77 g78 g79 g80 => if v54 = 0 then (some (.inl (z2, (z3 + 1), g56, g57, g58, g59, g60, g61, g62, g63, g65, g66, g67, g68, g69, g70, g71, g72, g73, g74, g76, g77, g78, g79, g80))) else ((some (z2 ||| ((1 : Int32) <<< (z3 &&& 31)))).bind fun t82 => some (.inl (t82, (z3 + 1), g56, g57, g58, g59, g60, g61, g62, g63, g65, g66, g67, g68, g69, g70, g71, g72, g73, g74, g76, g77, g78, g79, g80)))) G75) G64) G55)) else (some (.inl (z2, (z3 + 1), z4, z5, z6, z7, z8, z9, z10, z11, z12, z13, z14, z15, z16, z17, z18, z19, z20, z21, z22, z23, z24, z25, z26)))))
def fX0_neverOf (n : Nat) (X0 : ChT) (X1 : TrT) (X2 : WyT) (X3 : LdT) (X4 : LdT) : Option (Int32 × ((Nat → Int32) × (Nat → Int32) × (Nat → Int32) × (Nat → Int32) × (Nat → Int32) × (Nat → Int32) × Int32 × Int32) × (Int32 × Int32 × Int32 × Int32 × (Nat → Int32) × (Nat → Int32) × (Nat → Int32) × (Nat → Int32) × (Nat → Int32) × Int32) × (Int32 × (Nat → Int32) × (Nat → Int32) × (Nat → Int32) × Int32)) :=
  (fun (x0_gained : (Nat → Int32)) => u4 (fun (x1_left : (Nat → Int32)) (x1_earned : (Nat → Int32)) (x1_turnCost : Int32) (x1_turnWayless : Int32) => u14 (fun (x2_edgeA : (Nat → Int32)) (x2_edgeB : (Nat → Int32)) (x2_edgeCost : (Nat → Int32)) (x2_edgeLine : (Nat → Int32)) (x2_change : (Nat → Int32)) (x2_away : (Nat → Int32)) (x2_steps : (Nat → Int32)) (x2_nodes : (Nat → Int32)) (x2_stepCount : Int32) (x2_open : (Nat → Int32)) (x2_openCount : Int32) (x2_seen : Int64) (x2_edgeCount : Int32) (x2_aim : Int32) => u11 (fun (x3_lineCount : Int32) (x3_goodsCount : Int32) (x3_workCount : Int32) (x3_years : Int32) (x3_lines : (Nat → Int32)) (x3_goods : (Nat → Int32)) (x3_works : (Nat → Int32)) (x3_change : (Nat → Int32)) (x3_coin : (Nat → Int32)) (x3_knownFree : (Nat → Int32)) (x3_isKnown : Int32) => u11 (fun (x4_lineCount : Int32) (x4_goodsCount : Int32) (x4_workCount : Int32) (x4_years : Int32) (x4_lines : (Nat → Int32)) (x4_goods : (Nat → Int32)) (x4_works : (Nat → Int32)) (x4_change : (Nat → Int32)) (x4_coin : (Nat → Int32)) (x4_knownFree : (Nat → Int32)) (x4_isKnown : Int32) => (lp (u25 (fX0_neverOf_s4 n x0_gained x1_left x1_earned x1_turnCost x1_turnWayless x2_steps x2_nodes x2_stepCount x2_open x2_openCount x2_seen x3_knownFree x4_goodsCount x4_workCount x4_years x4_goods x4_works x4_coin)) n (0, 0, x2_edgeA, x2_edgeB, x2_edgeCost, x2_edgeLine, x2_change, x2_away, x2_edgeCount, x2_aim, x3_lineCount, x3_goodsCount, x3_workCount, x3_years, x3_lines, x3_goods, x3_works, x3_change, x3_coin, x3_isKnown, x4_lineCount, x4_lines, x4_change, x4_knownFree, x4_isKnown)).bind (u24 fun w28 w29 w30 w31 w32 w33 w34 w35 w36 w37 w38 w39 w40 w41 w42 w43 w44 w45 w46 w47 w48 w49 w50 w51 => some (w28, (w29, w30, w31, w32, w33, w34, w35, w36), (w37, w38, w39, w40, w41, w42, w43, w44, w45, w46), (w47, w48, w49, w50, w51)))) X4) X3) X2) X1) X0
set_option maxHeartbeats 4000000 in
set_option maxRecDepth 100000 in
theorem kX0_neverOf (l : Launch) (d : DT) (h0 : Nat → Nat) (a0_after : Nat) (h1 : Nat → Nat) (h2 : Nat → Nat) (h3 : Nat → Nat) (h4 : Nat → Nat) (n : Nat) (x0_gained : (Nat → Int32)) (x1_left : (Nat → Int32)) (x1_earned : (Nat → Int32)) (x1_turnCost : Int32) (x1_turnWayless : Int32) (x2_edgeA : (Nat → Int32)) (x2_edgeB : (Nat → Int32)) (x2_edgeCost : (Nat → Int32)) (x2_edgeLine : (Nat → Int32)) (x2_change : (Nat → Int32)) (x2_away : (Nat → Int32)) (x2_steps : (Nat → Int32)) (x2_nodes : (Nat → Int32)) (x2_stepCount : Int32) (x2_open : (Nat → Int32)) (x2_openCount : Int32) (x2_seen : Int64) (x2_edgeCount : Int32) (x2_aim : Int32) (x3_lineCount : Int32) (x3_goodsCount : Int32) (x3_workCount : Int32) (x3_years : Int32) (x3_lines : (Nat → Int32)) (x3_goods : (Nat → Int32)) (x3_works : (Nat → Int32)) (x3_change : (Nat → Int32)) (x3_coin : (Nat → Int32)) (x3_knownFree : (Nat → Int32)) (x3_isKnown : Int32) (x4_lineCount : Int32) (x4_goodsCount : Int32) (x4_workCount : Int32) (x4_years : Int32) (x4_lines : (Nat → Int32)) (x4_goods : (Nat → Int32)) (x4_works : (Nat → Int32)) (x4_change : (Nat → Int32)) (x4_coin : (Nat → Int32)) (x4_knownFree : (Nat → Int32)) (x4_isKnown : Int32)  {out : Int32 × ((Nat → Int32) × (Nat → Int32) × (Nat → Int32) × (Nat → Int32) × (Nat → Int32) × (Nat → Int32) × Int32 × Int32) × (Int32 × Int32 × Int32 × Int32 × (Nat → Int32) × (Nat → Int32) × (Nat → Int32) × (Nat → Int32) × (Nat → Int32) × Int32) × (Int32 × (Nat → Int32) × (Nat → Int32) × (Nat → Int32) × Int32)} (hf : fX0_neverOf n x0_gained (x1_left, x1_earned, x1_turnCost, x1_turnWayless) (x2_edgeA, x2_edgeB, x2_edgeCost, x2_edgeLine, x2_change, x2_away, x2_steps, x2_nodes, x2_stepCount, x2_open, x2_openCount, x2_seen, x2_edgeCount, x2_aim) (x3_lineCount, x3_goodsCount, x3_workCount, x3_years, x3_lines, x3_goods, x3_works, x3_change, x3_coin, x3_knownFree, x3_isKnown) (x4_lineCount, x4_goodsCount, x4_workCount, x4_years, x4_lines, x4_goods, x4_works, x4_change, x4_coin, x4_knownFree, x4_isKnown) = some out) : Ct l d yX0_neverOf cX0_neverOf 4 (some .int) { frames := 6, cells := 0, slots := 0, locals := 151 } [.ref (h0 0), .ref (h4 0)] [gCh d h0 (h1 0) a0_after (h3 0) x0_gained, gTr d h1 (h2 0) x1_left x1_earned x1_turnCost x1_turnWayless, gWy d h2 x2_edgeA x2_edgeB x2_edgeCost x2_edgeLine x2_change x2_away x2_steps x2_nodes x2_stepCount x2_open x2_openCount x2_seen x2_edgeCount x2_aim, gLd d h3 x3_lineCount x3_goodsCount x3_workCount x3_years x3_lines x3_goods x3_works x3_change x3_coin x3_knownFree x3_isKnown, gLd d h4 x4_lineCount x4_goodsCount x4_workCount x4_years x4_lines x4_goods x4_works x4_change x4_coin x4_knownFree x4_isKnown] (fun _ : Unit => (some (.int out.1), [gCh d h0 (h1 0) a0_after (h3 0) x0_gained, gTr d h1 (h2 0) x1_left x1_earned x1_turnCost x1_turnWayless, gWy d h2 (out.2.1.1) (out.2.1.2.1) (out.2.1.2.2.1) (out.2.1.2.2.2.1) (out.2.1.2.2.2.2.1) (out.2.1.2.2.2.2.2.1) x2_steps x2_nodes x2_stepCount x2_open x2_openCount x2_seen (out.2.1.2.2.2.2.2.2.1) (out.2.1.2.2.2.2.2.2.2), gLd d h3 (out.2.2.1.1) (out.2.2.1.2.1) (out.2.2.1.2.2.1) (out.2.2.1.2.2.2.1) (out.2.2.1.2.2.2.2.1) (out.2.2.1.2.2.2.2.2.1) (out.2.2.1.2.2.2.2.2.2.1) (out.2.2.1.2.2.2.2.2.2.2.1) (out.2.2.1.2.2.2.2.2.2.2.2.1) x3_knownFree (out.2.2.1.2.2.2.2.2.2.2.2.2), gLd d h4 (out.2.2.2.1) x4_goodsCount x4_workCount x4_years (out.2.2.2.2.1) x4_goods x4_works (out.2.2.2.2.2.1) x4_coin (out.2.2.2.2.2.2.1) (out.2.2.2.2.2.2.2)])) := by
  refine Ct.of (by decide) (Nat.le_of_ble_eq_true rfl) ?_
  intro Φ hl hK hR
  subst hl
  have hK : Ok d Φ RX0 "neverOf" cX0_neverOf 4 (some .int) { frames := 6, cells := 0, slots := 0, locals := 151 } := hK
  unfold fX0_neverOf at hf
  have hf := un4 hf
  have hf := un14 hf
  have hf := un11 hf
  have hf := un11 hf
  show J d Φ 4 [gCh d h0 (h1 0) a0_after (h3 0) x0_gained, gTr d h1 (h2 0) x1_left x1_earned x1_turnCost x1_turnWayless, gWy d h2 x2_edgeA x2_edgeB x2_edgeCost x2_edgeLine x2_change x2_away x2_steps x2_nodes x2_stepCount x2_open x2_openCount x2_seen x2_edgeCount x2_aim, gLd d h3 x3_lineCount x3_goodsCount x3_workCount x3_years x3_lines x3_goods x3_works x3_change x3_coin x3_knownFree x3_isKnown, gLd d h4 x4_lineCount x4_goodsCount x4_workCount x4_years x4_lines x4_goods x4_works x4_change x4_coin x4_knownFree x4_isKnown] 0 0 0 [(0, .ref (h0 0)), (1, .ref (h4 0))] []
  refine J_iconst (v := 0) hK dX0_neverOf_0 rfl (by decide) ?_
  refine J_istore_n (L' := [(2, .int (0)), (0, .ref (h0 0)), (1, .ref (h4 0))]) hK dX0_neverOf_1 rfl rfl (by decide) rfl ?_
  refine J_iconst (v := 0) hK dX0_neverOf_2 rfl (by decide) ?_
  refine J_istore_n (L' := [(3, .int (0)), (2, .int (0)), (0, .ref (h0 0)), (1, .ref (h4 0))]) hK dX0_neverOf_3 rfl rfl (by decide) rfl ?_
  obtain ⟨e27, hl1, hf⟩ := bs hf
  have hx1_41 : ∀ (w28 : Int32) (w29 : (Nat → Int32)) (w30 : (Nat → Int32)) (w31 : (Nat → Int32)) (w32 : (Nat → Int32)) (w33 : (Nat → Int32)) (w34 : (Nat → Int32)) (w35 : Int32) (w36 : Int32) (w37 : Int32) (w38 : Int32) (w39 : Int32) (w40 : Int32) (w41 : (Nat → Int32)) (w42 : (Nat → Int32)) (w43 : (Nat → Int32)) (w44 : (Nat → Int32)) (w45 : (Nat → Int32)) (w46 : Int32) (w47 : Int32) (w48 : (Nat → Int32)) (w49 : (Nat → Int32)) (w50 : (Nat → Int32)) (w51 : Int32), (w28, w29, w30, w31, w32, w33, w34, w35, w36, w37, w38, w39, w40, w41, w42, w43, w44, w45, w46, w47, w48, w49, w50, w51) = e27 → J d Φ 4 [gCh d h0 (h1 0) a0_after (h3 0) x0_gained, gTr d h1 (h2 0) x1_left x1_earned x1_turnCost x1_turnWayless, gWy d h2 w29 w30 w31 w32 w33 w34 x2_steps x2_nodes x2_stepCount x2_open x2_openCount x2_seen w35 w36, gLd d h3 w37 w38 w39 w40 w41 w42 w43 w44 w45 x3_knownFree w46, gLd d h4 w47 x4_goodsCount x4_workCount x4_years w48 x4_goods x4_works w49 x4_coin w50 w51] 0 0 41 [(2, .int w28)] [] := by
    intro w28 w29 w30 w31 w32 w33 w34 w35 w36 w37 w38 w39 w40 w41 w42 w43 w44 w45 w46 w47 w48 w49 w50 w51 he
    rw [← he] at hf
    have hf := un24 hf
    refine J_iload_n hK dX0_neverOf_41 rfl 0 rfl rfl ?_
    obtain rfl := Option.some.inj hf
    exact J_iret hK hR dX0_neverOf_42 () rfl (by decide) (by decide)
  have lo1 : ∀ (k : Nat) (z2 : Int32) (z3 : Int32) (z4 : (Nat → Int32)) (z5 : (Nat → Int32)) (z6 : (Nat → Int32)) (z7 : (Nat → Int32)) (z8 : (Nat → Int32)) (z9 : (Nat → Int32)) (z10 : Int32) (z11 : Int32) (z12 : Int32) (z13 : Int32) (z14 : Int32) (z15 : Int32) (z16 : (Nat → Int32)) (z17 : (Nat → Int32)) (z18 : (Nat → Int32)) (z19 : (Nat → Int32)) (z20 : (Nat → Int32)) (z21 : Int32) (z22 : Int32) (z23 : (Nat → Int32)) (z24 : (Nat → Int32)) (z25 : (Nat → Int32)) (z26 : Int32), lp (u25 (fX0_neverOf_s4 n x0_gained x1_left x1_earned x1_turnCost x1_turnWayless x2_steps x2_nodes x2_stepCount x2_open x2_openCount x2_seen x3_knownFree x4_goodsCount x4_workCount x4_years x4_goods x4_works x4_coin)) k (z2, z3, z4, z5, z6, z7, z8, z9, z10, z11, z12, z13, z14, z15, z16, z17, z18, z19, z20, z21, z22, z23, z24, z25, z26) = some e27 → J d Φ 4 [gCh d h0 (h1 0) a0_after (h3 0) x0_gained, gTr d h1 (h2 0) x1_left x1_earned x1_turnCost x1_turnWayless, gWy d h2 z4 z5 z6 z7 z8 z9 x2_steps x2_nodes x2_stepCount x2_open x2_openCount x2_seen z10 z11, gLd d h3 z12 z13 z14 z15 z16 z17 z18 z19 z20 x3_knownFree z21, gLd d h4 z22 x4_goodsCount x4_workCount x4_years z23 x4_goods x4_works z24 x4_coin z25 z26] 0 0 4 [(0, .ref (h0 0)), (1, .ref (h4 0)), (2, .int z2), (3, .int z3)] [] := by
    intro k
    induction k with
    | zero => intro z2 z3 z4 z5 z6 z7 z8 z9 z10 z11 z12 z13 z14 z15 z16 z17 z18 z19 z20 z21 z22 z23 z24 z25 z26 h; cases h
    | succ k ih1 =>
      intro z2 z3 z4 z5 z6 z7 z8 z9 z10 z11 z12 z13 z14 z15 z16 z17 z18 z19 z20 z21 z22 z23 z24 z25 z26 h
      obtain ⟨k2, rr1, hk2, hs1, hr1⟩ := lp_ok h
      cases hk2
      have hs1 : fX0_neverOf_s4 n x0_gained x1_left x1_earned x1_turnCost x1_turnWayless x2_steps x2_nodes x2_stepCount x2_open x2_openCount x2_seen x3_knownFree x4_goodsCount x4_workCount x4_years x4_goods x4_works x4_coin z2 z3 z4 z5 z6 z7 z8 z9 z10 z11 z12 z13 z14 z15 z16 z17 z18 z19 z20 z21 z22 z23 z24 z25 z26 = some rr1 := hs1
      unfold fX0_neverOf_s4 at hs1
      refine J_iload_n hK dX0_neverOf_4 rfl 3 rfl rfl ?_
      refine J_aload_n hK dX0_neverOf_5 rfl 1 rfl rfl ?_
      refine J_get hK fo_RX0_44 dX0_neverOf_6 rfl 4 0 rfl rfl rfl ?_
      refine J_icmp_ge (tg := 41) hK dX0_neverOf_9 rfl rfl (fun hc9 => ?_) (fun hc9 => ?_)
      · have hs1 := ip hc9 hs1
        exact J_loc [2] rfl (hx1_41 z2 z4 z5 z6 z7 z8 z9 z10 z11 z12 z13 z14 z15 z16 z17 z18 z19 z20 z21 z22 z23 z24 z25 z26 (lpx hs1 hr1))
      · have hs1 := iq hc9 hs1
        refine J_aload_n hK dX0_neverOf_12 rfl 1 rfl rfl ?_
        refine J_iload_n hK dX0_neverOf_13 rfl 3 rfl rfl ?_
        obtain ⟨v52, e53, hs1⟩ := bs hs1
        refine J_callV (m' := 5) (ce' := 0) (sl' := 0) (gr := [gCh d h0 (h1 0) a0_after (h3 0) x0_gained, gTr d h1 (h2 0) x1_left x1_earned x1_turnCost x1_turnWayless, gWy d h2 z4 z5 z6 z7 z8 z9 x2_steps x2_nodes x2_stepCount x2_open x2_openCount x2_seen z10 z11, gLd d h3 z12 z13 z14 z15 z16 z17 z18 z19 z20 x3_knownFree z21]) (gs' := fun _ => [gCh d h0 (h1 0) a0_after (h3 0) x0_gained, gTr d h1 (h2 0) x1_left x1_earned x1_turnCost x1_turnWayless, gWy d h2 z4 z5 z6 z7 z8 z9 x2_steps x2_nodes x2_stepCount x2_open x2_openCount x2_seen z10 z11, gLd d h3 z12 z13 z14 z15 z16 z17 z18 z19 z20 x3_knownFree z21, gLd d h4 z22 x4_goodsCount x4_workCount x4_years z23 x4_goods x4_works z24 x4_coin z25 z26]) (st' := fun _ => [.int v52]) (st := []) hK dX0_neverOf_14 cv_RX0_69 iv_yX1_isDone (As := [.int z3]) (kX1_isDone _ d h4 z22 x4_goodsCount x4_workCount x4_years z23 x4_goods x4_works z24 x4_coin z25 z26 z3 e53) rfl rfl (Nat.le_of_ble_eq_true rfl) (by decide) 4 0 rfl rfl rfl [4] [0, 1, 2, 3] rfl rfl rfl rfl [0, 1, 2, 3, 4] rfl (fun _ => rfl) (fun _ => rfl) rfl rfl rfl (fun _ => rfl) (fun _ => ?_)
        refine J_if_ne (tg := 35) hK dX0_neverOf_17 rfl rfl (fun hc17 => ?_) (fun hc17 => ?_)
        · have hs1 := iq hc17 hs1
          refine J_iinc (L' := [(3, .int (z3 + 1)), (0, .ref (h0 0)), (1, .ref (h4 0)), (2, .int z2)]) (v := (z3 + 1)) hK dX0_neverOf_35 rfl 3 rfl rfl (by decide) rfl ?_
          refine J_goto hK dX0_neverOf_38 (n := 4) rfl ?_
          exact J_loc [1, 2, 3, 0] rfl (ih1 z2 (z3 + 1) z4 z5 z6 z7 z8 z9 z10 z11 z12 z13 z14 z15 z16 z17 z18 z19 z20 z21 z22 z23 z24 z25 z26 (lpc hs1 hr1))
        · have hs1 := ip hc17 hs1
          refine J_aload_n hK dX0_neverOf_20 rfl 0 rfl rfl ?_
          refine J_aload_n hK dX0_neverOf_21 rfl 1 rfl rfl ?_
          refine J_iload_n hK dX0_neverOf_22 rfl 3 rfl rfl ?_
          obtain ⟨⟨v54, ⟨g56, g57, g58, g59, g60, g61, g62, g63⟩, ⟨g65, g66, g67, g68, g69, g70, g71, g72, g73, g74⟩, ⟨g76, g77, g78, g79, g80⟩⟩, e81, hs1⟩ := bs hs1
          have hs1 := un4 hs1
          have hs1 := un8 hs1
          have hs1 := un10 hs1
          have hs1 := un5 hs1
          refine J_callV (m' := 5) (ce' := 0) (sl' := 0) (gr := []) (gs' := fun _ => [gCh d h0 (h1 0) a0_after (h3 0) x0_gained, gTr d h1 (h2 0) x1_left x1_earned x1_turnCost x1_turnWayless, gWy d h2 g56 g57 g58 g59 g60 g61 x2_steps x2_nodes x2_stepCount x2_open x2_openCount x2_seen g62 g63, gLd d h3 g65 g66 g67 g68 g69 g70 g71 g72 g73 x3_knownFree g74, gLd d h4 g76 x4_goodsCount x4_workCount x4_years g77 x4_goods x4_works g78 x4_coin g79 g80]) (st' := fun _ => [.int v54]) (st := []) hK dX0_neverOf_23 cv_RX0_91 iv_yX0_alwaysCostsMore (As := [.ref (h4 0), .int z3]) (kX0_alwaysCostsMore _ d h0 a0_after h1 h2 h3 h4 n x0_gained x1_left x1_earned x1_turnCost x1_turnWayless z4 z5 z6 z7 z8 z9 x2_steps x2_nodes x2_stepCount x2_open x2_openCount x2_seen z10 z11 z12 z13 z14 z15 z16 z17 z18 z19 z20 x3_knownFree z21 z22 x4_goodsCount x4_workCount x4_years z23 x4_goods x4_works z24 x4_coin z25 z26 z3 e81) rfl rfl (Nat.le_of_ble_eq_true rfl) (by decide) 0 0 rfl rfl rfl [0, 1, 2, 3, 4] [] rfl rfl rfl rfl [0, 1, 2, 3, 4] rfl (fun _ => rfl) (fun _ => rfl) rfl rfl rfl (fun _ => rfl) (fun _ => ?_)
          refine J_if_eq (tg := 35) hK dX0_neverOf_26 rfl rfl (fun hc26 => ?_) (fun hc26 => ?_)
          · have hs1 := ip hc26 hs1
            refine J_iinc (L' := [(3, .int (z3 + 1)), (0, .ref (h0 0)), (1, .ref (h4 0)), (2, .int z2)]) (v := (z3 + 1)) hK dX0_neverOf_35 rfl 3 rfl rfl (by decide) rfl ?_
            refine J_goto hK dX0_neverOf_38 (n := 4) rfl ?_
            exact J_loc [1, 2, 3, 0] rfl (ih1 z2 (z3 + 1) g56 g57 g58 g59 g60 g61 g62 g63 g65 g66 g67 g68 g69 g70 g71 g72 g73 g74 g76 g77 g78 g79 g80 (lpc hs1 hr1))
          · have hs1 := iq hc26 hs1
            refine J_iload_n hK dX0_neverOf_29 rfl 2 rfl rfl ?_
            refine J_iconst (v := 1) hK dX0_neverOf_30 rfl (by decide) ?_
            refine J_iload_n hK dX0_neverOf_31 rfl 3 rfl rfl ?_
            refine J_ishl hK dX0_neverOf_32 rfl ?_
            refine J_ior hK dX0_neverOf_33 rfl ?_
            obtain ⟨t82, et82, hs1⟩ := bs hs1
            refine J_nmi et82 ?_
            refine J_istore_n (L' := [(2, .int t82), (0, .ref (h0 0)), (1, .ref (h4 0)), (3, .int z3)]) hK dX0_neverOf_34 rfl rfl (by decide) rfl ?_
            refine J_iinc (L' := [(3, .int (z3 + 1)), (2, .int t82), (0, .ref (h0 0)), (1, .ref (h4 0))]) (v := (z3 + 1)) hK dX0_neverOf_35 rfl 3 rfl rfl (by decide) rfl ?_
            refine J_goto hK dX0_neverOf_38 (n := 4) rfl ?_
            exact J_loc [2, 3, 1, 0] rfl (ih1 t82 (z3 + 1) g56 g57 g58 g59 g60 g61 g62 g63 g65 g66 g67 g68 g69 g70 g71 g72 g73 g74 g76 g77 g78 g79 g80 (lpc hs1 hr1))
  exact J_loc [2, 3, 1, 0] rfl (lo1 n (0) (0) x2_edgeA x2_edgeB x2_edgeCost x2_edgeLine x2_change x2_away x2_edgeCount x2_aim x3_lineCount x3_goodsCount x3_workCount x3_years x3_lines x3_goods x3_works x3_change x3_coin x3_isKnown x4_lineCount x4_lines x4_change x4_knownFree x4_isKnown hl1)

def fX0_costOfWidth_j62 (p2 : Int32) (x3_knownFree : (Nat → Int32)) (g2 : Int32) (g3 : Int32) (g4 : Int32) (g5 : Int32) (g7 : (Nat → Int32)) (g8 : (Nat → Int32)) (g9 : (Nat → Int32)) (g10 : (Nat → Int32)) (z15 : Int32) (z16 : (Nat → Int32)) (z17 : Int32) (y39 : Int32) : Option ((Int32 × Int32 × (Nat → Int32) × Int32) ⊕ (Int32 × (Nat → Int32) × Int32)) :=
  (fX1_putWidths (g2, g3, g4, g5, z16, g7, g8, g9, g10, x3_knownFree, z17) z15 ((1 : Int32) <<< (p2 &&& 31))).bind (u2 fun g40 g41 => some (.inl (y39, (z15 + 1), g40, g41)))
def fX0_costOfWidth_s14 (p2 : Int32) (p3 : Int32) (x3_knownFree : (Nat → Int32)) (x4_lineCount : Int32) (x4_goodsCount : Int32) (x4_workCount : Int32) (x4_years : Int32) (x4_lines : (Nat → Int32)) (x4_goods : (Nat → Int32)) (x4_works : (Nat → Int32)) (x4_change : (Nat → Int32)) (x4_coin : (Nat → Int32)) (x4_knownFree : (Nat → Int32)) (x4_isKnown : Int32) (g2 : Int32) (g3 : Int32) (g4 : Int32) (g5 : Int32) (g7 : (Nat → Int32)) (g8 : (Nat → Int32)) (g9 : (Nat → Int32)) (g10 : (Nat → Int32)) (z14 : Int32) (z15 : Int32) (z16 : (Nat → Int32)) (z17 : Int32) : Option ((Int32 × Int32 × (Nat → Int32) × Int32) ⊕ (Int32 × (Nat → Int32) × Int32)) :=
  if x4_lineCount ≤ z15 then (some (.inr (z14, z16, z17))) else ((fX1_ofLine (x4_lineCount, x4_goodsCount, x4_workCount, x4_years, x4_lines, x4_goods, x4_works, x4_change, x4_coin, x4_knownFree, x4_isKnown) z15 (6)).bind (fun v35 => if v35 = 0 then ((fX1_ofLine (x4_lineCount, x4_goodsCount, x4_workCount, x4_years, x4_lines, x4_goods, x4_works, x4_change, x4_coin, x4_knownFree, x4_isKnown) z15 (2)).bind (fun v37 => if ((v37 >>> (p2 &&& 31)) &&& 1) = 0 then ((fX1_ofLine (x4_lineCount, x4_goodsCount, x4_workCount, x4_years, x4_lines, x4_goods, x4_works, x4_change, x4_coin, x4_knownFree, x4_isKnown) z15 (3)).bind (fun v43 => fX0_costOfWidth_j62 p2 x3_knownFree g2 g3 g4 g5 g7 g8 g9 g10 z15 z16 z17 (z14 + (p3 * v43)))) else (fX0_costOfWidth_j62 p2 x3_knownFree g2 g3 g4 g5 g7 g8 g9 g10 z15 z16 z17 z14))) else (some (.inl (z14, (z15 + 1), z16, z17)))))
def fX0_costOfWidth (n : Nat) (X0 : ChT) (X1 : TrT) (X2 : WyT) (X3 : LdT) (X4 : LdT) (p2 : Int32) (p3 : Int32) : Option (Int32 × ((Nat → Int32) × (Nat → Int32) × (Nat → Int32) × (Nat → Int32) × (Nat → Int32) × (Nat → Int32) × Int32 × Int32) × (Int32 × Int32 × Int32 × Int32 × (Nat → Int32) × (Nat → Int32) × (Nat → Int32) × (Nat → Int32) × (Nat → Int32) × Int32)) :=
  (fun (x0_gained : (Nat → Int32)) => u4 (fun (x1_left : (Nat → Int32)) (x1_earned : (Nat → Int32)) (x1_turnCost : Int32) (x1_turnWayless : Int32) => u14 (fun (x2_edgeA : (Nat → Int32)) (x2_edgeB : (Nat → Int32)) (x2_edgeCost : (Nat → Int32)) (x2_edgeLine : (Nat → Int32)) (x2_change : (Nat → Int32)) (x2_away : (Nat → Int32)) (x2_steps : (Nat → Int32)) (x2_nodes : (Nat → Int32)) (x2_stepCount : Int32) (x2_open : (Nat → Int32)) (x2_openCount : Int32) (x2_seen : Int64) (x2_edgeCount : Int32) (x2_aim : Int32) => u11 (fun (x3_lineCount : Int32) (x3_goodsCount : Int32) (x3_workCount : Int32) (x3_years : Int32) (x3_lines : (Nat → Int32)) (x3_goods : (Nat → Int32)) (x3_works : (Nat → Int32)) (x3_change : (Nat → Int32)) (x3_coin : (Nat → Int32)) (x3_knownFree : (Nat → Int32)) (x3_isKnown : Int32) => u11 (fun (x4_lineCount : Int32) (x4_goodsCount : Int32) (x4_workCount : Int32) (x4_years : Int32) (x4_lines : (Nat → Int32)) (x4_goods : (Nat → Int32)) (x4_works : (Nat → Int32)) (x4_change : (Nat → Int32)) (x4_coin : (Nat → Int32)) (x4_knownFree : (Nat → Int32)) (x4_isKnown : Int32) => (fX1_take (x3_lineCount, x3_goodsCount, x3_workCount, x3_years, x3_lines, x3_goods, x3_works, x3_change, x3_coin, x3_knownFree, x3_isKnown) (x4_lineCount, x4_goodsCount, x4_workCount, x4_years, x4_lines, x4_goods, x4_works, x4_change, x4_coin, x4_knownFree, x4_isKnown)).bind (fun G1 => u10 (fun g2 g3 g4 g5 g6 g7 g8 g9 g10 g11 => (lp (u4 (fX0_costOfWidth_s14 p2 p3 x3_knownFree x4_lineCount x4_goodsCount x4_workCount x4_years x4_lines x4_goods x4_works x4_change x4_coin x4_knownFree x4_isKnown g2 g3 g4 g5 g7 g8 g9 g10)) n (0, 0, g6, g11)).bind (u3 fun w19 w20 w21 => (fX1_linesThere n (g2, g3, g4, g5, w20, g7, g8, g9, g10, x3_knownFree, w21)).bind (fun v22 => (fX4_freeBy n (x1_left, x1_earned, x1_turnCost, x1_turnWayless) (x2_edgeA, x2_edgeB, x2_edgeCost, x2_edgeLine, x2_change, x2_away, x2_steps, x2_nodes, x2_stepCount, x2_open, x2_openCount, x2_seen, x2_edgeCount, x2_aim) (g2, g3, g4, g5, w20, g7, g8, g9, g10, x3_knownFree, w21) v22).bind (u2 fun v24 G25 => u8 (fun g26 g27 g28 g29 g30 g31 g32 g33 => some ((w19 + (x4_years * v24)), (g26, g27, g28, g29, g30, g31, g32, g33), (g2, g3, g4, g5, w20, g7, g8, g9, g10, w21))) G25)))) G1)) X4) X3) X2) X1) X0
set_option maxHeartbeats 4000000 in
set_option maxRecDepth 100000 in
theorem kX0_costOfWidth (l : Launch) (d : DT) (h0 : Nat → Nat) (a0_after : Nat) (h1 : Nat → Nat) (h2 : Nat → Nat) (h3 : Nat → Nat) (h4 : Nat → Nat) (n : Nat) (x0_gained : (Nat → Int32)) (x1_left : (Nat → Int32)) (x1_earned : (Nat → Int32)) (x1_turnCost : Int32) (x1_turnWayless : Int32) (x2_edgeA : (Nat → Int32)) (x2_edgeB : (Nat → Int32)) (x2_edgeCost : (Nat → Int32)) (x2_edgeLine : (Nat → Int32)) (x2_change : (Nat → Int32)) (x2_away : (Nat → Int32)) (x2_steps : (Nat → Int32)) (x2_nodes : (Nat → Int32)) (x2_stepCount : Int32) (x2_open : (Nat → Int32)) (x2_openCount : Int32) (x2_seen : Int64) (x2_edgeCount : Int32) (x2_aim : Int32) (x3_lineCount : Int32) (x3_goodsCount : Int32) (x3_workCount : Int32) (x3_years : Int32) (x3_lines : (Nat → Int32)) (x3_goods : (Nat → Int32)) (x3_works : (Nat → Int32)) (x3_change : (Nat → Int32)) (x3_coin : (Nat → Int32)) (x3_knownFree : (Nat → Int32)) (x3_isKnown : Int32) (x4_lineCount : Int32) (x4_goodsCount : Int32) (x4_workCount : Int32) (x4_years : Int32) (x4_lines : (Nat → Int32)) (x4_goods : (Nat → Int32)) (x4_works : (Nat → Int32)) (x4_change : (Nat → Int32)) (x4_coin : (Nat → Int32)) (x4_knownFree : (Nat → Int32)) (x4_isKnown : Int32) (p2 : Int32) (p3 : Int32)  {out : Int32 × ((Nat → Int32) × (Nat → Int32) × (Nat → Int32) × (Nat → Int32) × (Nat → Int32) × (Nat → Int32) × Int32 × Int32) × (Int32 × Int32 × Int32 × Int32 × (Nat → Int32) × (Nat → Int32) × (Nat → Int32) × (Nat → Int32) × (Nat → Int32) × Int32)} (hf : fX0_costOfWidth n x0_gained (x1_left, x1_earned, x1_turnCost, x1_turnWayless) (x2_edgeA, x2_edgeB, x2_edgeCost, x2_edgeLine, x2_change, x2_away, x2_steps, x2_nodes, x2_stepCount, x2_open, x2_openCount, x2_seen, x2_edgeCount, x2_aim) (x3_lineCount, x3_goodsCount, x3_workCount, x3_years, x3_lines, x3_goods, x3_works, x3_change, x3_coin, x3_knownFree, x3_isKnown) (x4_lineCount, x4_goodsCount, x4_workCount, x4_years, x4_lines, x4_goods, x4_works, x4_change, x4_coin, x4_knownFree, x4_isKnown) p2 p3 = some out) : Ct l d yX0_costOfWidth cX0_costOfWidth 6 (some .int) { frames := 3, cells := 0, slots := 0, locals := 77 } [.ref (h0 0), .ref (h4 0), .int p2, .int p3] [gCh d h0 (h1 0) a0_after (h3 0) x0_gained, gTr d h1 (h2 0) x1_left x1_earned x1_turnCost x1_turnWayless, gWy d h2 x2_edgeA x2_edgeB x2_edgeCost x2_edgeLine x2_change x2_away x2_steps x2_nodes x2_stepCount x2_open x2_openCount x2_seen x2_edgeCount x2_aim, gLd d h3 x3_lineCount x3_goodsCount x3_workCount x3_years x3_lines x3_goods x3_works x3_change x3_coin x3_knownFree x3_isKnown, gLd d h4 x4_lineCount x4_goodsCount x4_workCount x4_years x4_lines x4_goods x4_works x4_change x4_coin x4_knownFree x4_isKnown] (fun _ : Unit => (some (.int out.1), [gCh d h0 (h1 0) a0_after (h3 0) x0_gained, gTr d h1 (h2 0) x1_left x1_earned x1_turnCost x1_turnWayless, gWy d h2 (out.2.1.1) (out.2.1.2.1) (out.2.1.2.2.1) (out.2.1.2.2.2.1) (out.2.1.2.2.2.2.1) (out.2.1.2.2.2.2.2.1) x2_steps x2_nodes x2_stepCount x2_open x2_openCount x2_seen (out.2.1.2.2.2.2.2.2.1) (out.2.1.2.2.2.2.2.2.2), gLd d h3 (out.2.2.1) (out.2.2.2.1) (out.2.2.2.2.1) (out.2.2.2.2.2.1) (out.2.2.2.2.2.2.1) (out.2.2.2.2.2.2.2.1) (out.2.2.2.2.2.2.2.2.1) (out.2.2.2.2.2.2.2.2.2.1) (out.2.2.2.2.2.2.2.2.2.2.1) x3_knownFree (out.2.2.2.2.2.2.2.2.2.2.2), gLd d h4 x4_lineCount x4_goodsCount x4_workCount x4_years x4_lines x4_goods x4_works x4_change x4_coin x4_knownFree x4_isKnown])) := by
  refine Ct.of (by decide) (Nat.le_of_ble_eq_true rfl) ?_
  intro Φ hl hK hR
  subst hl
  have hK : Ok d Φ RX0 "costOfWidth" cX0_costOfWidth 6 (some .int) { frames := 3, cells := 0, slots := 0, locals := 77 } := hK
  unfold fX0_costOfWidth at hf
  have hf := un4 hf
  have hf := un14 hf
  have hf := un11 hf
  have hf := un11 hf
  show J d Φ 6 [gCh d h0 (h1 0) a0_after (h3 0) x0_gained, gTr d h1 (h2 0) x1_left x1_earned x1_turnCost x1_turnWayless, gWy d h2 x2_edgeA x2_edgeB x2_edgeCost x2_edgeLine x2_change x2_away x2_steps x2_nodes x2_stepCount x2_open x2_openCount x2_seen x2_edgeCount x2_aim, gLd d h3 x3_lineCount x3_goodsCount x3_workCount x3_years x3_lines x3_goods x3_works x3_change x3_coin x3_knownFree x3_isKnown, gLd d h4 x4_lineCount x4_goodsCount x4_workCount x4_years x4_lines x4_goods x4_works x4_change x4_coin x4_knownFree x4_isKnown] 0 0 0 [(0, .ref (h0 0)), (1, .ref (h4 0)), (2, .int p2), (3, .int p3)] []
  refine J_aload_n hK dX0_costOfWidth_0 rfl 0 rfl rfl ?_
  refine J_get hK fo_RX0_29 dX0_costOfWidth_1 rfl 0 0 rfl rfl rfl ?_
  refine J_aload_n hK dX0_costOfWidth_4 rfl 1 rfl rfl ?_
  obtain ⟨⟨g2, g3, g4, g5, g6, g7, g8, g9, g10, g11⟩, e12, hf⟩ := bs hf
  have hf := un10 hf
  refine J_callV (m' := 5) (ce' := 0) (sl' := 0) (gr := [gCh d h0 (h1 0) a0_after (h3 0) x0_gained, gTr d h1 (h2 0) x1_left x1_earned x1_turnCost x1_turnWayless, gWy d h2 x2_edgeA x2_edgeB x2_edgeCost x2_edgeLine x2_change x2_away x2_steps x2_nodes x2_stepCount x2_open x2_openCount x2_seen x2_edgeCount x2_aim]) (gs' := fun _ => [gCh d h0 (h1 0) a0_after (h3 0) x0_gained, gTr d h1 (h2 0) x1_left x1_earned x1_turnCost x1_turnWayless, gWy d h2 x2_edgeA x2_edgeB x2_edgeCost x2_edgeLine x2_change x2_away x2_steps x2_nodes x2_stepCount x2_open x2_openCount x2_seen x2_edgeCount x2_aim, gLd d h3 g2 g3 g4 g5 g6 g7 g8 g9 g10 x3_knownFree g11, gLd d h4 x4_lineCount x4_goodsCount x4_workCount x4_years x4_lines x4_goods x4_works x4_change x4_coin x4_knownFree x4_isKnown]) (st' := fun _ => []) (st := []) hK dX0_costOfWidth_5 cv_RX0_40 iv_yX1_take (As := [.ref (h4 0)]) (kX1_take _ d h3 h4 x3_lineCount x3_goodsCount x3_workCount x3_years x3_lines x3_goods x3_works x3_change x3_coin x3_knownFree x3_isKnown x4_lineCount x4_goodsCount x4_workCount x4_years x4_lines x4_goods x4_works x4_change x4_coin x4_knownFree x4_isKnown e12) rfl rfl (Nat.le_of_ble_eq_true rfl) (by decide) 3 0 rfl rfl rfl [3, 4] [0, 1, 2] rfl rfl rfl rfl [0, 1, 2, 3, 4] rfl (fun _ => rfl) (fun _ => rfl) rfl rfl rfl (fun _ => rfl) (fun _ => ?_)
  refine J_iconst (v := 0) hK dX0_costOfWidth_8 rfl (by decide) ?_
  refine J_istore (L' := [(4, .int (0)), (0, .ref (h0 0)), (1, .ref (h4 0)), (2, .int p2), (3, .int p3)]) hK dX0_costOfWidth_9 rfl (by decide) rfl ?_
  refine J_iconst (v := 0) hK dX0_costOfWidth_11 rfl (by decide) ?_
  refine J_istore (L' := [(5, .int (0)), (4, .int (0)), (0, .ref (h0 0)), (1, .ref (h4 0)), (2, .int p2), (3, .int p3)]) hK dX0_costOfWidth_12 rfl (by decide) rfl ?_
  obtain ⟨e18, hl13, hf⟩ := bs hf
  have hx13_80 : ∀ (w19 : Int32) (w20 : (Nat → Int32)) (w21 : Int32), (w19, w20, w21) = e18 → J d Φ 6 [gCh d h0 (h1 0) a0_after (h3 0) x0_gained, gTr d h1 (h2 0) x1_left x1_earned x1_turnCost x1_turnWayless, gWy d h2 x2_edgeA x2_edgeB x2_edgeCost x2_edgeLine x2_change x2_away x2_steps x2_nodes x2_stepCount x2_open x2_openCount x2_seen x2_edgeCount x2_aim, gLd d h3 g2 g3 g4 g5 w20 g7 g8 g9 g10 x3_knownFree w21, gLd d h4 x4_lineCount x4_goodsCount x4_workCount x4_years x4_lines x4_goods x4_works x4_change x4_coin x4_knownFree x4_isKnown] 0 0 80 [(0, .ref (h0 0)), (1, .ref (h4 0)), (4, .int w19)] [] := by
    intro w19 w20 w21 he
    rw [← he] at hf
    have hf := un3 hf
    refine J_iload hK dX0_costOfWidth_80 rfl 2 rfl ?_
    refine J_aload_n hK dX0_costOfWidth_82 rfl 1 rfl rfl ?_
    refine J_get hK fo_RX0_63 dX0_costOfWidth_83 rfl 4 0 rfl rfl rfl ?_
    refine J_aload_n hK dX0_costOfWidth_86 rfl 0 rfl rfl ?_
    refine J_get hK fo_RX0_12 dX0_costOfWidth_87 rfl 0 0 rfl rfl rfl ?_
    refine J_aload_n hK dX0_costOfWidth_90 rfl 0 rfl rfl ?_
    refine J_get hK fo_RX0_29 dX0_costOfWidth_91 rfl 0 0 rfl rfl rfl ?_
    refine J_aload_n hK dX0_costOfWidth_94 rfl 0 rfl rfl ?_
    refine J_get hK fo_RX0_29 dX0_costOfWidth_95 rfl 0 0 rfl rfl rfl ?_
    obtain ⟨v22, e23, hf⟩ := bs hf
    refine J_callV (m' := 5) (ce' := 0) (sl' := 0) (gr := [gCh d h0 (h1 0) a0_after (h3 0) x0_gained, gTr d h1 (h2 0) x1_left x1_earned x1_turnCost x1_turnWayless, gWy d h2 x2_edgeA x2_edgeB x2_edgeCost x2_edgeLine x2_change x2_away x2_steps x2_nodes x2_stepCount x2_open x2_openCount x2_seen x2_edgeCount x2_aim, gLd d h4 x4_lineCount x4_goodsCount x4_workCount x4_years x4_lines x4_goods x4_works x4_change x4_coin x4_knownFree x4_isKnown]) (gs' := fun _ => [gCh d h0 (h1 0) a0_after (h3 0) x0_gained, gTr d h1 (h2 0) x1_left x1_earned x1_turnCost x1_turnWayless, gWy d h2 x2_edgeA x2_edgeB x2_edgeCost x2_edgeLine x2_change x2_away x2_steps x2_nodes x2_stepCount x2_open x2_openCount x2_seen x2_edgeCount x2_aim, gLd d h3 g2 g3 g4 g5 w20 g7 g8 g9 g10 x3_knownFree w21, gLd d h4 x4_lineCount x4_goodsCount x4_workCount x4_years x4_lines x4_goods x4_works x4_change x4_coin x4_knownFree x4_isKnown]) (st' := fun _ => [.int v22, .ref (h3 0), .ref (h1 0), .int x4_years, .int w19]) (st := [.ref (h3 0), .ref (h1 0), .int x4_years, .int w19]) hK dX0_costOfWidth_98 cv_RX0_52 iv_yX1_linesThere (As := []) (kX1_linesThere _ d h3 n g2 g3 g4 g5 w20 g7 g8 g9 g10 x3_knownFree w21 e23) rfl rfl (Nat.le_of_ble_eq_true rfl) (by decide) 3 0 rfl rfl rfl [3] [0, 1, 2, 4] rfl rfl rfl rfl [0, 1, 2, 4, 3] rfl (fun _ => rfl) (fun _ => rfl) rfl rfl rfl (fun _ => rfl) (fun _ => ?_)
    obtain ⟨⟨v24, ⟨g26, g27, g28, g29, g30, g31, g32, g33⟩⟩, e34, hf⟩ := bs hf
    have hf := un2 hf
    have hf := un8 hf
    refine J_callV (m' := 5) (ce' := 0) (sl' := 0) (gr := [gCh d h0 (h1 0) a0_after (h3 0) x0_gained, gLd d h4 x4_lineCount x4_goodsCount x4_workCount x4_years x4_lines x4_goods x4_works x4_change x4_coin x4_knownFree x4_isKnown]) (gs' := fun _ => [gCh d h0 (h1 0) a0_after (h3 0) x0_gained, gTr d h1 (h2 0) x1_left x1_earned x1_turnCost x1_turnWayless, gWy d h2 g26 g27 g28 g29 g30 g31 x2_steps x2_nodes x2_stepCount x2_open x2_openCount x2_seen g32 g33, gLd d h3 g2 g3 g4 g5 w20 g7 g8 g9 g10 x3_knownFree w21, gLd d h4 x4_lineCount x4_goodsCount x4_workCount x4_years x4_lines x4_goods x4_works x4_change x4_coin x4_knownFree x4_isKnown]) (st' := fun _ => [.int v24, .int x4_years, .int w19]) (st := [.int x4_years, .int w19]) hK dX0_costOfWidth_101 cv_RX0_55 iv_yX4_freeBy (As := [.ref (h3 0), .int v22]) (kX4_freeBy _ d h1 h2 h3 n x1_left x1_earned x1_turnCost x1_turnWayless x2_edgeA x2_edgeB x2_edgeCost x2_edgeLine x2_change x2_away x2_steps x2_nodes x2_stepCount x2_open x2_openCount x2_seen x2_edgeCount x2_aim g2 g3 g4 g5 w20 g7 g8 g9 g10 x3_knownFree w21 v22 e34) rfl rfl (Nat.le_of_ble_eq_true rfl) (by decide) 1 0 rfl rfl rfl [1, 2, 3] [0, 4] rfl rfl rfl rfl [0, 2, 3, 4, 1] rfl (fun _ => rfl) (fun _ => rfl) rfl rfl rfl (fun _ => rfl) (fun _ => ?_)
    refine J_imul hK dX0_costOfWidth_104 rfl ?_
    refine J_iadd hK dX0_costOfWidth_105 rfl ?_
    obtain rfl := Option.some.inj hf
    exact J_iret hK hR dX0_costOfWidth_106 () rfl (by decide) (by decide)
  have lo13 : ∀ (k : Nat) (z14 : Int32) (z15 : Int32) (z16 : (Nat → Int32)) (z17 : Int32), lp (u4 (fX0_costOfWidth_s14 p2 p3 x3_knownFree x4_lineCount x4_goodsCount x4_workCount x4_years x4_lines x4_goods x4_works x4_change x4_coin x4_knownFree x4_isKnown g2 g3 g4 g5 g7 g8 g9 g10)) k (z14, z15, z16, z17) = some e18 → J d Φ 6 [gCh d h0 (h1 0) a0_after (h3 0) x0_gained, gTr d h1 (h2 0) x1_left x1_earned x1_turnCost x1_turnWayless, gWy d h2 x2_edgeA x2_edgeB x2_edgeCost x2_edgeLine x2_change x2_away x2_steps x2_nodes x2_stepCount x2_open x2_openCount x2_seen x2_edgeCount x2_aim, gLd d h3 g2 g3 g4 g5 z16 g7 g8 g9 g10 x3_knownFree z17, gLd d h4 x4_lineCount x4_goodsCount x4_workCount x4_years x4_lines x4_goods x4_works x4_change x4_coin x4_knownFree x4_isKnown] 0 0 14 [(0, .ref (h0 0)), (1, .ref (h4 0)), (2, .int p2), (3, .int p3), (4, .int z14), (5, .int z15)] [] := by
    intro k
    induction k with
    | zero => intro z14 z15 z16 z17 h; cases h
    | succ k ih13 =>
      intro z14 z15 z16 z17 h
      obtain ⟨k2, rr13, hk2, hs13, hr13⟩ := lp_ok h
      cases hk2
      have hs13 : fX0_costOfWidth_s14 p2 p3 x3_knownFree x4_lineCount x4_goodsCount x4_workCount x4_years x4_lines x4_goods x4_works x4_change x4_coin x4_knownFree x4_isKnown g2 g3 g4 g5 g7 g8 g9 g10 z14 z15 z16 z17 = some rr13 := hs13
      unfold fX0_costOfWidth_s14 at hs13
      refine J_iload hK dX0_costOfWidth_14 rfl 5 rfl ?_
      refine J_aload_n hK dX0_costOfWidth_16 rfl 1 rfl rfl ?_
      refine J_get hK fo_RX0_95 dX0_costOfWidth_17 rfl 4 0 rfl rfl rfl ?_
      refine J_icmp_ge (tg := 80) hK dX0_costOfWidth_20 rfl rfl (fun hc20 => ?_) (fun hc20 => ?_)
      · have hs13 := ip hc20 hs13
        exact J_loc [0, 1, 4] rfl (hx13_80 z14 z16 z17 (lpx hs13 hr13))
      · have hs13 := iq hc20 hs13
        refine J_aload_n hK dX0_costOfWidth_23 rfl 1 rfl rfl ?_
        refine J_iload hK dX0_costOfWidth_24 rfl 5 rfl ?_
        refine J_bipush (v := 6) hK dX0_costOfWidth_26 rfl (by decide) ?_
        obtain ⟨v35, e36, hs13⟩ := bs hs13
        refine J_callV (m' := 5) (ce' := 0) (sl' := 0) (gr := [gCh d h0 (h1 0) a0_after (h3 0) x0_gained, gTr d h1 (h2 0) x1_left x1_earned x1_turnCost x1_turnWayless, gWy d h2 x2_edgeA x2_edgeB x2_edgeCost x2_edgeLine x2_change x2_away x2_steps x2_nodes x2_stepCount x2_open x2_openCount x2_seen x2_edgeCount x2_aim, gLd d h3 g2 g3 g4 g5 z16 g7 g8 g9 g10 x3_knownFree z17]) (gs' := fun _ => [gCh d h0 (h1 0) a0_after (h3 0) x0_gained, gTr d h1 (h2 0) x1_left x1_earned x1_turnCost x1_turnWayless, gWy d h2 x2_edgeA x2_edgeB x2_edgeCost x2_edgeLine x2_change x2_away x2_steps x2_nodes x2_stepCount x2_open x2_openCount x2_seen x2_edgeCount x2_aim, gLd d h3 g2 g3 g4 g5 z16 g7 g8 g9 g10 x3_knownFree z17, gLd d h4 x4_lineCount x4_goodsCount x4_workCount x4_years x4_lines x4_goods x4_works x4_change x4_coin x4_knownFree x4_isKnown]) (st' := fun _ => [.int v35]) (st := []) hK dX0_costOfWidth_28 cv_RX0_98 iv_yX1_ofLine (As := [.int z15, .int (6)]) (kX1_ofLine _ d h4 x4_lineCount x4_goodsCount x4_workCount x4_years x4_lines x4_goods x4_works x4_change x4_coin x4_knownFree x4_isKnown z15 (6) e36) rfl rfl (Nat.le_of_ble_eq_true rfl) (by decide) 4 0 rfl rfl rfl [4] [0, 1, 2, 3] rfl rfl rfl rfl [0, 1, 2, 3, 4] rfl (fun _ => rfl) (fun _ => rfl) rfl rfl rfl (fun _ => rfl) (fun _ => ?_)
        refine J_if_ne (tg := 74) hK dX0_costOfWidth_31 rfl rfl (fun hc31 => ?_) (fun hc31 => ?_)
        · have hs13 := iq hc31 hs13
          refine J_iinc (L' := [(5, .int (z15 + 1)), (0, .ref (h0 0)), (1, .ref (h4 0)), (2, .int p2), (3, .int p3), (4, .int z14)]) (v := (z15 + 1)) hK dX0_costOfWidth_74 rfl 5 rfl rfl (by decide) rfl ?_
          refine J_goto hK dX0_costOfWidth_77 (n := 14) rfl ?_
          exact J_loc [1, 2, 3, 4, 5, 0] rfl (ih13 z14 (z15 + 1) z16 z17 (lpc hs13 hr13))
        · have hs13 := ip hc31 hs13
          refine J_aload_n hK dX0_costOfWidth_34 rfl 1 rfl rfl ?_
          refine J_iload hK dX0_costOfWidth_35 rfl 5 rfl ?_
          refine J_iconst (v := 2) hK dX0_costOfWidth_37 rfl (by decide) ?_
          obtain ⟨v37, e38, hs13⟩ := bs hs13
          refine J_callV (m' := 5) (ce' := 0) (sl' := 0) (gr := [gCh d h0 (h1 0) a0_after (h3 0) x0_gained, gTr d h1 (h2 0) x1_left x1_earned x1_turnCost x1_turnWayless, gWy d h2 x2_edgeA x2_edgeB x2_edgeCost x2_edgeLine x2_change x2_away x2_steps x2_nodes x2_stepCount x2_open x2_openCount x2_seen x2_edgeCount x2_aim, gLd d h3 g2 g3 g4 g5 z16 g7 g8 g9 g10 x3_knownFree z17]) (gs' := fun _ => [gCh d h0 (h1 0) a0_after (h3 0) x0_gained, gTr d h1 (h2 0) x1_left x1_earned x1_turnCost x1_turnWayless, gWy d h2 x2_edgeA x2_edgeB x2_edgeCost x2_edgeLine x2_change x2_away x2_steps x2_nodes x2_stepCount x2_open x2_openCount x2_seen x2_edgeCount x2_aim, gLd d h3 g2 g3 g4 g5 z16 g7 g8 g9 g10 x3_knownFree z17, gLd d h4 x4_lineCount x4_goodsCount x4_workCount x4_years x4_lines x4_goods x4_works x4_change x4_coin x4_knownFree x4_isKnown]) (st' := fun _ => [.int v37]) (st := []) hK dX0_costOfWidth_38 cv_RX0_98 iv_yX1_ofLine (As := [.int z15, .int (2)]) (kX1_ofLine _ d h4 x4_lineCount x4_goodsCount x4_workCount x4_years x4_lines x4_goods x4_works x4_change x4_coin x4_knownFree x4_isKnown z15 (2) e38) rfl rfl (Nat.le_of_ble_eq_true rfl) (by decide) 4 0 rfl rfl rfl [4] [0, 1, 2, 3] rfl rfl rfl rfl [0, 1, 2, 3, 4] rfl (fun _ => rfl) (fun _ => rfl) rfl rfl rfl (fun _ => rfl) (fun _ => ?_)
          refine J_iload_n hK dX0_costOfWidth_41 rfl 2 rfl rfl ?_
          refine J_ishr hK dX0_costOfWidth_42 rfl ?_
          refine J_iconst (v := 1) hK dX0_costOfWidth_43 rfl (by decide) ?_
          refine J_iand hK dX0_costOfWidth_44 rfl ?_
          have j62 : ∀ (y39 : Int32), fX0_costOfWidth_j62 p2 x3_knownFree g2 g3 g4 g5 g7 g8 g9 g10 z15 z16 z17 y39 = some rr13 → J d Φ 6 [gCh d h0 (h1 0) a0_after (h3 0) x0_gained, gTr d h1 (h2 0) x1_left x1_earned x1_turnCost x1_turnWayless, gWy d h2 x2_edgeA x2_edgeB x2_edgeCost x2_edgeLine x2_change x2_away x2_steps x2_nodes x2_stepCount x2_open x2_openCount x2_seen x2_edgeCount x2_aim, gLd d h3 g2 g3 g4 g5 z16 g7 g8 g9 g10 x3_knownFree z17, gLd d h4 x4_lineCount x4_goodsCount x4_workCount x4_years x4_lines x4_goods x4_works x4_change x4_coin x4_knownFree x4_isKnown] 0 0 62 [(0, .ref (h0 0)), (1, .ref (h4 0)), (2, .int p2), (3, .int p3), (4, .int y39), (5, .int z15)] [] := by
            intro y39 hs13
            unfold fX0_costOfWidth_j62 at hs13
            refine J_aload_n hK dX0_costOfWidth_62 rfl 0 rfl rfl ?_
            refine J_get hK fo_RX0_29 dX0_costOfWidth_63 rfl 0 0 rfl rfl rfl ?_
            refine J_iload hK dX0_costOfWidth_66 rfl 5 rfl ?_
            refine J_iconst (v := 1) hK dX0_costOfWidth_68 rfl (by decide) ?_
            refine J_iload_n hK dX0_costOfWidth_69 rfl 2 rfl rfl ?_
            refine J_ishl hK dX0_costOfWidth_70 rfl ?_
            obtain ⟨⟨g40, g41⟩, e42, hs13⟩ := bs hs13
            have hs13 := un2 hs13
            refine J_callV (m' := 5) (ce' := 0) (sl' := 0) (gr := [gCh d h0 (h1 0) a0_after (h3 0) x0_gained, gTr d h1 (h2 0) x1_left x1_earned x1_turnCost x1_turnWayless, gWy d h2 x2_edgeA x2_edgeB x2_edgeCost x2_edgeLine x2_change x2_away x2_steps x2_nodes x2_stepCount x2_open x2_openCount x2_seen x2_edgeCount x2_aim, gLd d h4 x4_lineCount x4_goodsCount x4_workCount x4_years x4_lines x4_goods x4_works x4_change x4_coin x4_knownFree x4_isKnown]) (gs' := fun _ => [gCh d h0 (h1 0) a0_after (h3 0) x0_gained, gTr d h1 (h2 0) x1_left x1_earned x1_turnCost x1_turnWayless, gWy d h2 x2_edgeA x2_edgeB x2_edgeCost x2_edgeLine x2_change x2_away x2_steps x2_nodes x2_stepCount x2_open x2_openCount x2_seen x2_edgeCount x2_aim, gLd d h3 g2 g3 g4 g5 g40 g7 g8 g9 g10 x3_knownFree g41, gLd d h4 x4_lineCount x4_goodsCount x4_workCount x4_years x4_lines x4_goods x4_works x4_change x4_coin x4_knownFree x4_isKnown]) (st' := fun _ => []) (st := []) hK dX0_costOfWidth_71 cv_RX0_101 iv_yX1_putWidths (As := [.int z15, .int ((1 : Int32) <<< (p2 &&& 31))]) (kX1_putWidths _ d h3 g2 g3 g4 g5 z16 g7 g8 g9 g10 x3_knownFree z17 z15 ((1 : Int32) <<< (p2 &&& 31)) e42) rfl rfl (Nat.le_of_ble_eq_true rfl) (by decide) 3 0 rfl rfl rfl [3] [0, 1, 2, 4] rfl rfl rfl rfl [0, 1, 2, 4, 3] rfl (fun _ => rfl) (fun _ => rfl) rfl rfl rfl (fun _ => rfl) (fun _ => ?_)
            refine J_iinc (L' := [(5, .int (z15 + 1)), (0, .ref (h0 0)), (1, .ref (h4 0)), (2, .int p2), (3, .int p3), (4, .int y39)]) (v := (z15 + 1)) hK dX0_costOfWidth_74 rfl 5 rfl rfl (by decide) rfl ?_
            refine J_goto hK dX0_costOfWidth_77 (n := 14) rfl ?_
            exact J_loc [1, 2, 3, 4, 5, 0] rfl (ih13 y39 (z15 + 1) g40 g41 (lpc hs13 hr13))
          refine J_if_ne (tg := 62) hK dX0_costOfWidth_45 rfl rfl (fun hc45 => ?_) (fun hc45 => ?_)
          · have hs13 := iq hc45 hs13
            exact (j62 z14 hs13)
          · have hs13 := ip hc45 hs13
            refine J_iload hK dX0_costOfWidth_48 rfl 4 rfl ?_
            refine J_iload_n hK dX0_costOfWidth_50 rfl 3 rfl rfl ?_
            refine J_aload_n hK dX0_costOfWidth_51 rfl 1 rfl rfl ?_
            refine J_iload hK dX0_costOfWidth_52 rfl 5 rfl ?_
            refine J_iconst (v := 3) hK dX0_costOfWidth_54 rfl (by decide) ?_
            obtain ⟨v43, e44, hs13⟩ := bs hs13
            refine J_callV (m' := 5) (ce' := 0) (sl' := 0) (gr := [gCh d h0 (h1 0) a0_after (h3 0) x0_gained, gTr d h1 (h2 0) x1_left x1_earned x1_turnCost x1_turnWayless, gWy d h2 x2_edgeA x2_edgeB x2_edgeCost x2_edgeLine x2_change x2_away x2_steps x2_nodes x2_stepCount x2_open x2_openCount x2_seen x2_edgeCount x2_aim, gLd d h3 g2 g3 g4 g5 z16 g7 g8 g9 g10 x3_knownFree z17]) (gs' := fun _ => [gCh d h0 (h1 0) a0_after (h3 0) x0_gained, gTr d h1 (h2 0) x1_left x1_earned x1_turnCost x1_turnWayless, gWy d h2 x2_edgeA x2_edgeB x2_edgeCost x2_edgeLine x2_change x2_away x2_steps x2_nodes x2_stepCount x2_open x2_openCount x2_seen x2_edgeCount x2_aim, gLd d h3 g2 g3 g4 g5 z16 g7 g8 g9 g10 x3_knownFree z17, gLd d h4 x4_lineCount x4_goodsCount x4_workCount x4_years x4_lines x4_goods x4_works x4_change x4_coin x4_knownFree x4_isKnown]) (st' := fun _ => [.int v43, .int p3, .int z14]) (st := [.int p3, .int z14]) hK dX0_costOfWidth_55 cv_RX0_98 iv_yX1_ofLine (As := [.int z15, .int (3)]) (kX1_ofLine _ d h4 x4_lineCount x4_goodsCount x4_workCount x4_years x4_lines x4_goods x4_works x4_change x4_coin x4_knownFree x4_isKnown z15 (3) e44) rfl rfl (Nat.le_of_ble_eq_true rfl) (by decide) 4 0 rfl rfl rfl [4] [0, 1, 2, 3] rfl rfl rfl rfl [0, 1, 2, 3, 4] rfl (fun _ => rfl) (fun _ => rfl) rfl rfl rfl (fun _ => rfl) (fun _ => ?_)
            refine J_imul hK dX0_costOfWidth_58 rfl ?_
            refine J_iadd hK dX0_costOfWidth_59 rfl ?_
            refine J_istore (L' := [(4, .int (z14 + (p3 * v43))), (0, .ref (h0 0)), (1, .ref (h4 0)), (2, .int p2), (3, .int p3), (5, .int z15)]) hK dX0_costOfWidth_60 rfl (by decide) rfl ?_
            exact J_loc [1, 2, 3, 4, 0, 5] rfl (j62 (z14 + (p3 * v43)) hs13)
  exact J_loc [2, 3, 4, 5, 1, 0] rfl (lo13 n (0) (0) g6 g11 hl13)

def fX5_note (X0 : WyT) (p1 : Int32) (p2 : Int32) : Option ((Nat → Int32) × (Nat → Int32) × Int32) :=
  u14 (fun (x0_edgeA : (Nat → Int32)) (x0_edgeB : (Nat → Int32)) (x0_edgeCost : (Nat → Int32)) (x0_edgeLine : (Nat → Int32)) (x0_change : (Nat → Int32)) (x0_away : (Nat → Int32)) (x0_steps : (Nat → Int32)) (x0_nodes : (Nat → Int32)) (x0_stepCount : Int32) (x0_open : (Nat → Int32)) (x0_openCount : Int32) (x0_seen : Int64) (x0_edgeCount : Int32) (x0_aim : Int32) => if 36 ≤ x0_stepCount then (some (x0_steps, x0_nodes, x0_stepCount)) else ((wr 36 x0_steps x0_stepCount p1).bind fun f1 => (wr 36 x0_nodes x0_stepCount p2).bind fun f2 => some (f1, f2, (x0_stepCount + 1)))) X0
set_option maxHeartbeats 4000000 in
set_option maxRecDepth 100000 in
theorem kX5_note (l : Launch) (d : DT) (h0 : Nat → Nat) (x0_edgeA : (Nat → Int32)) (x0_edgeB : (Nat → Int32)) (x0_edgeCost : (Nat → Int32)) (x0_edgeLine : (Nat → Int32)) (x0_change : (Nat → Int32)) (x0_away : (Nat → Int32)) (x0_steps : (Nat → Int32)) (x0_nodes : (Nat → Int32)) (x0_stepCount : Int32) (x0_open : (Nat → Int32)) (x0_openCount : Int32) (x0_seen : Int64) (x0_edgeCount : Int32) (x0_aim : Int32) (p1 : Int32) (p2 : Int32)  {out : (Nat → Int32) × (Nat → Int32) × Int32} (hf : fX5_note (x0_edgeA, x0_edgeB, x0_edgeCost, x0_edgeLine, x0_change, x0_away, x0_steps, x0_nodes, x0_stepCount, x0_open, x0_openCount, x0_seen, x0_edgeCount, x0_aim) p1 p2 = some out) : Ct l d yX5_note cX5_note 3 none { frames := 0, cells := 0, slots := 0, locals := 0 } [.ref (h0 0), .int p1, .int p2] [gWy d h0 x0_edgeA x0_edgeB x0_edgeCost x0_edgeLine x0_change x0_away x0_steps x0_nodes x0_stepCount x0_open x0_openCount x0_seen x0_edgeCount x0_aim] (fun _ : Unit => (none, [gWy d h0 x0_edgeA x0_edgeB x0_edgeCost x0_edgeLine x0_change x0_away (out.1) (out.2.1) (out.2.2) x0_open x0_openCount x0_seen x0_edgeCount x0_aim])) := by
  refine Ct.of (by decide) (Nat.le_of_ble_eq_true rfl) ?_
  intro Φ hl hK hR
  subst hl
  have hK : Ok d Φ RX5 "note" cX5_note 3 none { frames := 0, cells := 0, slots := 0, locals := 0 } := hK
  unfold fX5_note at hf
  have hf := un14 hf
  show J d Φ 3 [gWy d h0 x0_edgeA x0_edgeB x0_edgeCost x0_edgeLine x0_change x0_away x0_steps x0_nodes x0_stepCount x0_open x0_openCount x0_seen x0_edgeCount x0_aim] 0 0 0 [(0, .ref (h0 0)), (1, .int p1), (2, .int p2)] []
  refine J_aload_n hK dX5_note_0 rfl 0 rfl rfl ?_
  refine J_get hK fo_RX5_79 dX5_note_1 rfl 0 0 rfl rfl rfl ?_
  refine J_bipush (v := 36) hK dX5_note_4 rfl (by decide) ?_
  refine J_icmp_ge (tg := 39) hK dX5_note_6 rfl rfl (fun hc6 => ?_) (fun hc6 => ?_)
  · have hf := ip hc6 hf
    obtain rfl := Option.some.inj hf
    exact J_vret hK hR dX5_note_39 () rfl (by decide) (by decide)
  · have hf := iq hc6 hf
    refine J_aload_n hK dX5_note_9 rfl 0 rfl rfl ?_
    refine J_get hK fo_RX5_30 dX5_note_10 rfl 0 0 rfl rfl rfl ?_
    refine J_aload_n hK dX5_note_13 rfl 0 rfl rfl ?_
    refine J_get hK fo_RX5_79 dX5_note_14 rfl 0 0 rfl rfl rfl ?_
    refine J_iload_n hK dX5_note_17 rfl 1 rfl rfl ?_
    obtain ⟨f1, ef1, hf⟩ := bs hf
    refine J_iast (g' := gWy d h0 x0_edgeA x0_edgeB x0_edgeCost x0_edgeLine x0_change x0_away f1 x0_nodes x0_stepCount x0_open x0_openCount x0_seen x0_edgeCount x0_aim) (gs' := [gWy d h0 x0_edgeA x0_edgeB x0_edgeCost x0_edgeLine x0_change x0_away f1 x0_nodes x0_stepCount x0_open x0_openCount x0_seen x0_edgeCount x0_aim]) hK dX5_note_18 rfl 0 7 rfl rfl ef1 rfl rfl ?_
    refine J_aload_n hK dX5_note_19 rfl 0 rfl rfl ?_
    refine J_get hK fo_RX5_33 dX5_note_20 rfl 0 0 rfl rfl rfl ?_
    refine J_aload_n hK dX5_note_23 rfl 0 rfl rfl ?_
    refine J_get hK fo_RX5_79 dX5_note_24 rfl 0 0 rfl rfl rfl ?_
    refine J_iload_n hK dX5_note_27 rfl 2 rfl rfl ?_
    obtain ⟨f2, ef2, hf⟩ := bs hf
    refine J_iast (g' := gWy d h0 x0_edgeA x0_edgeB x0_edgeCost x0_edgeLine x0_change x0_away f1 f2 x0_stepCount x0_open x0_openCount x0_seen x0_edgeCount x0_aim) (gs' := [gWy d h0 x0_edgeA x0_edgeB x0_edgeCost x0_edgeLine x0_change x0_away f1 f2 x0_stepCount x0_open x0_openCount x0_seen x0_edgeCount x0_aim]) hK dX5_note_28 rfl 0 8 rfl rfl ef2 rfl rfl ?_
    refine J_aload_n hK dX5_note_29 rfl 0 rfl rfl ?_
    refine J_dup hK dX5_note_30 rfl rfl ?_
    refine J_get hK fo_RX5_79 dX5_note_31 rfl 0 0 rfl rfl rfl ?_
    refine J_iconst (v := 1) hK dX5_note_34 rfl (by decide) ?_
    refine J_iadd hK dX5_note_35 rfl ?_
    refine J_put (g' := gWy d h0 x0_edgeA x0_edgeB x0_edgeCost x0_edgeLine x0_change x0_away f1 f2 (x0_stepCount + 1) x0_open x0_openCount x0_seen x0_edgeCount x0_aim) (gs' := [gWy d h0 x0_edgeA x0_edgeB x0_edgeCost x0_edgeLine x0_change x0_away f1 f2 (x0_stepCount + 1) x0_open x0_openCount x0_seen x0_edgeCount x0_aim]) hK fp_RX5_79 dX5_note_36 rfl 0 0 rfl rfl rfl rfl (Nat.le_of_ble_eq_true rfl) rfl rfl ?_
    obtain rfl := Option.some.inj hf
    exact J_vret hK hR dX5_note_39 () rfl (by decide) (by decide)

def fX5_openIfCheapest_j27 (p1 : Int32) (p2 : Int32) (p3 : Int32) (x0_away : (Nat → Int32)) (x0_open : (Nat → Int32)) (x0_openCount : Int32) (x0_seen : Int64) (y1 : Int32) : Option ((Nat → Int32) × Int32 × Int64) :=
  if y1 = 0 then (some (x0_open, x0_openCount, x0_seen)) else ((rd 36 x0_away p1).bind fun v2 => (rd 36 x0_away p2).bind fun v3 => if v2 = (p3 + v3) then ((some (x0_seen ||| ((1 : Int64) <<< ((p2).toInt64 &&& 63)))).bind fun t4 => (wr 36 x0_open x0_openCount p2).bind fun f5 => some (f5, (x0_openCount + 1), t4)) else (some (x0_open, x0_openCount, x0_seen)))
def fX5_openIfCheapest_j26 (p1 : Int32) (p2 : Int32) (p3 : Int32) (x0_away : (Nat → Int32)) (x0_open : (Nat → Int32)) (x0_openCount : Int32) (x0_seen : Int64) : Option ((Nat → Int32) × Int32 × Int64) :=
  fX5_openIfCheapest_j27 p1 p2 p3 x0_away x0_open x0_openCount x0_seen (0)
def fX5_openIfCheapest (X0 : WyT) (p1 : Int32) (p2 : Int32) (p3 : Int32) : Option ((Nat → Int32) × Int32 × Int64) :=
  u14 (fun (x0_edgeA : (Nat → Int32)) (x0_edgeB : (Nat → Int32)) (x0_edgeCost : (Nat → Int32)) (x0_edgeLine : (Nat → Int32)) (x0_change : (Nat → Int32)) (x0_away : (Nat → Int32)) (x0_steps : (Nat → Int32)) (x0_nodes : (Nat → Int32)) (x0_stepCount : Int32) (x0_open : (Nat → Int32)) (x0_openCount : Int32) (x0_seen : Int64) (x0_edgeCount : Int32) (x0_aim : Int32) => if (lg_cmp ((x0_seen >>> ((p2).toInt64 &&& 63)) &&& (1 : Int64)) (0 : Int64)) = 0 then (if 36 ≤ x0_openCount then (fX5_openIfCheapest_j26 p1 p2 p3 x0_away x0_open x0_openCount x0_seen) else (fX5_openIfCheapest_j27 p1 p2 p3 x0_away x0_open x0_openCount x0_seen (1))) else (fX5_openIfCheapest_j26 p1 p2 p3 x0_away x0_open x0_openCount x0_seen)) X0
set_option maxHeartbeats 4000000 in
set_option maxRecDepth 100000 in
theorem kX5_openIfCheapest (l : Launch) (d : DT) (h0 : Nat → Nat) (x0_edgeA : (Nat → Int32)) (x0_edgeB : (Nat → Int32)) (x0_edgeCost : (Nat → Int32)) (x0_edgeLine : (Nat → Int32)) (x0_change : (Nat → Int32)) (x0_away : (Nat → Int32)) (x0_steps : (Nat → Int32)) (x0_nodes : (Nat → Int32)) (x0_stepCount : Int32) (x0_open : (Nat → Int32)) (x0_openCount : Int32) (x0_seen : Int64) (x0_edgeCount : Int32) (x0_aim : Int32) (p1 : Int32) (p2 : Int32) (p3 : Int32)  {out : (Nat → Int32) × Int32 × Int64} (hf : fX5_openIfCheapest (x0_edgeA, x0_edgeB, x0_edgeCost, x0_edgeLine, x0_change, x0_away, x0_steps, x0_nodes, x0_stepCount, x0_open, x0_openCount, x0_seen, x0_edgeCount, x0_aim) p1 p2 p3 = some out) : Ct l d yX5_openIfCheapest cX5_openIfCheapest 5 none { frames := 0, cells := 0, slots := 0, locals := 0 } [.ref (h0 0), .int p1, .int p2, .int p3] [gWy d h0 x0_edgeA x0_edgeB x0_edgeCost x0_edgeLine x0_change x0_away x0_steps x0_nodes x0_stepCount x0_open x0_openCount x0_seen x0_edgeCount x0_aim] (fun _ : Unit => (none, [gWy d h0 x0_edgeA x0_edgeB x0_edgeCost x0_edgeLine x0_change x0_away x0_steps x0_nodes x0_stepCount (out.1) (out.2.1) (out.2.2) x0_edgeCount x0_aim])) := by
  refine Ct.of (by decide) (Nat.le_of_ble_eq_true rfl) ?_
  intro Φ hl hK hR
  subst hl
  have hK : Ok d Φ RX5 "openIfCheapest" cX5_openIfCheapest 5 none { frames := 0, cells := 0, slots := 0, locals := 0 } := hK
  unfold fX5_openIfCheapest at hf
  have hf := un14 hf
  show J d Φ 5 [gWy d h0 x0_edgeA x0_edgeB x0_edgeCost x0_edgeLine x0_change x0_away x0_steps x0_nodes x0_stepCount x0_open x0_openCount x0_seen x0_edgeCount x0_aim] 0 0 0 [(0, .ref (h0 0)), (1, .int p1), (2, .int p2), (3, .int p3)] []
  refine J_aload_n hK dX5_openIfCheapest_0 rfl 0 rfl rfl ?_
  refine J_get hK fo_RX5_109 dX5_openIfCheapest_1 rfl 0 0 rfl rfl rfl ?_
  refine J_iload_n hK dX5_openIfCheapest_4 rfl 2 rfl rfl ?_
  refine J_lshr hK dX5_openIfCheapest_5 rfl ?_
  refine J_lconst (v := 1) hK dX5_openIfCheapest_6 rfl (by decide) ?_
  refine J_land hK dX5_openIfCheapest_7 rfl ?_
  refine J_lconst (v := 0) hK dX5_openIfCheapest_8 rfl (by decide) ?_
  refine J_lcmp hK dX5_openIfCheapest_9 rfl ?_
  have j27 : ∀ (y1 : Int32), fX5_openIfCheapest_j27 p1 p2 p3 x0_away x0_open x0_openCount x0_seen y1 = some out → J d Φ 5 [gWy d h0 x0_edgeA x0_edgeB x0_edgeCost x0_edgeLine x0_change x0_away x0_steps x0_nodes x0_stepCount x0_open x0_openCount x0_seen x0_edgeCount x0_aim] 0 0 27 [(0, .ref (h0 0)), (1, .int p1), (2, .int p2), (3, .int p3)] [.int y1] := by
    intro y1 hf
    unfold fX5_openIfCheapest_j27 at hf
    refine J_istore (L' := [(4, .int y1), (0, .ref (h0 0)), (1, .int p1), (2, .int p2), (3, .int p3)]) hK dX5_openIfCheapest_27 rfl (by decide) rfl ?_
    refine J_iload hK dX5_openIfCheapest_29 rfl 0 rfl ?_
    refine J_if_eq (tg := 83) hK dX5_openIfCheapest_31 rfl rfl (fun hc31 => ?_) (fun hc31 => ?_)
    · have hf := ip hc31 hf
      obtain rfl := Option.some.inj hf
      exact J_vret hK hR dX5_openIfCheapest_83 () rfl (by decide) (by decide)
    · have hf := iq hc31 hf
      refine J_aload_n hK dX5_openIfCheapest_34 rfl 1 rfl rfl ?_
      refine J_get hK fo_RX5_27 dX5_openIfCheapest_35 rfl 0 0 rfl rfl rfl ?_
      refine J_iload_n hK dX5_openIfCheapest_38 rfl 2 rfl rfl ?_
      obtain ⟨v2, ev2, hf⟩ := bs hf
      refine J_iald hK dX5_openIfCheapest_39 rfl 0 6 rfl rfl ev2 ?_
      refine J_iload_n hK dX5_openIfCheapest_40 rfl 4 rfl rfl ?_
      refine J_aload_n hK dX5_openIfCheapest_41 rfl 1 rfl rfl ?_
      refine J_get hK fo_RX5_27 dX5_openIfCheapest_42 rfl 0 0 rfl rfl rfl ?_
      refine J_iload_n hK dX5_openIfCheapest_45 rfl 3 rfl rfl ?_
      obtain ⟨v3, ev3, hf⟩ := bs hf
      refine J_iald hK dX5_openIfCheapest_46 rfl 0 6 rfl rfl ev3 ?_
      refine J_iadd hK dX5_openIfCheapest_47 rfl ?_
      refine J_icmp_ne (tg := 83) hK dX5_openIfCheapest_48 rfl rfl (fun hc48 => ?_) (fun hc48 => ?_)
      · have hf := iq hc48 hf
        obtain rfl := Option.some.inj hf
        exact J_vret hK hR dX5_openIfCheapest_83 () rfl (by decide) (by decide)
      · have hf := ip hc48 hf
        refine J_aload_n hK dX5_openIfCheapest_51 rfl 1 rfl rfl ?_
        refine J_dup hK dX5_openIfCheapest_52 rfl rfl ?_
        refine J_get hK fo_RX5_109 dX5_openIfCheapest_53 rfl 0 0 rfl rfl rfl ?_
        refine J_lconst (v := 1) hK dX5_openIfCheapest_56 rfl (by decide) ?_
        refine J_iload_n hK dX5_openIfCheapest_57 rfl 3 rfl rfl ?_
        refine J_lshl hK dX5_openIfCheapest_58 rfl ?_
        refine J_lor hK dX5_openIfCheapest_59 rfl ?_
        obtain ⟨t4, et4, hf⟩ := bs hf
        refine J_nml et4 ?_
        refine J_put (g' := gWy d h0 x0_edgeA x0_edgeB x0_edgeCost x0_edgeLine x0_change x0_away x0_steps x0_nodes x0_stepCount x0_open x0_openCount t4 x0_edgeCount x0_aim) (gs' := [gWy d h0 x0_edgeA x0_edgeB x0_edgeCost x0_edgeLine x0_change x0_away x0_steps x0_nodes x0_stepCount x0_open x0_openCount t4 x0_edgeCount x0_aim]) hK fp_RX5_109 dX5_openIfCheapest_60 rfl 0 0 rfl rfl rfl rfl (Nat.le_of_ble_eq_true rfl) rfl rfl ?_
        refine J_aload_n hK dX5_openIfCheapest_63 rfl 1 rfl rfl ?_
        refine J_get hK fo_RX5_36 dX5_openIfCheapest_64 rfl 0 0 rfl rfl rfl ?_
        refine J_aload_n hK dX5_openIfCheapest_67 rfl 1 rfl rfl ?_
        refine J_get hK fo_RX5_113 dX5_openIfCheapest_68 rfl 0 0 rfl rfl rfl ?_
        refine J_iload_n hK dX5_openIfCheapest_71 rfl 3 rfl rfl ?_
        obtain ⟨f5, ef5, hf⟩ := bs hf
        refine J_iast (g' := gWy d h0 x0_edgeA x0_edgeB x0_edgeCost x0_edgeLine x0_change x0_away x0_steps x0_nodes x0_stepCount f5 x0_openCount t4 x0_edgeCount x0_aim) (gs' := [gWy d h0 x0_edgeA x0_edgeB x0_edgeCost x0_edgeLine x0_change x0_away x0_steps x0_nodes x0_stepCount f5 x0_openCount t4 x0_edgeCount x0_aim]) hK dX5_openIfCheapest_72 rfl 0 9 rfl rfl ef5 rfl rfl ?_
        refine J_aload_n hK dX5_openIfCheapest_73 rfl 1 rfl rfl ?_
        refine J_dup hK dX5_openIfCheapest_74 rfl rfl ?_
        refine J_get hK fo_RX5_113 dX5_openIfCheapest_75 rfl 0 0 rfl rfl rfl ?_
        refine J_iconst (v := 1) hK dX5_openIfCheapest_78 rfl (by decide) ?_
        refine J_iadd hK dX5_openIfCheapest_79 rfl ?_
        refine J_put (g' := gWy d h0 x0_edgeA x0_edgeB x0_edgeCost x0_edgeLine x0_change x0_away x0_steps x0_nodes x0_stepCount f5 (x0_openCount + 1) t4 x0_edgeCount x0_aim) (gs' := [gWy d h0 x0_edgeA x0_edgeB x0_edgeCost x0_edgeLine x0_change x0_away x0_steps x0_nodes x0_stepCount f5 (x0_openCount + 1) t4 x0_edgeCount x0_aim]) hK fp_RX5_113 dX5_openIfCheapest_80 rfl 0 0 rfl rfl rfl rfl (Nat.le_of_ble_eq_true rfl) rfl rfl ?_
        obtain rfl := Option.some.inj hf
        exact J_vret hK hR dX5_openIfCheapest_83 () rfl (by decide) (by decide)
  have j26 : fX5_openIfCheapest_j26 p1 p2 p3 x0_away x0_open x0_openCount x0_seen = some out → J d Φ 5 [gWy d h0 x0_edgeA x0_edgeB x0_edgeCost x0_edgeLine x0_change x0_away x0_steps x0_nodes x0_stepCount x0_open x0_openCount x0_seen x0_edgeCount x0_aim] 0 0 26 [(0, .ref (h0 0)), (1, .int p1), (2, .int p2), (3, .int p3)] [] := by
    intro  hf
    unfold fX5_openIfCheapest_j26 at hf
    refine J_iconst (v := 0) hK dX5_openIfCheapest_26 rfl (by decide) ?_
    exact (j27 (0) hf)
  refine J_if_ne (tg := 26) hK dX5_openIfCheapest_10 rfl rfl (fun hc10 => ?_) (fun hc10 => ?_)
  · have hf := iq hc10 hf
    exact (j26  hf)
  · have hf := ip hc10 hf
    refine J_aload_n hK dX5_openIfCheapest_13 rfl 0 rfl rfl ?_
    refine J_get hK fo_RX5_113 dX5_openIfCheapest_14 rfl 0 0 rfl rfl rfl ?_
    refine J_bipush (v := 36) hK dX5_openIfCheapest_17 rfl (by decide) ?_
    refine J_icmp_ge (tg := 26) hK dX5_openIfCheapest_19 rfl rfl (fun hc19 => ?_) (fun hc19 => ?_)
    · have hf := ip hc19 hf
      exact (j26  hf)
    · have hf := iq hc19 hf
      refine J_iconst (v := 1) hK dX5_openIfCheapest_22 rfl (by decide) ?_
      refine J_goto hK dX5_openIfCheapest_23 (n := 27) rfl ?_
      exact (j27 (1) hf)

def fX5_otherEnd (X0 : WyT) (p1 : Int32) (p2 : Int32) : Option (Int32) :=
  u14 (fun (x0_edgeA : (Nat → Int32)) (x0_edgeB : (Nat → Int32)) (x0_edgeCost : (Nat → Int32)) (x0_edgeLine : (Nat → Int32)) (x0_change : (Nat → Int32)) (x0_away : (Nat → Int32)) (x0_steps : (Nat → Int32)) (x0_nodes : (Nat → Int32)) (x0_stepCount : Int32) (x0_open : (Nat → Int32)) (x0_openCount : Int32) (x0_seen : Int64) (x0_edgeCount : Int32) (x0_aim : Int32) => (rd 60 x0_edgeA p1).bind fun v1 => if v1 = p2 then ((rd 60 x0_edgeB p1).bind fun v4 => some v4) else ((rd 60 x0_edgeB p1).bind fun v2 => if v2 = p2 then ((rd 60 x0_edgeA p1).bind fun v3 => some v3) else (some (-1)))) X0
set_option maxHeartbeats 4000000 in
set_option maxRecDepth 100000 in
theorem kX5_otherEnd (l : Launch) (d : DT) (h0 : Nat → Nat) (x0_edgeA : (Nat → Int32)) (x0_edgeB : (Nat → Int32)) (x0_edgeCost : (Nat → Int32)) (x0_edgeLine : (Nat → Int32)) (x0_change : (Nat → Int32)) (x0_away : (Nat → Int32)) (x0_steps : (Nat → Int32)) (x0_nodes : (Nat → Int32)) (x0_stepCount : Int32) (x0_open : (Nat → Int32)) (x0_openCount : Int32) (x0_seen : Int64) (x0_edgeCount : Int32) (x0_aim : Int32) (p1 : Int32) (p2 : Int32)  {out : Int32} (hf : fX5_otherEnd (x0_edgeA, x0_edgeB, x0_edgeCost, x0_edgeLine, x0_change, x0_away, x0_steps, x0_nodes, x0_stepCount, x0_open, x0_openCount, x0_seen, x0_edgeCount, x0_aim) p1 p2 = some out) : Ct l d yX5_otherEnd cX5_otherEnd 3 (some .int) { frames := 0, cells := 0, slots := 0, locals := 0 } [.ref (h0 0), .int p1, .int p2] [gWy d h0 x0_edgeA x0_edgeB x0_edgeCost x0_edgeLine x0_change x0_away x0_steps x0_nodes x0_stepCount x0_open x0_openCount x0_seen x0_edgeCount x0_aim] (fun _ : Unit => (some (.int out), [gWy d h0 x0_edgeA x0_edgeB x0_edgeCost x0_edgeLine x0_change x0_away x0_steps x0_nodes x0_stepCount x0_open x0_openCount x0_seen x0_edgeCount x0_aim])) := by
  refine Ct.of (by decide) (Nat.le_of_ble_eq_true rfl) ?_
  intro Φ hl hK hR
  subst hl
  have hK : Ok d Φ RX5 "otherEnd" cX5_otherEnd 3 (some .int) { frames := 0, cells := 0, slots := 0, locals := 0 } := hK
  unfold fX5_otherEnd at hf
  have hf := un14 hf
  show J d Φ 3 [gWy d h0 x0_edgeA x0_edgeB x0_edgeCost x0_edgeLine x0_change x0_away x0_steps x0_nodes x0_stepCount x0_open x0_openCount x0_seen x0_edgeCount x0_aim] 0 0 0 [(0, .ref (h0 0)), (1, .int p1), (2, .int p2)] []
  refine J_aload_n hK dX5_otherEnd_0 rfl 0 rfl rfl ?_
  refine J_get hK fo_RX5_9 dX5_otherEnd_1 rfl 0 0 rfl rfl rfl ?_
  refine J_iload_n hK dX5_otherEnd_4 rfl 1 rfl rfl ?_
  obtain ⟨v1, ev1, hf⟩ := bs hf
  refine J_iald hK dX5_otherEnd_5 rfl 0 1 rfl rfl ev1 ?_
  refine J_iload_n hK dX5_otherEnd_6 rfl 2 rfl rfl ?_
  refine J_icmp_ne (tg := 17) hK dX5_otherEnd_7 rfl rfl (fun hc7 => ?_) (fun hc7 => ?_)
  · have hf := iq hc7 hf
    refine J_aload_n hK dX5_otherEnd_17 rfl 0 rfl rfl ?_
    refine J_get hK fo_RX5_15 dX5_otherEnd_18 rfl 0 0 rfl rfl rfl ?_
    refine J_iload_n hK dX5_otherEnd_21 rfl 1 rfl rfl ?_
    obtain ⟨v2, ev2, hf⟩ := bs hf
    refine J_iald hK dX5_otherEnd_22 rfl 0 2 rfl rfl ev2 ?_
    refine J_iload_n hK dX5_otherEnd_23 rfl 2 rfl rfl ?_
    refine J_icmp_ne (tg := 36) hK dX5_otherEnd_24 rfl rfl (fun hc24 => ?_) (fun hc24 => ?_)
    · have hf := iq hc24 hf
      refine J_iconst (v := (-1)) hK dX5_otherEnd_36 rfl (by decide) ?_
      obtain rfl := Option.some.inj hf
      exact J_iret hK hR dX5_otherEnd_37 () rfl (by decide) (by decide)
    · have hf := ip hc24 hf
      refine J_aload_n hK dX5_otherEnd_27 rfl 0 rfl rfl ?_
      refine J_get hK fo_RX5_9 dX5_otherEnd_28 rfl 0 0 rfl rfl rfl ?_
      refine J_iload_n hK dX5_otherEnd_31 rfl 1 rfl rfl ?_
      obtain ⟨v3, ev3, hf⟩ := bs hf
      refine J_iald hK dX5_otherEnd_32 rfl 0 1 rfl rfl ev3 ?_
      refine J_goto hK dX5_otherEnd_33 (n := 37) rfl ?_
      obtain rfl := Option.some.inj hf
      exact J_iret hK hR dX5_otherEnd_37 () rfl (by decide) (by decide)
  · have hf := ip hc7 hf
    refine J_aload_n hK dX5_otherEnd_10 rfl 0 rfl rfl ?_
    refine J_get hK fo_RX5_15 dX5_otherEnd_11 rfl 0 0 rfl rfl rfl ?_
    refine J_iload_n hK dX5_otherEnd_14 rfl 1 rfl rfl ?_
    obtain ⟨v4, ev4, hf⟩ := bs hf
    refine J_iald hK dX5_otherEnd_15 rfl 0 2 rfl rfl ev4 ?_
    obtain rfl := Option.some.inj hf
    exact J_iret hK hR dX5_otherEnd_16 () rfl (by decide) (by decide)

def fX5_arrives_s114 (x0_edgeA : (Nat → Int32)) (x0_edgeB : (Nat → Int32)) (x0_edgeCost : (Nat → Int32)) (x0_edgeLine : (Nat → Int32)) (x0_change : (Nat → Int32)) (x0_away : (Nat → Int32)) (x0_steps : (Nat → Int32)) (x0_nodes : (Nat → Int32)) (x0_stepCount : Int32) (x0_edgeCount : Int32) (x0_aim : Int32) (v15 : Int32) (z26 : Int32) (z27 : (Nat → Int32)) (z28 : Int32) (z29 : Int64) : Option ((Int32 × (Nat → Int32) × Int32 × Int64) ⊕ ((Nat → Int32) × Int32 × Int64)) :=
  if x0_edgeCount ≤ z26 then (some (.inr (z27, z28, z29))) else ((fX5_otherEnd (x0_edgeA, x0_edgeB, x0_edgeCost, x0_edgeLine, x0_change, x0_away, x0_steps, x0_nodes, x0_stepCount, z27, z28, z29, x0_edgeCount, x0_aim) z26 v15).bind (fun v34 => if v34 = (-1) then (some (.inl ((z26 + 1), z27, z28, z29))) else ((rd 60 x0_edgeCost z26).bind fun v36 => (fX5_openIfCheapest (x0_edgeA, x0_edgeB, x0_edgeCost, x0_edgeLine, x0_change, x0_away, x0_steps, x0_nodes, x0_stepCount, z27, z28, z29, x0_edgeCount, x0_aim) v15 v34 v36).bind (u3 fun g37 g38 g39 => some (.inl ((z26 + 1), g37, g38, g39))))))
def fX5_arrives_s79 (x0_edgeA : (Nat → Int32)) (x0_edgeB : (Nat → Int32)) (x0_edgeCost : (Nat → Int32)) (x0_edgeLine : (Nat → Int32)) (x0_change : (Nat → Int32)) (x0_away : (Nat → Int32)) (x0_steps : (Nat → Int32)) (x0_nodes : (Nat → Int32)) (x0_stepCount : Int32) (x0_edgeCount : Int32) (x0_aim : Int32) (v15 : Int32) (z17 : Int32) (z18 : (Nat → Int32)) (z19 : Int32) (z20 : Int64) : Option ((Int32 × (Nat → Int32) × Int32 × Int64) ⊕ ((Nat → Int32) × Int32 × Int64)) :=
  if 3 ≤ z17 then (some (.inr (z18, z19, z20))) else ((rd 12 x0_change (v15 / 3)).bind fun v41 => (fX5_openIfCheapest (x0_edgeA, x0_edgeB, x0_edgeCost, x0_edgeLine, x0_change, x0_away, x0_steps, x0_nodes, x0_stepCount, z18, z19, z20, x0_edgeCount, x0_aim) v15 (((v15 / 3) * 3) + z17) v41).bind (u3 fun g42 g43 g44 => some (.inl ((z17 + 1), g42, g43, g44))))
def fX5_arrives_s24 (n : Nat) (x0_edgeA : (Nat → Int32)) (x0_edgeB : (Nat → Int32)) (x0_edgeCost : (Nat → Int32)) (x0_edgeLine : (Nat → Int32)) (x0_change : (Nat → Int32)) (x0_away : (Nat → Int32)) (x0_steps : (Nat → Int32)) (x0_nodes : (Nat → Int32)) (x0_stepCount : Int32) (x0_edgeCount : Int32) (x0_aim : Int32) (z4 : Int32) (z5 : (Nat → Int32)) (z6 : Int32) (z7 : Int64) : Option ((Int32 × (Nat → Int32) × Int32 × Int64) ⊕ ((((Nat → Int32) × Int32 × Int64) ⊕ ((Nat → Int32) × Int32 × Int64)))) :=
  if 36 ≤ z4 then (some (.inr (.inr (z5, z6, z7)))) else (if z6 ≤ 0 then (some (.inr (.inr (z5, z6, z7)))) else ((rd 36 z5 (z6 - 1)).bind fun v15 => if (v15 / 3) = x0_aim then (some (.inr (.inl (z5, (z6 - 1), z7)))) else ((lp (u4 (fX5_arrives_s79 x0_edgeA x0_edgeB x0_edgeCost x0_edgeLine x0_change x0_away x0_steps x0_nodes x0_stepCount x0_edgeCount x0_aim v15)) n (0, z5, (z6 - 1), z7)).bind (u3 fun w22 w23 w24 => (lp (u4 (fX5_arrives_s114 x0_edgeA x0_edgeB x0_edgeCost x0_edgeLine x0_change x0_away x0_steps x0_nodes x0_stepCount x0_edgeCount x0_aim v15)) n (0, w22, w23, w24)).bind (u3 fun w31 w32 w33 => some (.inl ((z4 + 1), w31, w32, w33)))))))
def fX5_arrives (n : Nat) (X0 : WyT) (p1 : Int32) (p2 : Int64) : Option (Int32 × (Nat → Int32) × Int32 × Int64) :=
  u14 (fun (x0_edgeA : (Nat → Int32)) (x0_edgeB : (Nat → Int32)) (x0_edgeCost : (Nat → Int32)) (x0_edgeLine : (Nat → Int32)) (x0_change : (Nat → Int32)) (x0_away : (Nat → Int32)) (x0_steps : (Nat → Int32)) (x0_nodes : (Nat → Int32)) (x0_stepCount : Int32) (x0_open : (Nat → Int32)) (x0_openCount : Int32) (x0_seen : Int64) (x0_edgeCount : Int32) (x0_aim : Int32) => (some (p2 ||| ((1 : Int64) <<< ((p1).toInt64 &&& 63)))).bind fun t1 => (wr 36 x0_open (0) p1).bind fun f2 => (lp (u4 (fX5_arrives_s24 n x0_edgeA x0_edgeB x0_edgeCost x0_edgeLine x0_change x0_away x0_steps x0_nodes x0_stepCount x0_edgeCount x0_aim)) n (0, f2, 1, t1)).bind (Sum.elim (u3 fun w9 w10 w11 => some (1, w9, w10, w11)) (u3 fun w12 w13 w14 => some (0, w12, w13, w14)))) X0
set_option maxHeartbeats 4000000 in
set_option maxRecDepth 100000 in
theorem kX5_arrives (l : Launch) (d : DT) (h0 : Nat → Nat) (n : Nat) (x0_edgeA : (Nat → Int32)) (x0_edgeB : (Nat → Int32)) (x0_edgeCost : (Nat → Int32)) (x0_edgeLine : (Nat → Int32)) (x0_change : (Nat → Int32)) (x0_away : (Nat → Int32)) (x0_steps : (Nat → Int32)) (x0_nodes : (Nat → Int32)) (x0_stepCount : Int32) (x0_open : (Nat → Int32)) (x0_openCount : Int32) (x0_seen : Int64) (x0_edgeCount : Int32) (x0_aim : Int32) (p1 : Int32) (p2 : Int64)  {out : Int32 × (Nat → Int32) × Int32 × Int64} (hf : fX5_arrives n (x0_edgeA, x0_edgeB, x0_edgeCost, x0_edgeLine, x0_change, x0_away, x0_steps, x0_nodes, x0_stepCount, x0_open, x0_openCount, x0_seen, x0_edgeCount, x0_aim) p1 p2 = some out) : Ct l d yX5_arrives cX5_arrives 9 (some .boolean) { frames := 1, cells := 0, slots := 0, locals := 24 } [.ref (h0 0), .int p1, .long p2] [gWy d h0 x0_edgeA x0_edgeB x0_edgeCost x0_edgeLine x0_change x0_away x0_steps x0_nodes x0_stepCount x0_open x0_openCount x0_seen x0_edgeCount x0_aim] (fun _ : Unit => (some (.int out.1), [gWy d h0 x0_edgeA x0_edgeB x0_edgeCost x0_edgeLine x0_change x0_away x0_steps x0_nodes x0_stepCount (out.2.1) (out.2.2.1) (out.2.2.2) x0_edgeCount x0_aim])) := by
  refine Ct.of (by decide) (Nat.le_of_ble_eq_true rfl) ?_
  intro Φ hl hK hR
  subst hl
  have hK : Ok d Φ RX5 "arrives" cX5_arrives 9 (some .boolean) { frames := 1, cells := 0, slots := 0, locals := 24 } := hK
  unfold fX5_arrives at hf
  have hf := un14 hf
  show J d Φ 9 [gWy d h0 x0_edgeA x0_edgeB x0_edgeCost x0_edgeLine x0_change x0_away x0_steps x0_nodes x0_stepCount x0_open x0_openCount x0_seen x0_edgeCount x0_aim] 0 0 0 [(0, .ref (h0 0)), (1, .int p1), (2, .long p2)] []
  refine J_aload_n hK dX5_arrives_0 rfl 0 rfl rfl ?_
  refine J_lload_n hK dX5_arrives_1 rfl 2 rfl rfl ?_
  refine J_lconst (v := 1) hK dX5_arrives_2 rfl (by decide) ?_
  refine J_iload_n hK dX5_arrives_3 rfl 1 rfl rfl ?_
  refine J_lshl hK dX5_arrives_4 rfl ?_
  refine J_lor hK dX5_arrives_5 rfl ?_
  obtain ⟨t1, et1, hf⟩ := bs hf
  refine J_nml et1 ?_
  refine J_put (g' := gWy d h0 x0_edgeA x0_edgeB x0_edgeCost x0_edgeLine x0_change x0_away x0_steps x0_nodes x0_stepCount x0_open x0_openCount t1 x0_edgeCount x0_aim) (gs' := [gWy d h0 x0_edgeA x0_edgeB x0_edgeCost x0_edgeLine x0_change x0_away x0_steps x0_nodes x0_stepCount x0_open x0_openCount t1 x0_edgeCount x0_aim]) hK fp_RX5_109 dX5_arrives_6 rfl 0 0 rfl rfl rfl rfl (Nat.le_of_ble_eq_true rfl) rfl rfl ?_
  refine J_aload_n hK dX5_arrives_9 rfl 0 rfl rfl ?_
  refine J_get hK fo_RX5_36 dX5_arrives_10 rfl 0 0 rfl rfl rfl ?_
  refine J_iconst (v := 0) hK dX5_arrives_13 rfl (by decide) ?_
  refine J_iload_n hK dX5_arrives_14 rfl 1 rfl rfl ?_
  obtain ⟨f2, ef2, hf⟩ := bs hf
  refine J_iast (g' := gWy d h0 x0_edgeA x0_edgeB x0_edgeCost x0_edgeLine x0_change x0_away x0_steps x0_nodes x0_stepCount f2 x0_openCount t1 x0_edgeCount x0_aim) (gs' := [gWy d h0 x0_edgeA x0_edgeB x0_edgeCost x0_edgeLine x0_change x0_away x0_steps x0_nodes x0_stepCount f2 x0_openCount t1 x0_edgeCount x0_aim]) hK dX5_arrives_15 rfl 0 9 rfl rfl ef2 rfl rfl ?_
  refine J_aload_n hK dX5_arrives_16 rfl 0 rfl rfl ?_
  refine J_iconst (v := 1) hK dX5_arrives_17 rfl (by decide) ?_
  refine J_put (g' := gWy d h0 x0_edgeA x0_edgeB x0_edgeCost x0_edgeLine x0_change x0_away x0_steps x0_nodes x0_stepCount f2 (1) t1 x0_edgeCount x0_aim) (gs' := [gWy d h0 x0_edgeA x0_edgeB x0_edgeCost x0_edgeLine x0_change x0_away x0_steps x0_nodes x0_stepCount f2 (1) t1 x0_edgeCount x0_aim]) hK fp_RX5_113 dX5_arrives_18 rfl 0 0 rfl rfl rfl rfl (Nat.le_of_ble_eq_true rfl) rfl rfl ?_
  refine J_iconst (v := 0) hK dX5_arrives_21 rfl (by decide) ?_
  refine J_istore (L' := [(4, .int (0)), (0, .ref (h0 0)), (1, .int p1), (2, .long p2)]) hK dX5_arrives_22 rfl (by decide) rfl ?_
  obtain ⟨e8, hl3, hf⟩ := bs hf
  have hx3_74 : ∀ (w9 : (Nat → Int32)) (w10 : Int32) (w11 : Int64), (.inl (w9, w10, w11)) = e8 → J d Φ 9 [gWy d h0 x0_edgeA x0_edgeB x0_edgeCost x0_edgeLine x0_change x0_away x0_steps x0_nodes x0_stepCount w9 w10 w11 x0_edgeCount x0_aim] 0 0 74 [] [] := by
    intro w9 w10 w11 he
    rw [← he] at hf
    simp only [Sum.elim_inl, Sum.elim_inr] at hf
    have hf := un3 hf
    refine J_iconst (v := 1) hK dX5_arrives_74 rfl (by decide) ?_
    obtain rfl := Option.some.inj hf
    exact J_zret hK hR dX5_arrives_75 () rfl rfl (by decide) (by decide)
  have hx3_166 : ∀ (w12 : (Nat → Int32)) (w13 : Int32) (w14 : Int64), (.inr (w12, w13, w14)) = e8 → J d Φ 9 [gWy d h0 x0_edgeA x0_edgeB x0_edgeCost x0_edgeLine x0_change x0_away x0_steps x0_nodes x0_stepCount w12 w13 w14 x0_edgeCount x0_aim] 0 0 166 [] [] := by
    intro w12 w13 w14 he
    rw [← he] at hf
    simp only [Sum.elim_inl, Sum.elim_inr] at hf
    have hf := un3 hf
    refine J_iconst (v := 0) hK dX5_arrives_166 rfl (by decide) ?_
    obtain rfl := Option.some.inj hf
    exact J_zret hK hR dX5_arrives_167 () rfl rfl (by decide) (by decide)
  have lo3 : ∀ (k : Nat) (z4 : Int32) (z5 : (Nat → Int32)) (z6 : Int32) (z7 : Int64), lp (u4 (fX5_arrives_s24 n x0_edgeA x0_edgeB x0_edgeCost x0_edgeLine x0_change x0_away x0_steps x0_nodes x0_stepCount x0_edgeCount x0_aim)) k (z4, z5, z6, z7) = some e8 → J d Φ 9 [gWy d h0 x0_edgeA x0_edgeB x0_edgeCost x0_edgeLine x0_change x0_away x0_steps x0_nodes x0_stepCount z5 z6 z7 x0_edgeCount x0_aim] 0 0 24 [(0, .ref (h0 0)), (4, .int z4)] [] := by
    intro k
    induction k with
    | zero => intro z4 z5 z6 z7 h; cases h
    | succ k ih3 =>
      intro z4 z5 z6 z7 h
      obtain ⟨k2, rr3, hk2, hs3, hr3⟩ := lp_ok h
      cases hk2
      have hs3 : fX5_arrives_s24 n x0_edgeA x0_edgeB x0_edgeCost x0_edgeLine x0_change x0_away x0_steps x0_nodes x0_stepCount x0_edgeCount x0_aim z4 z5 z6 z7 = some rr3 := hs3
      unfold fX5_arrives_s24 at hs3
      refine J_iload hK dX5_arrives_24 rfl 1 rfl ?_
      refine J_bipush (v := 36) hK dX5_arrives_26 rfl (by decide) ?_
      refine J_icmp_ge (tg := 166) hK dX5_arrives_28 rfl rfl (fun hc28 => ?_) (fun hc28 => ?_)
      · have hs3 := ip hc28 hs3
        exact J_loc [] rfl (hx3_166 z5 z6 z7 (lpx hs3 hr3))
      · have hs3 := iq hc28 hs3
        refine J_aload_n hK dX5_arrives_31 rfl 0 rfl rfl ?_
        refine J_get hK fo_RX5_113 dX5_arrives_32 rfl 0 0 rfl rfl rfl ?_
        refine J_if_le (tg := 166) hK dX5_arrives_35 rfl rfl (fun hc35 => ?_) (fun hc35 => ?_)
        · have hs3 := ip hc35 hs3
          exact J_loc [] rfl (hx3_166 z5 z6 z7 (lpx hs3 hr3))
        · have hs3 := iq hc35 hs3
          refine J_aload_n hK dX5_arrives_38 rfl 0 rfl rfl ?_
          refine J_dup hK dX5_arrives_39 rfl rfl ?_
          refine J_get hK fo_RX5_113 dX5_arrives_40 rfl 0 0 rfl rfl rfl ?_
          refine J_iconst (v := 1) hK dX5_arrives_43 rfl (by decide) ?_
          refine J_isub hK dX5_arrives_44 rfl ?_
          refine J_put (g' := gWy d h0 x0_edgeA x0_edgeB x0_edgeCost x0_edgeLine x0_change x0_away x0_steps x0_nodes x0_stepCount z5 (z6 - 1) z7 x0_edgeCount x0_aim) (gs' := [gWy d h0 x0_edgeA x0_edgeB x0_edgeCost x0_edgeLine x0_change x0_away x0_steps x0_nodes x0_stepCount z5 (z6 - 1) z7 x0_edgeCount x0_aim]) hK fp_RX5_113 dX5_arrives_45 rfl 0 0 rfl rfl rfl rfl (Nat.le_of_ble_eq_true rfl) rfl rfl ?_
          refine J_aload_n hK dX5_arrives_48 rfl 0 rfl rfl ?_
          refine J_get hK fo_RX5_36 dX5_arrives_49 rfl 0 0 rfl rfl rfl ?_
          refine J_aload_n hK dX5_arrives_52 rfl 0 rfl rfl ?_
          refine J_get hK fo_RX5_113 dX5_arrives_53 rfl 0 0 rfl rfl rfl ?_
          obtain ⟨v15, ev15, hs3⟩ := bs hs3
          refine J_iald hK dX5_arrives_56 rfl 0 9 rfl rfl ev15 ?_
          refine J_istore (L' := [(5, .int v15), (0, .ref (h0 0)), (4, .int z4)]) hK dX5_arrives_57 rfl (by decide) rfl ?_
          refine J_iload hK dX5_arrives_59 rfl 0 rfl ?_
          refine J_iconst (v := 3) hK dX5_arrives_61 rfl (by decide) ?_
          refine J_idiv hK dX5_arrives_62 rfl (by decide) ?_
          refine J_istore (L' := [(6, .int (v15 / 3)), (5, .int v15), (0, .ref (h0 0)), (4, .int z4)]) hK dX5_arrives_63 rfl (by decide) rfl ?_
          refine J_iload hK dX5_arrives_65 rfl 0 rfl ?_
          refine J_aload_n hK dX5_arrives_67 rfl 2 rfl rfl ?_
          refine J_get hK fo_RX5_39 dX5_arrives_68 rfl 0 0 rfl rfl rfl ?_
          refine J_icmp_ne (tg := 76) hK dX5_arrives_71 rfl rfl (fun hc71 => ?_) (fun hc71 => ?_)
          · have hs3 := iq hc71 hs3
            refine J_iconst (v := 0) hK dX5_arrives_76 rfl (by decide) ?_
            refine J_istore (L' := [(7, .int (0)), (6, .int (v15 / 3)), (5, .int v15), (0, .ref (h0 0)), (4, .int z4)]) hK dX5_arrives_77 rfl (by decide) rfl ?_
            obtain ⟨e21, hl16, hs3⟩ := bs hs3
            have hx16_111 : ∀ (w22 : (Nat → Int32)) (w23 : Int32) (w24 : Int64), (w22, w23, w24) = e21 → J d Φ 9 [gWy d h0 x0_edgeA x0_edgeB x0_edgeCost x0_edgeLine x0_change x0_away x0_steps x0_nodes x0_stepCount w22 w23 w24 x0_edgeCount x0_aim] 0 0 111 [(0, .ref (h0 0)), (4, .int z4), (5, .int v15)] [] := by
              intro w22 w23 w24 he
              rw [← he] at hs3
              have hs3 := un3 hs3
              refine J_iconst (v := 0) hK dX5_arrives_111 rfl (by decide) ?_
              refine J_istore (L' := [(7, .int (0)), (0, .ref (h0 0)), (4, .int z4), (5, .int v15)]) hK dX5_arrives_112 rfl (by decide) rfl ?_
              obtain ⟨e30, hl25, hs3⟩ := bs hs3
              have hx25_160 : ∀ (w31 : (Nat → Int32)) (w32 : Int32) (w33 : Int64), (w31, w32, w33) = e30 → J d Φ 9 [gWy d h0 x0_edgeA x0_edgeB x0_edgeCost x0_edgeLine x0_change x0_away x0_steps x0_nodes x0_stepCount w31 w32 w33 x0_edgeCount x0_aim] 0 0 160 [(0, .ref (h0 0)), (4, .int z4)] [] := by
                intro w31 w32 w33 he
                rw [← he] at hs3
                have hs3 := un3 hs3
                refine J_iinc (L' := [(4, .int (z4 + 1)), (0, .ref (h0 0))]) (v := (z4 + 1)) hK dX5_arrives_160 rfl 1 rfl rfl (by decide) rfl ?_
                refine J_goto hK dX5_arrives_163 (n := 24) rfl ?_
                exact J_loc [1, 0] rfl (ih3 (z4 + 1) w31 w32 w33 (lpc hs3 hr3))
              have lo25 : ∀ (k : Nat) (z26 : Int32) (z27 : (Nat → Int32)) (z28 : Int32) (z29 : Int64), lp (u4 (fX5_arrives_s114 x0_edgeA x0_edgeB x0_edgeCost x0_edgeLine x0_change x0_away x0_steps x0_nodes x0_stepCount x0_edgeCount x0_aim v15)) k (z26, z27, z28, z29) = some e30 → J d Φ 9 [gWy d h0 x0_edgeA x0_edgeB x0_edgeCost x0_edgeLine x0_change x0_away x0_steps x0_nodes x0_stepCount z27 z28 z29 x0_edgeCount x0_aim] 0 0 114 [(0, .ref (h0 0)), (4, .int z4), (5, .int v15), (7, .int z26)] [] := by
                intro k
                induction k with
                | zero => intro z26 z27 z28 z29 h; cases h
                | succ k ih25 =>
                  intro z26 z27 z28 z29 h
                  obtain ⟨k2, rr25, hk2, hs25, hr25⟩ := lp_ok h
                  cases hk2
                  have hs25 : fX5_arrives_s114 x0_edgeA x0_edgeB x0_edgeCost x0_edgeLine x0_change x0_away x0_steps x0_nodes x0_stepCount x0_edgeCount x0_aim v15 z26 z27 z28 z29 = some rr25 := hs25
                  unfold fX5_arrives_s114 at hs25
                  refine J_iload hK dX5_arrives_114 rfl 3 rfl ?_
                  refine J_aload_n hK dX5_arrives_116 rfl 0 rfl rfl ?_
                  refine J_get hK fo_RX5_52 dX5_arrives_117 rfl 0 0 rfl rfl rfl ?_
                  refine J_icmp_ge (tg := 160) hK dX5_arrives_120 rfl rfl (fun hc120 => ?_) (fun hc120 => ?_)
                  · have hs25 := ip hc120 hs25
                    exact J_loc [0, 1] rfl (hx25_160 z27 z28 z29 (lpx hs25 hr25))
                  · have hs25 := iq hc120 hs25
                    refine J_aload_n hK dX5_arrives_123 rfl 0 rfl rfl ?_
                    refine J_iload hK dX5_arrives_124 rfl 3 rfl ?_
                    refine J_iload hK dX5_arrives_126 rfl 2 rfl ?_
                    obtain ⟨v34, e35, hs25⟩ := bs hs25
                    refine J_callV (m' := 1) (ce' := 0) (sl' := 0) (gr := []) (gs' := fun _ => [gWy d h0 x0_edgeA x0_edgeB x0_edgeCost x0_edgeLine x0_change x0_away x0_steps x0_nodes x0_stepCount z27 z28 z29 x0_edgeCount x0_aim]) (st' := fun _ => [.int v34]) (st := []) hK dX5_arrives_128 cv_RX5_102 iv_yX5_otherEnd (As := [.int z26, .int v15]) (kX5_otherEnd _ d h0 x0_edgeA x0_edgeB x0_edgeCost x0_edgeLine x0_change x0_away x0_steps x0_nodes x0_stepCount z27 z28 z29 x0_edgeCount x0_aim z26 v15 e35) rfl rfl (Nat.le_of_ble_eq_true rfl) (by decide) 0 0 rfl rfl rfl [0] [] rfl rfl rfl rfl [0] rfl (fun _ => rfl) (fun _ => rfl) rfl rfl rfl (fun _ => rfl) (fun _ => ?_)
                    refine J_istore (L' := [(8, .int v34), (0, .ref (h0 0)), (4, .int z4), (5, .int v15), (7, .int z26)]) hK dX5_arrives_131 rfl (by decide) rfl ?_
                    refine J_iload hK dX5_arrives_133 rfl 0 rfl ?_
                    refine J_iconst (v := (-1)) hK dX5_arrives_135 rfl (by decide) ?_
                    refine J_icmp_eq (tg := 154) hK dX5_arrives_136 rfl rfl (fun hc136 => ?_) (fun hc136 => ?_)
                    · have hs25 := ip hc136 hs25
                      refine J_iinc (L' := [(7, .int (z26 + 1)), (8, .int v34), (0, .ref (h0 0)), (4, .int z4), (5, .int v15)]) (v := (z26 + 1)) hK dX5_arrives_154 rfl 4 rfl rfl (by decide) rfl ?_
                      refine J_goto hK dX5_arrives_157 (n := 114) rfl ?_
                      exact J_loc [2, 3, 4, 0] rfl (ih25 (z26 + 1) z27 z28 z29 (lpc hs25 hr25))
                    · have hs25 := iq hc136 hs25
                      refine J_aload_n hK dX5_arrives_139 rfl 1 rfl rfl ?_
                      refine J_iload hK dX5_arrives_140 rfl 3 rfl ?_
                      refine J_iload hK dX5_arrives_142 rfl 0 rfl ?_
                      refine J_aload_n hK dX5_arrives_144 rfl 1 rfl rfl ?_
                      refine J_get hK fo_RX5_18 dX5_arrives_145 rfl 0 0 rfl rfl rfl ?_
                      refine J_iload hK dX5_arrives_148 rfl 4 rfl ?_
                      obtain ⟨v36, ev36, hs25⟩ := bs hs25
                      refine J_iald hK dX5_arrives_150 rfl 0 3 rfl rfl ev36 ?_
                      obtain ⟨⟨g37, g38, g39⟩, e40, hs25⟩ := bs hs25
                      have hs25 := un3 hs25
                      refine J_callV (m' := 1) (ce' := 0) (sl' := 0) (gr := []) (gs' := fun _ => [gWy d h0 x0_edgeA x0_edgeB x0_edgeCost x0_edgeLine x0_change x0_away x0_steps x0_nodes x0_stepCount g37 g38 g39 x0_edgeCount x0_aim]) (st' := fun _ => []) (st := []) hK dX5_arrives_151 cv_RX5_116 iv_yX5_openIfCheapest (As := [.int v15, .int v34, .int v36]) (kX5_openIfCheapest _ d h0 x0_edgeA x0_edgeB x0_edgeCost x0_edgeLine x0_change x0_away x0_steps x0_nodes x0_stepCount z27 z28 z29 x0_edgeCount x0_aim v15 v34 v36 e40) rfl rfl (Nat.le_of_ble_eq_true rfl) (by decide) 0 0 rfl rfl rfl [0] [] rfl rfl rfl rfl [0] rfl (fun _ => rfl) (fun _ => rfl) rfl rfl rfl (fun _ => rfl) (fun _ => ?_)
                      refine J_iinc (L' := [(7, .int (z26 + 1)), (8, .int v34), (0, .ref (h0 0)), (4, .int z4), (5, .int v15)]) (v := (z26 + 1)) hK dX5_arrives_154 rfl 4 rfl rfl (by decide) rfl ?_
                      refine J_goto hK dX5_arrives_157 (n := 114) rfl ?_
                      exact J_loc [2, 3, 4, 0] rfl (ih25 (z26 + 1) g37 g38 g39 (lpc hs25 hr25))
              exact J_loc [1, 2, 3, 0] rfl (lo25 n (0) w22 w23 w24 hl25)
            have lo16 : ∀ (k : Nat) (z17 : Int32) (z18 : (Nat → Int32)) (z19 : Int32) (z20 : Int64), lp (u4 (fX5_arrives_s79 x0_edgeA x0_edgeB x0_edgeCost x0_edgeLine x0_change x0_away x0_steps x0_nodes x0_stepCount x0_edgeCount x0_aim v15)) k (z17, z18, z19, z20) = some e21 → J d Φ 9 [gWy d h0 x0_edgeA x0_edgeB x0_edgeCost x0_edgeLine x0_change x0_away x0_steps x0_nodes x0_stepCount z18 z19 z20 x0_edgeCount x0_aim] 0 0 79 [(0, .ref (h0 0)), (4, .int z4), (5, .int v15), (6, .int (v15 / 3)), (7, .int z17)] [] := by
              intro k
              induction k with
              | zero => intro z17 z18 z19 z20 h; cases h
              | succ k ih16 =>
                intro z17 z18 z19 z20 h
                obtain ⟨k2, rr16, hk2, hs16, hr16⟩ := lp_ok h
                cases hk2
                have hs16 : fX5_arrives_s79 x0_edgeA x0_edgeB x0_edgeCost x0_edgeLine x0_change x0_away x0_steps x0_nodes x0_stepCount x0_edgeCount x0_aim v15 z17 z18 z19 z20 = some rr16 := hs16
                unfold fX5_arrives_s79 at hs16
                refine J_iload hK dX5_arrives_79 rfl 4 rfl ?_
                refine J_iconst (v := 3) hK dX5_arrives_81 rfl (by decide) ?_
                refine J_icmp_ge (tg := 111) hK dX5_arrives_82 rfl rfl (fun hc82 => ?_) (fun hc82 => ?_)
                · have hs16 := ip hc82 hs16
                  exact J_loc [0, 1, 2] rfl (hx16_111 z18 z19 z20 (lpx hs16 hr16))
                · have hs16 := iq hc82 hs16
                  refine J_aload_n hK dX5_arrives_85 rfl 0 rfl rfl ?_
                  refine J_iload hK dX5_arrives_86 rfl 2 rfl ?_
                  refine J_iload hK dX5_arrives_88 rfl 3 rfl ?_
                  refine J_iconst (v := 3) hK dX5_arrives_90 rfl (by decide) ?_
                  refine J_imul hK dX5_arrives_91 rfl ?_
                  refine J_iload hK dX5_arrives_92 rfl 4 rfl ?_
                  refine J_iadd hK dX5_arrives_94 rfl ?_
                  refine J_aload_n hK dX5_arrives_95 rfl 0 rfl rfl ?_
                  refine J_get hK fo_RX5_24 dX5_arrives_96 rfl 0 0 rfl rfl rfl ?_
                  refine J_iload hK dX5_arrives_99 rfl 3 rfl ?_
                  obtain ⟨v41, ev41, hs16⟩ := bs hs16
                  refine J_iald hK dX5_arrives_101 rfl 0 5 rfl rfl ev41 ?_
                  obtain ⟨⟨g42, g43, g44⟩, e45, hs16⟩ := bs hs16
                  have hs16 := un3 hs16
                  refine J_callV (m' := 1) (ce' := 0) (sl' := 0) (gr := []) (gs' := fun _ => [gWy d h0 x0_edgeA x0_edgeB x0_edgeCost x0_edgeLine x0_change x0_away x0_steps x0_nodes x0_stepCount g42 g43 g44 x0_edgeCount x0_aim]) (st' := fun _ => []) (st := []) hK dX5_arrives_102 cv_RX5_116 iv_yX5_openIfCheapest (As := [.int v15, .int (((v15 / 3) * 3) + z17), .int v41]) (kX5_openIfCheapest _ d h0 x0_edgeA x0_edgeB x0_edgeCost x0_edgeLine x0_change x0_away x0_steps x0_nodes x0_stepCount z18 z19 z20 x0_edgeCount x0_aim v15 (((v15 / 3) * 3) + z17) v41 e45) rfl rfl (Nat.le_of_ble_eq_true rfl) (by decide) 0 0 rfl rfl rfl [0] [] rfl rfl rfl rfl [0] rfl (fun _ => rfl) (fun _ => rfl) rfl rfl rfl (fun _ => rfl) (fun _ => ?_)
                  refine J_iinc (L' := [(7, .int (z17 + 1)), (0, .ref (h0 0)), (4, .int z4), (5, .int v15), (6, .int (v15 / 3))]) (v := (z17 + 1)) hK dX5_arrives_105 rfl 4 rfl rfl (by decide) rfl ?_
                  refine J_goto hK dX5_arrives_108 (n := 79) rfl ?_
                  exact J_loc [1, 2, 3, 4, 0] rfl (ih16 (z17 + 1) g42 g43 g44 (lpc hs16 hr16))
            exact J_loc [3, 4, 2, 1, 0] rfl (lo16 n (0) z5 (z6 - 1) z7 hl16)
          · have hs3 := ip hc71 hs3
            exact J_loc [] rfl (hx3_74 z5 (z6 - 1) z7 (lpx hs3 hr3))
  exact J_loc [1, 0] rfl (lo3 n (0) f2 (1) t1 hl3)

def fX1_ofGoods (X0 : LdT) (p1 : Int32) (p2 : Int32) : Option (Int32) :=
  u11 (fun (x0_lineCount : Int32) (x0_goodsCount : Int32) (x0_workCount : Int32) (x0_years : Int32) (x0_lines : (Nat → Int32)) (x0_goods : (Nat → Int32)) (x0_works : (Nat → Int32)) (x0_change : (Nat → Int32)) (x0_coin : (Nat → Int32)) (x0_knownFree : (Nat → Int32)) (x0_isKnown : Int32) => (rd 24 x0_goods ((p1 * 3) + p2)).bind fun v1 => some v1) X0
set_option maxHeartbeats 4000000 in
set_option maxRecDepth 100000 in
theorem kX1_ofGoods (l : Launch) (d : DT) (h0 : Nat → Nat) (x0_lineCount : Int32) (x0_goodsCount : Int32) (x0_workCount : Int32) (x0_years : Int32) (x0_lines : (Nat → Int32)) (x0_goods : (Nat → Int32)) (x0_works : (Nat → Int32)) (x0_change : (Nat → Int32)) (x0_coin : (Nat → Int32)) (x0_knownFree : (Nat → Int32)) (x0_isKnown : Int32) (p1 : Int32) (p2 : Int32)  {out : Int32} (hf : fX1_ofGoods (x0_lineCount, x0_goodsCount, x0_workCount, x0_years, x0_lines, x0_goods, x0_works, x0_change, x0_coin, x0_knownFree, x0_isKnown) p1 p2 = some out) : Ct l d yX1_ofGoods cX1_ofGoods 3 (some .int) { frames := 0, cells := 0, slots := 0, locals := 0 } [.ref (h0 0), .int p1, .int p2] [gLd d h0 x0_lineCount x0_goodsCount x0_workCount x0_years x0_lines x0_goods x0_works x0_change x0_coin x0_knownFree x0_isKnown] (fun _ : Unit => (some (.int out), [gLd d h0 x0_lineCount x0_goodsCount x0_workCount x0_years x0_lines x0_goods x0_works x0_change x0_coin x0_knownFree x0_isKnown])) := by
  refine Ct.of (by decide) (Nat.le_of_ble_eq_true rfl) ?_
  intro Φ hl hK hR
  subst hl
  have hK : Ok d Φ RX1 "ofGoods" cX1_ofGoods 3 (some .int) { frames := 0, cells := 0, slots := 0, locals := 0 } := hK
  unfold fX1_ofGoods at hf
  have hf := un11 hf
  show J d Φ 3 [gLd d h0 x0_lineCount x0_goodsCount x0_workCount x0_years x0_lines x0_goods x0_works x0_change x0_coin x0_knownFree x0_isKnown] 0 0 0 [(0, .ref (h0 0)), (1, .int p1), (2, .int p2)] []
  refine J_aload_n hK dX1_ofGoods_0 rfl 0 rfl rfl ?_
  refine J_get hK fo_RX1_15 dX1_ofGoods_1 rfl 0 0 rfl rfl rfl ?_
  refine J_iload_n hK dX1_ofGoods_4 rfl 1 rfl rfl ?_
  refine J_iconst (v := 3) hK dX1_ofGoods_5 rfl (by decide) ?_
  refine J_imul hK dX1_ofGoods_6 rfl ?_
  refine J_iload_n hK dX1_ofGoods_7 rfl 2 rfl rfl ?_
  refine J_iadd hK dX1_ofGoods_8 rfl ?_
  obtain ⟨v1, ev1, hf⟩ := bs hf
  refine J_iald hK dX1_ofGoods_9 rfl 0 2 rfl rfl ev1 ?_
  obtain rfl := Option.some.inj hf
  exact J_iret hK hR dX1_ofGoods_10 () rfl (by decide) (by decide)

def fX5_nearByLines_s4 (x0_edgeA : (Nat → Int32)) (x0_edgeB : (Nat → Int32)) (x0_edgeCost : (Nat → Int32)) (x0_edgeCount : Int32) (z2 : Int32) (z3 : Int32) (z4 : (Nat → Int32)) : Option ((Int32 × Int32 × (Nat → Int32)) ⊕ (Int32 × (Nat → Int32))) :=
  if x0_edgeCount ≤ z3 then (some (.inr (z2, z4))) else ((rd 60 x0_edgeA z3).bind fun v9 => (rd 60 x0_edgeB z3).bind fun v10 => (rd 60 x0_edgeCost z3).bind fun v11 => (rd 36 z4 v9).bind fun v12 => (rd 36 z4 v10).bind fun v13 => if v13 ≤ (v12 + v11) then ((rd 36 z4 v10).bind fun v14 => (rd 36 z4 v9).bind fun v15 => if v15 ≤ (v14 + v11) then (some (.inl (z2, (z3 + 1), z4))) else ((rd 36 z4 v10).bind fun v16 => (wr 36 z4 v9 (v16 + v11)).bind fun f17 => some (.inl (1, (z3 + 1), f17)))) else ((rd 36 z4 v9).bind fun v18 => (wr 36 z4 v10 (v18 + v11)).bind fun f19 => some (.inl (1, (z3 + 1), f19))))
def fX5_nearByLines (n : Nat) (X0 : WyT) : Option (Int32 × (Nat → Int32)) :=
  u14 (fun (x0_edgeA : (Nat → Int32)) (x0_edgeB : (Nat → Int32)) (x0_edgeCost : (Nat → Int32)) (x0_edgeLine : (Nat → Int32)) (x0_change : (Nat → Int32)) (x0_away : (Nat → Int32)) (x0_steps : (Nat → Int32)) (x0_nodes : (Nat → Int32)) (x0_stepCount : Int32) (x0_open : (Nat → Int32)) (x0_openCount : Int32) (x0_seen : Int64) (x0_edgeCount : Int32) (x0_aim : Int32) => (lp (u3 (fX5_nearByLines_s4 x0_edgeA x0_edgeB x0_edgeCost x0_edgeCount)) n (0, 0, x0_away)).bind (u2 fun w6 w7 => (zb w6).bind fun v8 => some (v8, w7))) X0
set_option maxHeartbeats 4000000 in
set_option maxRecDepth 100000 in
theorem kX5_nearByLines (l : Launch) (d : DT) (h0 : Nat → Nat) (n : Nat) (x0_edgeA : (Nat → Int32)) (x0_edgeB : (Nat → Int32)) (x0_edgeCost : (Nat → Int32)) (x0_edgeLine : (Nat → Int32)) (x0_change : (Nat → Int32)) (x0_away : (Nat → Int32)) (x0_steps : (Nat → Int32)) (x0_nodes : (Nat → Int32)) (x0_stepCount : Int32) (x0_open : (Nat → Int32)) (x0_openCount : Int32) (x0_seen : Int64) (x0_edgeCount : Int32) (x0_aim : Int32)  {out : Int32 × (Nat → Int32)} (hf : fX5_nearByLines n (x0_edgeA, x0_edgeB, x0_edgeCost, x0_edgeLine, x0_change, x0_away, x0_steps, x0_nodes, x0_stepCount, x0_open, x0_openCount, x0_seen, x0_edgeCount, x0_aim) = some out) : Ct l d yX5_nearByLines cX5_nearByLines 6 (some .boolean) { frames := 0, cells := 0, slots := 0, locals := 0 } [.ref (h0 0)] [gWy d h0 x0_edgeA x0_edgeB x0_edgeCost x0_edgeLine x0_change x0_away x0_steps x0_nodes x0_stepCount x0_open x0_openCount x0_seen x0_edgeCount x0_aim] (fun _ : Unit => (some (.int out.1), [gWy d h0 x0_edgeA x0_edgeB x0_edgeCost x0_edgeLine x0_change (out.2) x0_steps x0_nodes x0_stepCount x0_open x0_openCount x0_seen x0_edgeCount x0_aim])) := by
  refine Ct.of (by decide) (Nat.le_of_ble_eq_true rfl) ?_
  intro Φ hl hK hR
  subst hl
  have hK : Ok d Φ RX5 "nearByLines" cX5_nearByLines 6 (some .boolean) { frames := 0, cells := 0, slots := 0, locals := 0 } := hK
  unfold fX5_nearByLines at hf
  have hf := un14 hf
  show J d Φ 6 [gWy d h0 x0_edgeA x0_edgeB x0_edgeCost x0_edgeLine x0_change x0_away x0_steps x0_nodes x0_stepCount x0_open x0_openCount x0_seen x0_edgeCount x0_aim] 0 0 0 [(0, .ref (h0 0))] []
  refine J_iconst (v := 0) hK dX5_nearByLines_0 rfl (by decide) ?_
  refine J_istore_n (L' := [(1, .int (0)), (0, .ref (h0 0))]) hK dX5_nearByLines_1 rfl rfl (by decide) rfl ?_
  refine J_iconst (v := 0) hK dX5_nearByLines_2 rfl (by decide) ?_
  refine J_istore_n (L' := [(2, .int (0)), (1, .int (0)), (0, .ref (h0 0))]) hK dX5_nearByLines_3 rfl rfl (by decide) rfl ?_
  obtain ⟨e5, hl1, hf⟩ := bs hf
  have hx1_118 : ∀ (w6 : Int32) (w7 : (Nat → Int32)), (w6, w7) = e5 → J d Φ 6 [gWy d h0 x0_edgeA x0_edgeB x0_edgeCost x0_edgeLine x0_change w7 x0_steps x0_nodes x0_stepCount x0_open x0_openCount x0_seen x0_edgeCount x0_aim] 0 0 118 [(1, .int w6)] [] := by
    intro w6 w7 he
    rw [← he] at hf
    have hf := un2 hf
    refine J_iload_n hK dX5_nearByLines_118 rfl 0 rfl rfl ?_
    obtain ⟨v8, ev8, hf⟩ := bs hf
    obtain rfl := Option.some.inj hf
    exact J_zret hK hR dX5_nearByLines_119 () (zb_ok ev8).2 (by rw [(zb_ok ev8).1]) (by decide) (by decide)
  have lo1 : ∀ (k : Nat) (z2 : Int32) (z3 : Int32) (z4 : (Nat → Int32)), lp (u3 (fX5_nearByLines_s4 x0_edgeA x0_edgeB x0_edgeCost x0_edgeCount)) k (z2, z3, z4) = some e5 → J d Φ 6 [gWy d h0 x0_edgeA x0_edgeB x0_edgeCost x0_edgeLine x0_change z4 x0_steps x0_nodes x0_stepCount x0_open x0_openCount x0_seen x0_edgeCount x0_aim] 0 0 4 [(0, .ref (h0 0)), (1, .int z2), (2, .int z3)] [] := by
    intro k
    induction k with
    | zero => intro z2 z3 z4 h; cases h
    | succ k ih1 =>
      intro z2 z3 z4 h
      obtain ⟨k2, rr1, hk2, hs1, hr1⟩ := lp_ok h
      cases hk2
      have hs1 : fX5_nearByLines_s4 x0_edgeA x0_edgeB x0_edgeCost x0_edgeCount z2 z3 z4 = some rr1 := hs1
      unfold fX5_nearByLines_s4 at hs1
      refine J_iload_n hK dX5_nearByLines_4 rfl 2 rfl rfl ?_
      refine J_aload_n hK dX5_nearByLines_5 rfl 0 rfl rfl ?_
      refine J_get hK fo_RX5_52 dX5_nearByLines_6 rfl 0 0 rfl rfl rfl ?_
      refine J_icmp_ge (tg := 118) hK dX5_nearByLines_9 rfl rfl (fun hc9 => ?_) (fun hc9 => ?_)
      · have hs1 := ip hc9 hs1
        exact J_loc [1] rfl (hx1_118 z2 z4 (lpx hs1 hr1))
      · have hs1 := iq hc9 hs1
        refine J_aload_n hK dX5_nearByLines_12 rfl 0 rfl rfl ?_
        refine J_get hK fo_RX5_9 dX5_nearByLines_13 rfl 0 0 rfl rfl rfl ?_
        refine J_iload_n hK dX5_nearByLines_16 rfl 2 rfl rfl ?_
        obtain ⟨v9, ev9, hs1⟩ := bs hs1
        refine J_iald hK dX5_nearByLines_17 rfl 0 1 rfl rfl ev9 ?_
        refine J_istore_n (L' := [(3, .int v9), (0, .ref (h0 0)), (1, .int z2), (2, .int z3)]) hK dX5_nearByLines_18 rfl rfl (by decide) rfl ?_
        refine J_aload_n hK dX5_nearByLines_19 rfl 1 rfl rfl ?_
        refine J_get hK fo_RX5_15 dX5_nearByLines_20 rfl 0 0 rfl rfl rfl ?_
        refine J_iload_n hK dX5_nearByLines_23 rfl 3 rfl rfl ?_
        obtain ⟨v10, ev10, hs1⟩ := bs hs1
        refine J_iald hK dX5_nearByLines_24 rfl 0 2 rfl rfl ev10 ?_
        refine J_istore (L' := [(4, .int v10), (3, .int v9), (0, .ref (h0 0)), (1, .int z2), (2, .int z3)]) hK dX5_nearByLines_25 rfl (by decide) rfl ?_
        refine J_aload_n hK dX5_nearByLines_27 rfl 2 rfl rfl ?_
        refine J_get hK fo_RX5_18 dX5_nearByLines_28 rfl 0 0 rfl rfl rfl ?_
        refine J_iload_n hK dX5_nearByLines_31 rfl 4 rfl rfl ?_
        obtain ⟨v11, ev11, hs1⟩ := bs hs1
        refine J_iald hK dX5_nearByLines_32 rfl 0 3 rfl rfl ev11 ?_
        refine J_istore (L' := [(5, .int v11), (4, .int v10), (3, .int v9), (0, .ref (h0 0)), (1, .int z2), (2, .int z3)]) hK dX5_nearByLines_33 rfl (by decide) rfl ?_
        refine J_aload_n hK dX5_nearByLines_35 rfl 3 rfl rfl ?_
        refine J_get hK fo_RX5_27 dX5_nearByLines_36 rfl 0 0 rfl rfl rfl ?_
        refine J_iload_n hK dX5_nearByLines_39 rfl 2 rfl rfl ?_
        obtain ⟨v12, ev12, hs1⟩ := bs hs1
        refine J_iald hK dX5_nearByLines_40 rfl 0 6 rfl rfl ev12 ?_
        refine J_iload hK dX5_nearByLines_41 rfl 0 rfl ?_
        refine J_iadd hK dX5_nearByLines_43 rfl ?_
        refine J_aload_n hK dX5_nearByLines_44 rfl 3 rfl rfl ?_
        refine J_get hK fo_RX5_27 dX5_nearByLines_45 rfl 0 0 rfl rfl rfl ?_
        refine J_iload hK dX5_nearByLines_48 rfl 1 rfl ?_
        obtain ⟨v13, ev13, hs1⟩ := bs hs1
        refine J_iald hK dX5_nearByLines_50 rfl 0 6 rfl rfl ev13 ?_
        refine J_icmp_ge (tg := 75) hK dX5_nearByLines_51 rfl rfl (fun hc51 => ?_) (fun hc51 => ?_)
        · have hs1 := ip hc51 hs1
          refine J_aload_n hK dX5_nearByLines_75 rfl 3 rfl rfl ?_
          refine J_get hK fo_RX5_27 dX5_nearByLines_76 rfl 0 0 rfl rfl rfl ?_
          refine J_iload hK dX5_nearByLines_79 rfl 1 rfl ?_
          obtain ⟨v14, ev14, hs1⟩ := bs hs1
          refine J_iald hK dX5_nearByLines_81 rfl 0 6 rfl rfl ev14 ?_
          refine J_iload hK dX5_nearByLines_82 rfl 0 rfl ?_
          refine J_iadd hK dX5_nearByLines_84 rfl ?_
          refine J_aload_n hK dX5_nearByLines_85 rfl 3 rfl rfl ?_
          refine J_get hK fo_RX5_27 dX5_nearByLines_86 rfl 0 0 rfl rfl rfl ?_
          refine J_iload_n hK dX5_nearByLines_89 rfl 2 rfl rfl ?_
          obtain ⟨v15, ev15, hs1⟩ := bs hs1
          refine J_iald hK dX5_nearByLines_90 rfl 0 6 rfl rfl ev15 ?_
          refine J_icmp_ge (tg := 112) hK dX5_nearByLines_91 rfl rfl (fun hc91 => ?_) (fun hc91 => ?_)
          · have hs1 := ip hc91 hs1
            refine J_iinc (L' := [(2, .int (z3 + 1)), (5, .int v11), (4, .int v10), (3, .int v9), (0, .ref (h0 0)), (1, .int z2)]) (v := (z3 + 1)) hK dX5_nearByLines_112 rfl 5 rfl rfl (by decide) rfl ?_
            refine J_goto hK dX5_nearByLines_115 (n := 4) rfl ?_
            exact J_loc [4, 5, 0] rfl (ih1 z2 (z3 + 1) z4 (lpc hs1 hr1))
          · have hs1 := iq hc91 hs1
            refine J_aload_n hK dX5_nearByLines_94 rfl 3 rfl rfl ?_
            refine J_get hK fo_RX5_27 dX5_nearByLines_95 rfl 0 0 rfl rfl rfl ?_
            refine J_iload_n hK dX5_nearByLines_98 rfl 2 rfl rfl ?_
            refine J_aload_n hK dX5_nearByLines_99 rfl 3 rfl rfl ?_
            refine J_get hK fo_RX5_27 dX5_nearByLines_100 rfl 0 0 rfl rfl rfl ?_
            refine J_iload hK dX5_nearByLines_103 rfl 1 rfl ?_
            obtain ⟨v16, ev16, hs1⟩ := bs hs1
            refine J_iald hK dX5_nearByLines_105 rfl 0 6 rfl rfl ev16 ?_
            refine J_iload hK dX5_nearByLines_106 rfl 0 rfl ?_
            refine J_iadd hK dX5_nearByLines_108 rfl ?_
            obtain ⟨f17, ef17, hs1⟩ := bs hs1
            refine J_iast (g' := gWy d h0 x0_edgeA x0_edgeB x0_edgeCost x0_edgeLine x0_change f17 x0_steps x0_nodes x0_stepCount x0_open x0_openCount x0_seen x0_edgeCount x0_aim) (gs' := [gWy d h0 x0_edgeA x0_edgeB x0_edgeCost x0_edgeLine x0_change f17 x0_steps x0_nodes x0_stepCount x0_open x0_openCount x0_seen x0_edgeCount x0_aim]) hK dX5_nearByLines_109 rfl 0 6 rfl rfl ef17 rfl rfl ?_
            refine J_iconst (v := 1) hK dX5_nearByLines_110 rfl (by decide) ?_
            refine J_istore_n (L' := [(1, .int (1)), (5, .int v11), (4, .int v10), (3, .int v9), (0, .ref (h0 0)), (2, .int z3)]) hK dX5_nearByLines_111 rfl rfl (by decide) rfl ?_
            refine J_iinc (L' := [(2, .int (z3 + 1)), (1, .int (1)), (5, .int v11), (4, .int v10), (3, .int v9), (0, .ref (h0 0))]) (v := (z3 + 1)) hK dX5_nearByLines_112 rfl 5 rfl rfl (by decide) rfl ?_
            refine J_goto hK dX5_nearByLines_115 (n := 4) rfl ?_
            exact J_loc [5, 1, 0] rfl (ih1 (1) (z3 + 1) f17 (lpc hs1 hr1))
        · have hs1 := iq hc51 hs1
          refine J_aload_n hK dX5_nearByLines_54 rfl 3 rfl rfl ?_
          refine J_get hK fo_RX5_27 dX5_nearByLines_55 rfl 0 0 rfl rfl rfl ?_
          refine J_iload hK dX5_nearByLines_58 rfl 1 rfl ?_
          refine J_aload_n hK dX5_nearByLines_60 rfl 3 rfl rfl ?_
          refine J_get hK fo_RX5_27 dX5_nearByLines_61 rfl 0 0 rfl rfl rfl ?_
          refine J_iload_n hK dX5_nearByLines_64 rfl 2 rfl rfl ?_
          obtain ⟨v18, ev18, hs1⟩ := bs hs1
          refine J_iald hK dX5_nearByLines_65 rfl 0 6 rfl rfl ev18 ?_
          refine J_iload hK dX5_nearByLines_66 rfl 0 rfl ?_
          refine J_iadd hK dX5_nearByLines_68 rfl ?_
          obtain ⟨f19, ef19, hs1⟩ := bs hs1
          refine J_iast (g' := gWy d h0 x0_edgeA x0_edgeB x0_edgeCost x0_edgeLine x0_change f19 x0_steps x0_nodes x0_stepCount x0_open x0_openCount x0_seen x0_edgeCount x0_aim) (gs' := [gWy d h0 x0_edgeA x0_edgeB x0_edgeCost x0_edgeLine x0_change f19 x0_steps x0_nodes x0_stepCount x0_open x0_openCount x0_seen x0_edgeCount x0_aim]) hK dX5_nearByLines_69 rfl 0 6 rfl rfl ef19 rfl rfl ?_
          refine J_iconst (v := 1) hK dX5_nearByLines_70 rfl (by decide) ?_
          refine J_istore_n (L' := [(1, .int (1)), (5, .int v11), (4, .int v10), (3, .int v9), (0, .ref (h0 0)), (2, .int z3)]) hK dX5_nearByLines_71 rfl rfl (by decide) rfl ?_
          refine J_goto hK dX5_nearByLines_72 (n := 112) rfl ?_
          refine J_iinc (L' := [(2, .int (z3 + 1)), (1, .int (1)), (5, .int v11), (4, .int v10), (3, .int v9), (0, .ref (h0 0))]) (v := (z3 + 1)) hK dX5_nearByLines_112 rfl 5 rfl rfl (by decide) rfl ?_
          refine J_goto hK dX5_nearByLines_115 (n := 4) rfl ?_
          exact J_loc [5, 1, 0] rfl (ih1 (1) (z3 + 1) f19 (lpc hs1 hr1))
  exact J_loc [2, 1, 0] rfl (lo1 n (0) (0) x0_away hl1)

def fX5_nearByChanges_s70 (z2 : Int32) (w11 : Int32) (v12 : Int32) (z14 : Int32) (z15 : (Nat → Int32)) : Option ((Int32 × (Nat → Int32)) ⊕ ((Nat → Int32))) :=
  if 3 ≤ z14 then (some (.inr z15)) else ((rd 36 z15 ((z2 * 3) + z14)).bind fun v18 => if v18 ≤ (w11 + v12) then (some (.inl ((z14 + 1), z15))) else ((wr 36 z15 ((z2 * 3) + z14) (w11 + v12)).bind fun f19 => some (.inl ((z14 + 1), f19))))
def fX5_nearByChanges_s22 (z2 : Int32) (z3 : (Nat → Int32)) (z8 : Int32) (z9 : Int32) : Option ((Int32 × Int32) ⊕ (Int32)) :=
  if 3 ≤ z9 then (some (.inr z8)) else ((rd 36 z3 ((z2 * 3) + z9)).bind fun v20 => if z8 ≤ v20 then (some (.inl (z8, (z9 + 1)))) else ((rd 36 z3 ((z2 * 3) + z9)).bind fun v21 => some (.inl (v21, (z9 + 1)))))
def fX5_nearByChanges_s2 (n : Nat) (x0_change : (Nat → Int32)) (z2 : Int32) (z3 : (Nat → Int32)) : Option ((Int32 × (Nat → Int32)) ⊕ ((Nat → Int32))) :=
  if 12 ≤ z2 then (some (.inr z3)) else ((rd 36 z3 (z2 * 3)).bind fun v6 => (lp (u2 (fX5_nearByChanges_s22 z2 z3)) n (v6, 1)).bind (fun w11 => (rd 12 x0_change z2).bind fun v12 => (lp (u2 (fX5_nearByChanges_s70 z2 w11 v12)) n (0, z3)).bind (fun w17 => some (.inl ((z2 + 1), w17)))))
def fX5_nearByChanges (n : Nat) (X0 : WyT) : Option ((Nat → Int32)) :=
  u14 (fun (x0_edgeA : (Nat → Int32)) (x0_edgeB : (Nat → Int32)) (x0_edgeCost : (Nat → Int32)) (x0_edgeLine : (Nat → Int32)) (x0_change : (Nat → Int32)) (x0_away : (Nat → Int32)) (x0_steps : (Nat → Int32)) (x0_nodes : (Nat → Int32)) (x0_stepCount : Int32) (x0_open : (Nat → Int32)) (x0_openCount : Int32) (x0_seen : Int64) (x0_edgeCount : Int32) (x0_aim : Int32) => (lp (u2 (fX5_nearByChanges_s2 n x0_change)) n (0, x0_away)).bind (fun w5 => some w5)) X0
set_option maxHeartbeats 4000000 in
set_option maxRecDepth 100000 in
theorem kX5_nearByChanges (l : Launch) (d : DT) (h0 : Nat → Nat) (n : Nat) (x0_edgeA : (Nat → Int32)) (x0_edgeB : (Nat → Int32)) (x0_edgeCost : (Nat → Int32)) (x0_edgeLine : (Nat → Int32)) (x0_change : (Nat → Int32)) (x0_away : (Nat → Int32)) (x0_steps : (Nat → Int32)) (x0_nodes : (Nat → Int32)) (x0_stepCount : Int32) (x0_open : (Nat → Int32)) (x0_openCount : Int32) (x0_seen : Int64) (x0_edgeCount : Int32) (x0_aim : Int32)  {out : (Nat → Int32)} (hf : fX5_nearByChanges n (x0_edgeA, x0_edgeB, x0_edgeCost, x0_edgeLine, x0_change, x0_away, x0_steps, x0_nodes, x0_stepCount, x0_open, x0_openCount, x0_seen, x0_edgeCount, x0_aim) = some out) : Ct l d yX5_nearByChanges cX5_nearByChanges 6 none { frames := 0, cells := 0, slots := 0, locals := 0 } [.ref (h0 0)] [gWy d h0 x0_edgeA x0_edgeB x0_edgeCost x0_edgeLine x0_change x0_away x0_steps x0_nodes x0_stepCount x0_open x0_openCount x0_seen x0_edgeCount x0_aim] (fun _ : Unit => (none, [gWy d h0 x0_edgeA x0_edgeB x0_edgeCost x0_edgeLine x0_change out x0_steps x0_nodes x0_stepCount x0_open x0_openCount x0_seen x0_edgeCount x0_aim])) := by
  refine Ct.of (by decide) (Nat.le_of_ble_eq_true rfl) ?_
  intro Φ hl hK hR
  subst hl
  have hK : Ok d Φ RX5 "nearByChanges" cX5_nearByChanges 6 none { frames := 0, cells := 0, slots := 0, locals := 0 } := hK
  unfold fX5_nearByChanges at hf
  have hf := un14 hf
  show J d Φ 6 [gWy d h0 x0_edgeA x0_edgeB x0_edgeCost x0_edgeLine x0_change x0_away x0_steps x0_nodes x0_stepCount x0_open x0_openCount x0_seen x0_edgeCount x0_aim] 0 0 0 [(0, .ref (h0 0))] []
  refine J_iconst (v := 0) hK dX5_nearByChanges_0 rfl (by decide) ?_
  refine J_istore_n (L' := [(1, .int (0)), (0, .ref (h0 0))]) hK dX5_nearByChanges_1 rfl rfl (by decide) rfl ?_
  obtain ⟨e4, hl1, hf⟩ := bs hf
  have hx1_113 : ∀ (w5 : (Nat → Int32)), w5 = e4 → J d Φ 6 [gWy d h0 x0_edgeA x0_edgeB x0_edgeCost x0_edgeLine x0_change w5 x0_steps x0_nodes x0_stepCount x0_open x0_openCount x0_seen x0_edgeCount x0_aim] 0 0 113 [] [] := by
    intro w5 he
    rw [← he] at hf
    obtain rfl := Option.some.inj hf
    exact J_vret hK hR dX5_nearByChanges_113 () rfl (by decide) (by decide)
  have lo1 : ∀ (k : Nat) (z2 : Int32) (z3 : (Nat → Int32)), lp (u2 (fX5_nearByChanges_s2 n x0_change)) k (z2, z3) = some e4 → J d Φ 6 [gWy d h0 x0_edgeA x0_edgeB x0_edgeCost x0_edgeLine x0_change z3 x0_steps x0_nodes x0_stepCount x0_open x0_openCount x0_seen x0_edgeCount x0_aim] 0 0 2 [(0, .ref (h0 0)), (1, .int z2)] [] := by
    intro k
    induction k with
    | zero => intro z2 z3 h; cases h
    | succ k ih1 =>
      intro z2 z3 h
      obtain ⟨k2, rr1, hk2, hs1, hr1⟩ := lp_ok h
      cases hk2
      have hs1 : fX5_nearByChanges_s2 n x0_change z2 z3 = some rr1 := hs1
      unfold fX5_nearByChanges_s2 at hs1
      refine J_iload_n hK dX5_nearByChanges_2 rfl 1 rfl rfl ?_
      refine J_bipush (v := 12) hK dX5_nearByChanges_3 rfl (by decide) ?_
      refine J_icmp_ge (tg := 113) hK dX5_nearByChanges_5 rfl rfl (fun hc5 => ?_) (fun hc5 => ?_)
      · have hs1 := ip hc5 hs1
        exact J_loc [] rfl (hx1_113 z3 (lpx hs1 hr1))
      · have hs1 := iq hc5 hs1
        refine J_iload_n hK dX5_nearByChanges_8 rfl 1 rfl rfl ?_
        refine J_iconst (v := 3) hK dX5_nearByChanges_9 rfl (by decide) ?_
        refine J_imul hK dX5_nearByChanges_10 rfl ?_
        refine J_istore_n (L' := [(2, .int (z2 * 3)), (0, .ref (h0 0)), (1, .int z2)]) hK dX5_nearByChanges_11 rfl rfl (by decide) rfl ?_
        refine J_aload_n hK dX5_nearByChanges_12 rfl 1 rfl rfl ?_
        refine J_get hK fo_RX5_27 dX5_nearByChanges_13 rfl 0 0 rfl rfl rfl ?_
        refine J_iload_n hK dX5_nearByChanges_16 rfl 0 rfl rfl ?_
        obtain ⟨v6, ev6, hs1⟩ := bs hs1
        refine J_iald hK dX5_nearByChanges_17 rfl 0 6 rfl rfl ev6 ?_
        refine J_istore_n (L' := [(3, .int v6), (2, .int (z2 * 3)), (0, .ref (h0 0)), (1, .int z2)]) hK dX5_nearByChanges_18 rfl rfl (by decide) rfl ?_
        refine J_iconst (v := 1) hK dX5_nearByChanges_19 rfl (by decide) ?_
        refine J_istore (L' := [(4, .int (1)), (3, .int v6), (2, .int (z2 * 3)), (0, .ref (h0 0)), (1, .int z2)]) hK dX5_nearByChanges_20 rfl (by decide) rfl ?_
        obtain ⟨e10, hl7, hs1⟩ := bs hs1
        have hx7_57 : ∀ (w11 : Int32), w11 = e10 → J d Φ 6 [gWy d h0 x0_edgeA x0_edgeB x0_edgeCost x0_edgeLine x0_change z3 x0_steps x0_nodes x0_stepCount x0_open x0_openCount x0_seen x0_edgeCount x0_aim] 0 0 57 [(0, .ref (h0 0)), (1, .int z2), (2, .int (z2 * 3)), (3, .int w11)] [] := by
          intro w11 he
          rw [← he] at hs1
          refine J_iload_n hK dX5_nearByChanges_57 rfl 3 rfl rfl ?_
          refine J_aload_n hK dX5_nearByChanges_58 rfl 0 rfl rfl ?_
          refine J_get hK fo_RX5_24 dX5_nearByChanges_59 rfl 0 0 rfl rfl rfl ?_
          refine J_iload_n hK dX5_nearByChanges_62 rfl 1 rfl rfl ?_
          obtain ⟨v12, ev12, hs1⟩ := bs hs1
          refine J_iald hK dX5_nearByChanges_63 rfl 0 5 rfl rfl ev12 ?_
          refine J_iadd hK dX5_nearByChanges_64 rfl ?_
          refine J_istore (L' := [(4, .int (w11 + v12)), (0, .ref (h0 0)), (1, .int z2), (2, .int (z2 * 3)), (3, .int w11)]) hK dX5_nearByChanges_65 rfl (by decide) rfl ?_
          refine J_iconst (v := 0) hK dX5_nearByChanges_67 rfl (by decide) ?_
          refine J_istore (L' := [(5, .int (0)), (4, .int (w11 + v12)), (0, .ref (h0 0)), (1, .int z2), (2, .int (z2 * 3)), (3, .int w11)]) hK dX5_nearByChanges_68 rfl (by decide) rfl ?_
          obtain ⟨e16, hl13, hs1⟩ := bs hs1
          have hx13_107 : ∀ (w17 : (Nat → Int32)), w17 = e16 → J d Φ 6 [gWy d h0 x0_edgeA x0_edgeB x0_edgeCost x0_edgeLine x0_change w17 x0_steps x0_nodes x0_stepCount x0_open x0_openCount x0_seen x0_edgeCount x0_aim] 0 0 107 [(0, .ref (h0 0)), (1, .int z2)] [] := by
            intro w17 he
            rw [← he] at hs1
            refine J_iinc (L' := [(1, .int (z2 + 1)), (0, .ref (h0 0))]) (v := (z2 + 1)) hK dX5_nearByChanges_107 rfl 1 rfl rfl (by decide) rfl ?_
            refine J_goto hK dX5_nearByChanges_110 (n := 2) rfl ?_
            exact J_loc [1, 0] rfl (ih1 (z2 + 1) w17 (lpc hs1 hr1))
          have lo13 : ∀ (k : Nat) (z14 : Int32) (z15 : (Nat → Int32)), lp (u2 (fX5_nearByChanges_s70 z2 w11 v12)) k (z14, z15) = some e16 → J d Φ 6 [gWy d h0 x0_edgeA x0_edgeB x0_edgeCost x0_edgeLine x0_change z15 x0_steps x0_nodes x0_stepCount x0_open x0_openCount x0_seen x0_edgeCount x0_aim] 0 0 70 [(0, .ref (h0 0)), (1, .int z2), (2, .int (z2 * 3)), (4, .int (w11 + v12)), (5, .int z14)] [] := by
            intro k
            induction k with
            | zero => intro z14 z15 h; cases h
            | succ k ih13 =>
              intro z14 z15 h
              obtain ⟨k2, rr13, hk2, hs13, hr13⟩ := lp_ok h
              cases hk2
              have hs13 : fX5_nearByChanges_s70 z2 w11 v12 z14 z15 = some rr13 := hs13
              unfold fX5_nearByChanges_s70 at hs13
              refine J_iload hK dX5_nearByChanges_70 rfl 4 rfl ?_
              refine J_iconst (v := 3) hK dX5_nearByChanges_72 rfl (by decide) ?_
              refine J_icmp_ge (tg := 107) hK dX5_nearByChanges_73 rfl rfl (fun hc73 => ?_) (fun hc73 => ?_)
              · have hs13 := ip hc73 hs13
                exact J_loc [0, 1] rfl (hx13_107 z15 (lpx hs13 hr13))
              · have hs13 := iq hc73 hs13
                refine J_iload hK dX5_nearByChanges_76 rfl 3 rfl ?_
                refine J_aload_n hK dX5_nearByChanges_78 rfl 0 rfl rfl ?_
                refine J_get hK fo_RX5_27 dX5_nearByChanges_79 rfl 0 0 rfl rfl rfl ?_
                refine J_iload_n hK dX5_nearByChanges_82 rfl 2 rfl rfl ?_
                refine J_iload hK dX5_nearByChanges_83 rfl 4 rfl ?_
                refine J_iadd hK dX5_nearByChanges_85 rfl ?_
                obtain ⟨v18, ev18, hs13⟩ := bs hs13
                refine J_iald hK dX5_nearByChanges_86 rfl 0 6 rfl rfl ev18 ?_
                refine J_icmp_ge (tg := 101) hK dX5_nearByChanges_87 rfl rfl (fun hc87 => ?_) (fun hc87 => ?_)
                · have hs13 := ip hc87 hs13
                  refine J_iinc (L' := [(5, .int (z14 + 1)), (0, .ref (h0 0)), (1, .int z2), (2, .int (z2 * 3)), (4, .int (w11 + v12))]) (v := (z14 + 1)) hK dX5_nearByChanges_101 rfl 4 rfl rfl (by decide) rfl ?_
                  refine J_goto hK dX5_nearByChanges_104 (n := 70) rfl ?_
                  exact J_loc [1, 2, 3, 4, 0] rfl (ih13 (z14 + 1) z15 (lpc hs13 hr13))
                · have hs13 := iq hc87 hs13
                  refine J_aload_n hK dX5_nearByChanges_90 rfl 0 rfl rfl ?_
                  refine J_get hK fo_RX5_27 dX5_nearByChanges_91 rfl 0 0 rfl rfl rfl ?_
                  refine J_iload_n hK dX5_nearByChanges_94 rfl 2 rfl rfl ?_
                  refine J_iload hK dX5_nearByChanges_95 rfl 4 rfl ?_
                  refine J_iadd hK dX5_nearByChanges_97 rfl ?_
                  refine J_iload hK dX5_nearByChanges_98 rfl 3 rfl ?_
                  obtain ⟨f19, ef19, hs13⟩ := bs hs13
                  refine J_iast (g' := gWy d h0 x0_edgeA x0_edgeB x0_edgeCost x0_edgeLine x0_change f19 x0_steps x0_nodes x0_stepCount x0_open x0_openCount x0_seen x0_edgeCount x0_aim) (gs' := [gWy d h0 x0_edgeA x0_edgeB x0_edgeCost x0_edgeLine x0_change f19 x0_steps x0_nodes x0_stepCount x0_open x0_openCount x0_seen x0_edgeCount x0_aim]) hK dX5_nearByChanges_100 rfl 0 6 rfl rfl ef19 rfl rfl ?_
                  refine J_iinc (L' := [(5, .int (z14 + 1)), (0, .ref (h0 0)), (1, .int z2), (2, .int (z2 * 3)), (4, .int (w11 + v12))]) (v := (z14 + 1)) hK dX5_nearByChanges_101 rfl 4 rfl rfl (by decide) rfl ?_
                  refine J_goto hK dX5_nearByChanges_104 (n := 70) rfl ?_
                  exact J_loc [1, 2, 3, 4, 0] rfl (ih13 (z14 + 1) f19 (lpc hs13 hr13))
          exact J_loc [2, 3, 4, 1, 0] rfl (lo13 n (0) z3 hl13)
        have lo7 : ∀ (k : Nat) (z8 : Int32) (z9 : Int32), lp (u2 (fX5_nearByChanges_s22 z2 z3)) k (z8, z9) = some e10 → J d Φ 6 [gWy d h0 x0_edgeA x0_edgeB x0_edgeCost x0_edgeLine x0_change z3 x0_steps x0_nodes x0_stepCount x0_open x0_openCount x0_seen x0_edgeCount x0_aim] 0 0 22 [(0, .ref (h0 0)), (1, .int z2), (2, .int (z2 * 3)), (3, .int z8), (4, .int z9)] [] := by
          intro k
          induction k with
          | zero => intro z8 z9 h; cases h
          | succ k ih7 =>
            intro z8 z9 h
            obtain ⟨k2, rr7, hk2, hs7, hr7⟩ := lp_ok h
            cases hk2
            have hs7 : fX5_nearByChanges_s22 z2 z3 z8 z9 = some rr7 := hs7
            unfold fX5_nearByChanges_s22 at hs7
            refine J_iload hK dX5_nearByChanges_22 rfl 4 rfl ?_
            refine J_iconst (v := 3) hK dX5_nearByChanges_24 rfl (by decide) ?_
            refine J_icmp_ge (tg := 57) hK dX5_nearByChanges_25 rfl rfl (fun hc25 => ?_) (fun hc25 => ?_)
            · have hs7 := ip hc25 hs7
              exact J_loc [0, 1, 2, 3] rfl (hx7_57 z8 (lpx hs7 hr7))
            · have hs7 := iq hc25 hs7
              refine J_aload_n hK dX5_nearByChanges_28 rfl 0 rfl rfl ?_
              refine J_get hK fo_RX5_27 dX5_nearByChanges_29 rfl 0 0 rfl rfl rfl ?_
              refine J_iload_n hK dX5_nearByChanges_32 rfl 2 rfl rfl ?_
              refine J_iload hK dX5_nearByChanges_33 rfl 4 rfl ?_
              refine J_iadd hK dX5_nearByChanges_35 rfl ?_
              obtain ⟨v20, ev20, hs7⟩ := bs hs7
              refine J_iald hK dX5_nearByChanges_36 rfl 0 6 rfl rfl ev20 ?_
              refine J_iload_n hK dX5_nearByChanges_37 rfl 3 rfl rfl ?_
              refine J_icmp_ge (tg := 51) hK dX5_nearByChanges_38 rfl rfl (fun hc38 => ?_) (fun hc38 => ?_)
              · have hs7 := ip hc38 hs7
                refine J_iinc (L' := [(4, .int (z9 + 1)), (0, .ref (h0 0)), (1, .int z2), (2, .int (z2 * 3)), (3, .int z8)]) (v := (z9 + 1)) hK dX5_nearByChanges_51 rfl 4 rfl rfl (by decide) rfl ?_
                refine J_goto hK dX5_nearByChanges_54 (n := 22) rfl ?_
                exact J_loc [1, 2, 3, 4, 0] rfl (ih7 z8 (z9 + 1) (lpc hs7 hr7))
              · have hs7 := iq hc38 hs7
                refine J_aload_n hK dX5_nearByChanges_41 rfl 0 rfl rfl ?_
                refine J_get hK fo_RX5_27 dX5_nearByChanges_42 rfl 0 0 rfl rfl rfl ?_
                refine J_iload_n hK dX5_nearByChanges_45 rfl 2 rfl rfl ?_
                refine J_iload hK dX5_nearByChanges_46 rfl 4 rfl ?_
                refine J_iadd hK dX5_nearByChanges_48 rfl ?_
                obtain ⟨v21, ev21, hs7⟩ := bs hs7
                refine J_iald hK dX5_nearByChanges_49 rfl 0 6 rfl rfl ev21 ?_
                refine J_istore_n (L' := [(3, .int v21), (0, .ref (h0 0)), (1, .int z2), (2, .int (z2 * 3)), (4, .int z9)]) hK dX5_nearByChanges_50 rfl rfl (by decide) rfl ?_
                refine J_iinc (L' := [(4, .int (z9 + 1)), (3, .int v21), (0, .ref (h0 0)), (1, .int z2), (2, .int (z2 * 3))]) (v := (z9 + 1)) hK dX5_nearByChanges_51 rfl 4 rfl rfl (by decide) rfl ?_
                refine J_goto hK dX5_nearByChanges_54 (n := 22) rfl ?_
                exact J_loc [2, 3, 4, 1, 0] rfl (ih7 v21 (z9 + 1) (lpc hs7 hr7))
        exact J_loc [3, 4, 2, 1, 0] rfl (lo7 n v6 (1) hl7)
  exact J_loc [1, 0] rfl (lo1 n (0) x0_away hl1)

def fX5_aimAt_s49 (n : Nat) (p1 : Int32) (x0_edgeA : (Nat → Int32)) (x0_edgeB : (Nat → Int32)) (x0_edgeCost : (Nat → Int32)) (x0_edgeLine : (Nat → Int32)) (x0_change : (Nat → Int32)) (x0_steps : (Nat → Int32)) (x0_nodes : (Nat → Int32)) (x0_stepCount : Int32) (x0_open : (Nat → Int32)) (x0_openCount : Int32) (x0_seen : Int64) (x0_edgeCount : Int32) (z9 : Int32) (z10 : (Nat → Int32)) : Option ((Int32 × (Nat → Int32)) ⊕ ((Nat → Int32))) :=
  if 36 ≤ z9 then (some (.inr z10)) else ((fX5_nearByLines n (x0_edgeA, x0_edgeB, x0_edgeCost, x0_edgeLine, x0_change, z10, x0_steps, x0_nodes, x0_stepCount, x0_open, x0_openCount, x0_seen, x0_edgeCount, p1)).bind (u2 fun v13 g14 => if v13 = 0 then (some (.inr g14)) else ((fX5_nearByChanges n (x0_edgeA, x0_edgeB, x0_edgeCost, x0_edgeLine, x0_change, g14, x0_steps, x0_nodes, x0_stepCount, x0_open, x0_openCount, x0_seen, x0_edgeCount, p1)).bind (fun g16 => some (.inl ((z9 + 1), g16))))))
def fX5_aimAt_s25 (p1 : Int32) (z4 : Int32) (z5 : (Nat → Int32)) : Option ((Int32 × (Nat → Int32)) ⊕ ((Nat → Int32))) :=
  if 3 ≤ z4 then (some (.inr z5)) else ((wr 36 z5 ((p1 * 3) + z4) (0)).bind fun f18 => some (.inl ((z4 + 1), f18)))
def fX5_aimAt (n : Nat) (X0 : WyT) (p1 : Int32) : Option ((Nat → Int32) × Int32) :=
  u14 (fun (x0_edgeA : (Nat → Int32)) (x0_edgeB : (Nat → Int32)) (x0_edgeCost : (Nat → Int32)) (x0_edgeLine : (Nat → Int32)) (x0_change : (Nat → Int32)) (x0_away : (Nat → Int32)) (x0_steps : (Nat → Int32)) (x0_nodes : (Nat → Int32)) (x0_stepCount : Int32) (x0_open : (Nat → Int32)) (x0_openCount : Int32) (x0_seen : Int64) (x0_edgeCount : Int32) (x0_aim : Int32) => if x0_aim = p1 then (some (x0_away, x0_aim)) else ((fJ7_fill_53178 n 36 x0_away (1000000)).bind (fun g1 => (lp (u2 (fX5_aimAt_s25 p1)) n (0, g1)).bind (fun w7 => (lp (u2 (fX5_aimAt_s49 n p1 x0_edgeA x0_edgeB x0_edgeCost x0_edgeLine x0_change x0_steps x0_nodes x0_stepCount x0_open x0_openCount x0_seen x0_edgeCount)) n (0, w7)).bind (fun w12 => some (w12, p1)))))) X0
set_option maxHeartbeats 4000000 in
set_option maxRecDepth 100000 in
theorem kX5_aimAt (l : Launch) (d : DT) (h0 : Nat → Nat) (n : Nat) (x0_edgeA : (Nat → Int32)) (x0_edgeB : (Nat → Int32)) (x0_edgeCost : (Nat → Int32)) (x0_edgeLine : (Nat → Int32)) (x0_change : (Nat → Int32)) (x0_away : (Nat → Int32)) (x0_steps : (Nat → Int32)) (x0_nodes : (Nat → Int32)) (x0_stepCount : Int32) (x0_open : (Nat → Int32)) (x0_openCount : Int32) (x0_seen : Int64) (x0_edgeCount : Int32) (x0_aim : Int32) (p1 : Int32)  {out : (Nat → Int32) × Int32} (hf : fX5_aimAt n (x0_edgeA, x0_edgeB, x0_edgeCost, x0_edgeLine, x0_change, x0_away, x0_steps, x0_nodes, x0_stepCount, x0_open, x0_openCount, x0_seen, x0_edgeCount, x0_aim) p1 = some out) : Ct l d yX5_aimAt cX5_aimAt 3 none { frames := 1, cells := 0, slots := 0, locals := 25 } [.ref (h0 0), .int p1] [gWy d h0 x0_edgeA x0_edgeB x0_edgeCost x0_edgeLine x0_change x0_away x0_steps x0_nodes x0_stepCount x0_open x0_openCount x0_seen x0_edgeCount x0_aim] (fun _ : Unit => (none, [gWy d h0 x0_edgeA x0_edgeB x0_edgeCost x0_edgeLine x0_change (out.1) x0_steps x0_nodes x0_stepCount x0_open x0_openCount x0_seen x0_edgeCount (out.2)])) := by
  refine Ct.of (by decide) (Nat.le_of_ble_eq_true rfl) ?_
  intro Φ hl hK hR
  subst hl
  have hK : Ok d Φ RX5 "aimAt" cX5_aimAt 3 none { frames := 1, cells := 0, slots := 0, locals := 25 } := hK
  unfold fX5_aimAt at hf
  have hf := un14 hf
  show J d Φ 3 [gWy d h0 x0_edgeA x0_edgeB x0_edgeCost x0_edgeLine x0_change x0_away x0_steps x0_nodes x0_stepCount x0_open x0_openCount x0_seen x0_edgeCount x0_aim] 0 0 0 [(0, .ref (h0 0)), (1, .int p1)] []
  refine J_aload_n hK dX5_aimAt_0 rfl 0 rfl rfl ?_
  refine J_get hK fo_RX5_39 dX5_aimAt_1 rfl 0 0 rfl rfl rfl ?_
  refine J_iload_n hK dX5_aimAt_4 rfl 1 rfl rfl ?_
  refine J_icmp_ne (tg := 9) hK dX5_aimAt_5 rfl rfl (fun hc5 => ?_) (fun hc5 => ?_)
  · have hf := iq hc5 hf
    refine J_aload_n hK dX5_aimAt_9 rfl 0 rfl rfl ?_
    refine J_iload_n hK dX5_aimAt_10 rfl 1 rfl rfl ?_
    refine J_put (g' := gWy d h0 x0_edgeA x0_edgeB x0_edgeCost x0_edgeLine x0_change x0_away x0_steps x0_nodes x0_stepCount x0_open x0_openCount x0_seen x0_edgeCount p1) (gs' := [gWy d h0 x0_edgeA x0_edgeB x0_edgeCost x0_edgeLine x0_change x0_away x0_steps x0_nodes x0_stepCount x0_open x0_openCount x0_seen x0_edgeCount p1]) hK fp_RX5_39 dX5_aimAt_11 rfl 0 0 rfl rfl rfl rfl (Nat.le_of_ble_eq_true rfl) rfl rfl ?_
    refine J_aload_n hK dX5_aimAt_14 rfl 0 rfl rfl ?_
    refine J_get hK fo_RX5_27 dX5_aimAt_15 rfl 0 0 rfl rfl rfl ?_
    refine J_ldc (v := 1000000) hK dX5_aimAt_18 rfl wk_RX5_65 ?_
    refine J_fl (gs2 := [(gWy d h0 x0_edgeA x0_edgeB x0_edgeCost x0_edgeLine x0_change x0_away x0_steps x0_nodes x0_stepCount x0_open x0_openCount x0_seen x0_edgeCount p1).take 6, [cI d (h0 6) 36 x0_away], (gWy d h0 x0_edgeA x0_edgeB x0_edgeCost x0_edgeLine x0_change x0_away x0_steps x0_nodes x0_stepCount x0_open x0_openCount x0_seen x0_edgeCount p1).drop 7]) rfl ?_
    obtain ⟨g1, e2, hf⟩ := bs hf
    refine J_callS (m' := 3) (ce' := 0) (sl' := 0) (gr := [(gWy d h0 x0_edgeA x0_edgeB x0_edgeCost x0_edgeLine x0_change x0_away x0_steps x0_nodes x0_stepCount x0_open x0_openCount x0_seen x0_edgeCount p1).take 6, (gWy d h0 x0_edgeA x0_edgeB x0_edgeCost x0_edgeLine x0_change x0_away x0_steps x0_nodes x0_stepCount x0_open x0_openCount x0_seen x0_edgeCount p1).drop 7]) (gs' := fun _ => [(gWy d h0 x0_edgeA x0_edgeB x0_edgeCost x0_edgeLine x0_change x0_away x0_steps x0_nodes x0_stepCount x0_open x0_openCount x0_seen x0_edgeCount p1).take 6, [cI d (h0 6) 36 g1], (gWy d h0 x0_edgeA x0_edgeB x0_edgeCost x0_edgeLine x0_change x0_away x0_steps x0_nodes x0_stepCount x0_open x0_openCount x0_seen x0_edgeCount p1).drop 7]) (st' := fun _ => []) (st := []) hK dX5_aimAt_20 cv_RX5_66 ws_yJ7_fill_53178 (As := [.ref (h0 6), .int (1000000)]) (kJ7_fill_53178 _ d (h0 6) n 36 x0_away (1000000) e2) rfl rfl (Nat.le_of_ble_eq_true rfl) (by decide) [1] [0, 2] rfl rfl rfl rfl [0, 2, 1] rfl (fun _ => rfl) (fun _ => rfl) rfl rfl rfl (fun _ => rfl) (fun _ => ?_)
    refine J_fl (gs2 := [gWy d h0 x0_edgeA x0_edgeB x0_edgeCost x0_edgeLine x0_change g1 x0_steps x0_nodes x0_stepCount x0_open x0_openCount x0_seen x0_edgeCount p1]) rfl ?_
    refine J_iconst (v := 0) hK dX5_aimAt_23 rfl (by decide) ?_
    refine J_istore_n (L' := [(2, .int (0)), (0, .ref (h0 0)), (1, .int p1)]) hK dX5_aimAt_24 rfl rfl (by decide) rfl ?_
    obtain ⟨e6, hl3, hf⟩ := bs hf
    have hx3_47 : ∀ (w7 : (Nat → Int32)), w7 = e6 → J d Φ 3 [gWy d h0 x0_edgeA x0_edgeB x0_edgeCost x0_edgeLine x0_change w7 x0_steps x0_nodes x0_stepCount x0_open x0_openCount x0_seen x0_edgeCount p1] 0 0 47 [(0, .ref (h0 0))] [] := by
      intro w7 he
      rw [← he] at hf
      refine J_iconst (v := 0) hK dX5_aimAt_47 rfl (by decide) ?_
      refine J_istore_n (L' := [(2, .int (0)), (0, .ref (h0 0))]) hK dX5_aimAt_48 rfl rfl (by decide) rfl ?_
      obtain ⟨e11, hl8, hf⟩ := bs hf
      have hx8_72 : ∀ (w12 : (Nat → Int32)), w12 = e11 → J d Φ 3 [gWy d h0 x0_edgeA x0_edgeB x0_edgeCost x0_edgeLine x0_change w12 x0_steps x0_nodes x0_stepCount x0_open x0_openCount x0_seen x0_edgeCount p1] 0 0 72 [] [] := by
        intro w12 he
        rw [← he] at hf
        obtain rfl := Option.some.inj hf
        exact J_vret hK hR dX5_aimAt_72 () rfl (by decide) (by decide)
      have lo8 : ∀ (k : Nat) (z9 : Int32) (z10 : (Nat → Int32)), lp (u2 (fX5_aimAt_s49 n p1 x0_edgeA x0_edgeB x0_edgeCost x0_edgeLine x0_change x0_steps x0_nodes x0_stepCount x0_open x0_openCount x0_seen x0_edgeCount)) k (z9, z10) = some e11 → J d Φ 3 [gWy d h0 x0_edgeA x0_edgeB x0_edgeCost x0_edgeLine x0_change z10 x0_steps x0_nodes x0_stepCount x0_open x0_openCount x0_seen x0_edgeCount p1] 0 0 49 [(0, .ref (h0 0)), (2, .int z9)] [] := by
        intro k
        induction k with
        | zero => intro z9 z10 h; cases h
        | succ k ih8 =>
          intro z9 z10 h
          obtain ⟨k2, rr8, hk2, hs8, hr8⟩ := lp_ok h
          cases hk2
          have hs8 : fX5_aimAt_s49 n p1 x0_edgeA x0_edgeB x0_edgeCost x0_edgeLine x0_change x0_steps x0_nodes x0_stepCount x0_open x0_openCount x0_seen x0_edgeCount z9 z10 = some rr8 := hs8
          unfold fX5_aimAt_s49 at hs8
          refine J_iload_n hK dX5_aimAt_49 rfl 1 rfl rfl ?_
          refine J_bipush (v := 36) hK dX5_aimAt_50 rfl (by decide) ?_
          refine J_icmp_ge (tg := 72) hK dX5_aimAt_52 rfl rfl (fun hc52 => ?_) (fun hc52 => ?_)
          · have hs8 := ip hc52 hs8
            exact J_loc [] rfl (hx8_72 z10 (lpx hs8 hr8))
          · have hs8 := iq hc52 hs8
            refine J_aload_n hK dX5_aimAt_55 rfl 0 rfl rfl ?_
            obtain ⟨⟨v13, g14⟩, e15, hs8⟩ := bs hs8
            have hs8 := un2 hs8
            refine J_callV (m' := 1) (ce' := 0) (sl' := 0) (gr := []) (gs' := fun _ => [gWy d h0 x0_edgeA x0_edgeB x0_edgeCost x0_edgeLine x0_change g14 x0_steps x0_nodes x0_stepCount x0_open x0_openCount x0_seen x0_edgeCount p1]) (st' := fun _ => [.int v13]) (st := []) hK dX5_aimAt_56 cv_RX5_72 iv_yX5_nearByLines (As := []) (kX5_nearByLines _ d h0 n x0_edgeA x0_edgeB x0_edgeCost x0_edgeLine x0_change z10 x0_steps x0_nodes x0_stepCount x0_open x0_openCount x0_seen x0_edgeCount p1 e15) rfl rfl (Nat.le_of_ble_eq_true rfl) (by decide) 0 0 rfl rfl rfl [0] [] rfl rfl rfl rfl [0] rfl (fun _ => rfl) (fun _ => rfl) rfl rfl rfl (fun _ => rfl) (fun _ => ?_)
            refine J_if_eq (tg := 72) hK dX5_aimAt_59 rfl rfl (fun hc59 => ?_) (fun hc59 => ?_)
            · have hs8 := ip hc59 hs8
              exact J_loc [] rfl (hx8_72 g14 (lpx hs8 hr8))
            · have hs8 := iq hc59 hs8
              refine J_aload_n hK dX5_aimAt_62 rfl 0 rfl rfl ?_
              obtain ⟨g16, e17, hs8⟩ := bs hs8
              refine J_callV (m' := 1) (ce' := 0) (sl' := 0) (gr := []) (gs' := fun _ => [gWy d h0 x0_edgeA x0_edgeB x0_edgeCost x0_edgeLine x0_change g16 x0_steps x0_nodes x0_stepCount x0_open x0_openCount x0_seen x0_edgeCount p1]) (st' := fun _ => []) (st := []) hK dX5_aimAt_63 cv_RX5_76 iv_yX5_nearByChanges (As := []) (kX5_nearByChanges _ d h0 n x0_edgeA x0_edgeB x0_edgeCost x0_edgeLine x0_change g14 x0_steps x0_nodes x0_stepCount x0_open x0_openCount x0_seen x0_edgeCount p1 e17) rfl rfl (Nat.le_of_ble_eq_true rfl) (by decide) 0 0 rfl rfl rfl [0] [] rfl rfl rfl rfl [0] rfl (fun _ => rfl) (fun _ => rfl) rfl rfl rfl (fun _ => rfl) (fun _ => ?_)
              refine J_iinc (L' := [(2, .int (z9 + 1)), (0, .ref (h0 0))]) (v := (z9 + 1)) hK dX5_aimAt_66 rfl 1 rfl rfl (by decide) rfl ?_
              refine J_goto hK dX5_aimAt_69 (n := 49) rfl ?_
              exact J_loc [1, 0] rfl (ih8 (z9 + 1) g16 (lpc hs8 hr8))
      exact J_loc [1, 0] rfl (lo8 n (0) w7 hl8)
    have lo3 : ∀ (k : Nat) (z4 : Int32) (z5 : (Nat → Int32)), lp (u2 (fX5_aimAt_s25 p1)) k (z4, z5) = some e6 → J d Φ 3 [gWy d h0 x0_edgeA x0_edgeB x0_edgeCost x0_edgeLine x0_change z5 x0_steps x0_nodes x0_stepCount x0_open x0_openCount x0_seen x0_edgeCount p1] 0 0 25 [(0, .ref (h0 0)), (1, .int p1), (2, .int z4)] [] := by
      intro k
      induction k with
      | zero => intro z4 z5 h; cases h
      | succ k ih3 =>
        intro z4 z5 h
        obtain ⟨k2, rr3, hk2, hs3, hr3⟩ := lp_ok h
        cases hk2
        have hs3 : fX5_aimAt_s25 p1 z4 z5 = some rr3 := hs3
        unfold fX5_aimAt_s25 at hs3
        refine J_iload_n hK dX5_aimAt_25 rfl 2 rfl rfl ?_
        refine J_iconst (v := 3) hK dX5_aimAt_26 rfl (by decide) ?_
        refine J_icmp_ge (tg := 47) hK dX5_aimAt_27 rfl rfl (fun hc27 => ?_) (fun hc27 => ?_)
        · have hs3 := ip hc27 hs3
          exact J_loc [0] rfl (hx3_47 z5 (lpx hs3 hr3))
        · have hs3 := iq hc27 hs3
          refine J_aload_n hK dX5_aimAt_30 rfl 0 rfl rfl ?_
          refine J_get hK fo_RX5_27 dX5_aimAt_31 rfl 0 0 rfl rfl rfl ?_
          refine J_iload_n hK dX5_aimAt_34 rfl 1 rfl rfl ?_
          refine J_iconst (v := 3) hK dX5_aimAt_35 rfl (by decide) ?_
          refine J_imul hK dX5_aimAt_36 rfl ?_
          refine J_iload_n hK dX5_aimAt_37 rfl 2 rfl rfl ?_
          refine J_iadd hK dX5_aimAt_38 rfl ?_
          refine J_iconst (v := 0) hK dX5_aimAt_39 rfl (by decide) ?_
          obtain ⟨f18, ef18, hs3⟩ := bs hs3
          refine J_iast (g' := gWy d h0 x0_edgeA x0_edgeB x0_edgeCost x0_edgeLine x0_change f18 x0_steps x0_nodes x0_stepCount x0_open x0_openCount x0_seen x0_edgeCount p1) (gs' := [gWy d h0 x0_edgeA x0_edgeB x0_edgeCost x0_edgeLine x0_change f18 x0_steps x0_nodes x0_stepCount x0_open x0_openCount x0_seen x0_edgeCount p1]) hK dX5_aimAt_40 rfl 0 6 rfl rfl ef18 rfl rfl ?_
          refine J_iinc (L' := [(2, .int (z4 + 1)), (0, .ref (h0 0)), (1, .int p1)]) (v := (z4 + 1)) hK dX5_aimAt_41 rfl 2 rfl rfl (by decide) rfl ?_
          refine J_goto hK dX5_aimAt_44 (n := 25) rfl ?_
          exact J_loc [1, 2, 0] rfl (ih3 (z4 + 1) f18 (lpc hs3 hr3))
    exact J_loc [1, 2, 0] rfl (lo3 n (0) g1 hl3)
  · have hf := ip hc5 hf
    obtain rfl := Option.some.inj hf
    exact J_vret hK hR dX5_aimAt_8 () rfl (by decide) (by decide)

def fX5_costFrom_s5 (p1 : Int32) (x0_away : (Nat → Int32)) (z2 : Int32) (z3 : Int32) : Option ((Int32 × Int32) ⊕ (Int32)) :=
  if 3 ≤ z3 then (some (.inr z2)) else ((rd 36 x0_away ((p1 * 3) + z3)).bind fun v6 => if z2 ≤ v6 then (some (.inl (z2, (z3 + 1)))) else ((rd 36 x0_away ((p1 * 3) + z3)).bind fun v7 => some (.inl (v7, (z3 + 1)))))
def fX5_costFrom (n : Nat) (X0 : WyT) (p1 : Int32) : Option (Int32) :=
  u14 (fun (x0_edgeA : (Nat → Int32)) (x0_edgeB : (Nat → Int32)) (x0_edgeCost : (Nat → Int32)) (x0_edgeLine : (Nat → Int32)) (x0_change : (Nat → Int32)) (x0_away : (Nat → Int32)) (x0_steps : (Nat → Int32)) (x0_nodes : (Nat → Int32)) (x0_stepCount : Int32) (x0_open : (Nat → Int32)) (x0_openCount : Int32) (x0_seen : Int64) (x0_edgeCount : Int32) (x0_aim : Int32) => (lp (u2 (fX5_costFrom_s5 p1 x0_away)) n (1000000, 0)).bind (fun w5 => if 1000000 ≤ w5 then (some (-1)) else (some w5))) X0
set_option maxHeartbeats 4000000 in
set_option maxRecDepth 100000 in
theorem kX5_costFrom (l : Launch) (d : DT) (h0 : Nat → Nat) (n : Nat) (x0_edgeA : (Nat → Int32)) (x0_edgeB : (Nat → Int32)) (x0_edgeCost : (Nat → Int32)) (x0_edgeLine : (Nat → Int32)) (x0_change : (Nat → Int32)) (x0_away : (Nat → Int32)) (x0_steps : (Nat → Int32)) (x0_nodes : (Nat → Int32)) (x0_stepCount : Int32) (x0_open : (Nat → Int32)) (x0_openCount : Int32) (x0_seen : Int64) (x0_edgeCount : Int32) (x0_aim : Int32) (p1 : Int32)  {out : Int32} (hf : fX5_costFrom n (x0_edgeA, x0_edgeB, x0_edgeCost, x0_edgeLine, x0_change, x0_away, x0_steps, x0_nodes, x0_stepCount, x0_open, x0_openCount, x0_seen, x0_edgeCount, x0_aim) p1 = some out) : Ct l d yX5_costFrom cX5_costFrom 4 (some .int) { frames := 0, cells := 0, slots := 0, locals := 0 } [.ref (h0 0), .int p1] [gWy d h0 x0_edgeA x0_edgeB x0_edgeCost x0_edgeLine x0_change x0_away x0_steps x0_nodes x0_stepCount x0_open x0_openCount x0_seen x0_edgeCount x0_aim] (fun _ : Unit => (some (.int out), [gWy d h0 x0_edgeA x0_edgeB x0_edgeCost x0_edgeLine x0_change x0_away x0_steps x0_nodes x0_stepCount x0_open x0_openCount x0_seen x0_edgeCount x0_aim])) := by
  refine Ct.of (by decide) (Nat.le_of_ble_eq_true rfl) ?_
  intro Φ hl hK hR
  subst hl
  have hK : Ok d Φ RX5 "costFrom" cX5_costFrom 4 (some .int) { frames := 0, cells := 0, slots := 0, locals := 0 } := hK
  unfold fX5_costFrom at hf
  have hf := un14 hf
  show J d Φ 4 [gWy d h0 x0_edgeA x0_edgeB x0_edgeCost x0_edgeLine x0_change x0_away x0_steps x0_nodes x0_stepCount x0_open x0_openCount x0_seen x0_edgeCount x0_aim] 0 0 0 [(0, .ref (h0 0)), (1, .int p1)] []
  refine J_ldc (v := 1000000) hK dX5_costFrom_0 rfl wk_RX5_65 ?_
  refine J_istore_n (L' := [(2, .int (1000000)), (0, .ref (h0 0)), (1, .int p1)]) hK dX5_costFrom_2 rfl rfl (by decide) rfl ?_
  refine J_iconst (v := 0) hK dX5_costFrom_3 rfl (by decide) ?_
  refine J_istore_n (L' := [(3, .int (0)), (2, .int (1000000)), (0, .ref (h0 0)), (1, .int p1)]) hK dX5_costFrom_4 rfl rfl (by decide) rfl ?_
  obtain ⟨e4, hl1, hf⟩ := bs hf
  have hx1_41 : ∀ (w5 : Int32), w5 = e4 → J d Φ 4 [gWy d h0 x0_edgeA x0_edgeB x0_edgeCost x0_edgeLine x0_change x0_away x0_steps x0_nodes x0_stepCount x0_open x0_openCount x0_seen x0_edgeCount x0_aim] 0 0 41 [(2, .int w5)] [] := by
    intro w5 he
    rw [← he] at hf
    refine J_iload_n hK dX5_costFrom_41 rfl 0 rfl rfl ?_
    refine J_ldc (v := 1000000) hK dX5_costFrom_42 rfl wk_RX5_65 ?_
    refine J_icmp_ge (tg := 51) hK dX5_costFrom_44 rfl rfl (fun hc44 => ?_) (fun hc44 => ?_)
    · have hf := ip hc44 hf
      refine J_iconst (v := (-1)) hK dX5_costFrom_51 rfl (by decide) ?_
      obtain rfl := Option.some.inj hf
      exact J_iret hK hR dX5_costFrom_52 () rfl (by decide) (by decide)
    · have hf := iq hc44 hf
      refine J_iload_n hK dX5_costFrom_47 rfl 0 rfl rfl ?_
      refine J_goto hK dX5_costFrom_48 (n := 52) rfl ?_
      obtain rfl := Option.some.inj hf
      exact J_iret hK hR dX5_costFrom_52 () rfl (by decide) (by decide)
  have lo1 : ∀ (k : Nat) (z2 : Int32) (z3 : Int32), lp (u2 (fX5_costFrom_s5 p1 x0_away)) k (z2, z3) = some e4 → J d Φ 4 [gWy d h0 x0_edgeA x0_edgeB x0_edgeCost x0_edgeLine x0_change x0_away x0_steps x0_nodes x0_stepCount x0_open x0_openCount x0_seen x0_edgeCount x0_aim] 0 0 5 [(0, .ref (h0 0)), (1, .int p1), (2, .int z2), (3, .int z3)] [] := by
    intro k
    induction k with
    | zero => intro z2 z3 h; cases h
    | succ k ih1 =>
      intro z2 z3 h
      obtain ⟨k2, rr1, hk2, hs1, hr1⟩ := lp_ok h
      cases hk2
      have hs1 : fX5_costFrom_s5 p1 x0_away z2 z3 = some rr1 := hs1
      unfold fX5_costFrom_s5 at hs1
      refine J_iload_n hK dX5_costFrom_5 rfl 3 rfl rfl ?_
      refine J_iconst (v := 3) hK dX5_costFrom_6 rfl (by decide) ?_
      refine J_icmp_ge (tg := 41) hK dX5_costFrom_7 rfl rfl (fun hc7 => ?_) (fun hc7 => ?_)
      · have hs1 := ip hc7 hs1
        exact J_loc [2] rfl (hx1_41 z2 (lpx hs1 hr1))
      · have hs1 := iq hc7 hs1
        refine J_aload_n hK dX5_costFrom_10 rfl 0 rfl rfl ?_
        refine J_get hK fo_RX5_27 dX5_costFrom_11 rfl 0 0 rfl rfl rfl ?_
        refine J_iload_n hK dX5_costFrom_14 rfl 1 rfl rfl ?_
        refine J_iconst (v := 3) hK dX5_costFrom_15 rfl (by decide) ?_
        refine J_imul hK dX5_costFrom_16 rfl ?_
        refine J_iload_n hK dX5_costFrom_17 rfl 3 rfl rfl ?_
        refine J_iadd hK dX5_costFrom_18 rfl ?_
        obtain ⟨v6, ev6, hs1⟩ := bs hs1
        refine J_iald hK dX5_costFrom_19 rfl 0 6 rfl rfl ev6 ?_
        refine J_iload_n hK dX5_costFrom_20 rfl 2 rfl rfl ?_
        refine J_icmp_ge (tg := 35) hK dX5_costFrom_21 rfl rfl (fun hc21 => ?_) (fun hc21 => ?_)
        · have hs1 := ip hc21 hs1
          refine J_iinc (L' := [(3, .int (z3 + 1)), (0, .ref (h0 0)), (1, .int p1), (2, .int z2)]) (v := (z3 + 1)) hK dX5_costFrom_35 rfl 3 rfl rfl (by decide) rfl ?_
          refine J_goto hK dX5_costFrom_38 (n := 5) rfl ?_
          exact J_loc [1, 2, 3, 0] rfl (ih1 z2 (z3 + 1) (lpc hs1 hr1))
        · have hs1 := iq hc21 hs1
          refine J_aload_n hK dX5_costFrom_24 rfl 0 rfl rfl ?_
          refine J_get hK fo_RX5_27 dX5_costFrom_25 rfl 0 0 rfl rfl rfl ?_
          refine J_iload_n hK dX5_costFrom_28 rfl 1 rfl rfl ?_
          refine J_iconst (v := 3) hK dX5_costFrom_29 rfl (by decide) ?_
          refine J_imul hK dX5_costFrom_30 rfl ?_
          refine J_iload_n hK dX5_costFrom_31 rfl 3 rfl rfl ?_
          refine J_iadd hK dX5_costFrom_32 rfl ?_
          obtain ⟨v7, ev7, hs1⟩ := bs hs1
          refine J_iald hK dX5_costFrom_33 rfl 0 6 rfl rfl ev7 ?_
          refine J_istore_n (L' := [(2, .int v7), (0, .ref (h0 0)), (1, .int p1), (3, .int z3)]) hK dX5_costFrom_34 rfl rfl (by decide) rfl ?_
          refine J_iinc (L' := [(3, .int (z3 + 1)), (2, .int v7), (0, .ref (h0 0)), (1, .int p1)]) (v := (z3 + 1)) hK dX5_costFrom_35 rfl 3 rfl rfl (by decide) rfl ?_
          refine J_goto hK dX5_costFrom_38 (n := 5) rfl ?_
          exact J_loc [2, 3, 1, 0] rfl (ih1 v7 (z3 + 1) (lpc hs1 hr1))
  exact J_loc [2, 3, 1, 0] rfl (lo1 n (1000000) (0) hl1)

def fX4_freeBy_s24 (n : Nat) (x1_steps : (Nat → Int32)) (x1_nodes : (Nat → Int32)) (x1_stepCount : Int32) (x1_open : (Nat → Int32)) (x1_openCount : Int32) (x1_seen : Int64) (x2_lineCount : Int32) (x2_goodsCount : Int32) (x2_workCount : Int32) (x2_years : Int32) (x2_lines : (Nat → Int32)) (x2_goods : (Nat → Int32)) (x2_works : (Nat → Int32)) (x2_change : (Nat → Int32)) (x2_coin : (Nat → Int32)) (x2_knownFree : (Nat → Int32)) (x2_isKnown : Int32) (g2 : (Nat → Int32)) (g3 : (Nat → Int32)) (g4 : (Nat → Int32)) (g5 : (Nat → Int32)) (g6 : (Nat → Int32)) (g7 : Int32) (z12 : Int32) (z20 : Int32) (z21 : Int32) (z22 : (Nat → Int32)) (z23 : Int32) : Option ((Int32 × Int32 × (Nat → Int32) × Int32) ⊕ (Int32 × (Nat → Int32) × Int32)) :=
  if x2_goodsCount ≤ z21 then (some (.inr (z20, z22, z23))) else ((fX1_ofGoods (x2_lineCount, x2_goodsCount, x2_workCount, x2_years, x2_lines, x2_goods, x2_works, x2_change, x2_coin, x2_knownFree, x2_isKnown) z21 (1)).bind (fun v28 => if v28 = z12 then ((fX5_aimAt n (g2, g3, g4, g5, g6, z22, x1_steps, x1_nodes, x1_stepCount, x1_open, x1_openCount, x1_seen, g7, z23) z12).bind (u2 fun g30 g31 => (fX1_ofGoods (x2_lineCount, x2_goodsCount, x2_workCount, x2_years, x2_lines, x2_goods, x2_works, x2_change, x2_coin, x2_knownFree, x2_isKnown) z21 (0)).bind (fun v33 => (fX5_costFrom n (g2, g3, g4, g5, g6, g30, x1_steps, x1_nodes, x1_stepCount, x1_open, x1_openCount, x1_seen, g7, g31) v33).bind (fun v35 => (fX1_ofGoods (x2_lineCount, x2_goodsCount, x2_workCount, x2_years, x2_lines, x2_goods, x2_works, x2_change, x2_coin, x2_knownFree, x2_isKnown) z21 (2)).bind (fun v37 => if v35 = (-1) then (some (.inl ((z20 + (v37 * 999)), (z21 + 1), g30, g31))) else (some (.inl ((z20 + (v37 * v35)), (z21 + 1), g30, g31)))))))) else (some (.inl (z20, (z21 + 1), z22, z23)))))
def fX4_freeBy_s14 (n : Nat) (x1_steps : (Nat → Int32)) (x1_nodes : (Nat → Int32)) (x1_stepCount : Int32) (x1_open : (Nat → Int32)) (x1_openCount : Int32) (x1_seen : Int64) (x2_lineCount : Int32) (x2_goodsCount : Int32) (x2_workCount : Int32) (x2_years : Int32) (x2_lines : (Nat → Int32)) (x2_goods : (Nat → Int32)) (x2_works : (Nat → Int32)) (x2_change : (Nat → Int32)) (x2_coin : (Nat → Int32)) (x2_knownFree : (Nat → Int32)) (x2_isKnown : Int32) (g2 : (Nat → Int32)) (g3 : (Nat → Int32)) (g4 : (Nat → Int32)) (g5 : (Nat → Int32)) (g6 : (Nat → Int32)) (g7 : Int32) (z11 : Int32) (z12 : Int32) (z13 : (Nat → Int32)) (z14 : Int32) : Option ((Int32 × Int32 × (Nat → Int32) × Int32) ⊕ (Int32 × (Nat → Int32) × Int32)) :=
  if 12 ≤ z12 then (some (.inr (z11, z13, z14))) else ((lp (u4 (fX4_freeBy_s24 n x1_steps x1_nodes x1_stepCount x1_open x1_openCount x1_seen x2_lineCount x2_goodsCount x2_workCount x2_years x2_lines x2_goods x2_works x2_change x2_coin x2_knownFree x2_isKnown g2 g3 g4 g5 g6 g7 z12)) n (z11, 0, z13, z14)).bind (u3 fun w25 w26 w27 => some (.inl (w25, (z12 + 1), w26, w27))))
def fX4_freeBy (n : Nat) (X0 : TrT) (X1 : WyT) (X2 : LdT) (p2 : Int32) : Option (Int32 × ((Nat → Int32) × (Nat → Int32) × (Nat → Int32) × (Nat → Int32) × (Nat → Int32) × (Nat → Int32) × Int32 × Int32)) :=
  u4 (fun (x0_left : (Nat → Int32)) (x0_earned : (Nat → Int32)) (x0_turnCost : Int32) (x0_turnWayless : Int32) => u14 (fun (x1_edgeA : (Nat → Int32)) (x1_edgeB : (Nat → Int32)) (x1_edgeCost : (Nat → Int32)) (x1_edgeLine : (Nat → Int32)) (x1_change : (Nat → Int32)) (x1_away : (Nat → Int32)) (x1_steps : (Nat → Int32)) (x1_nodes : (Nat → Int32)) (x1_stepCount : Int32) (x1_open : (Nat → Int32)) (x1_openCount : Int32) (x1_seen : Int64) (x1_edgeCount : Int32) (x1_aim : Int32) => u11 (fun (x2_lineCount : Int32) (x2_goodsCount : Int32) (x2_workCount : Int32) (x2_years : Int32) (x2_lines : (Nat → Int32)) (x2_goods : (Nat → Int32)) (x2_works : (Nat → Int32)) (x2_change : (Nat → Int32)) (x2_coin : (Nat → Int32)) (x2_knownFree : (Nat → Int32)) (x2_isKnown : Int32) => (fX5_prepare n (x1_edgeA, x1_edgeB, x1_edgeCost, x1_edgeLine, x1_change, x1_away, x1_steps, x1_nodes, x1_stepCount, x1_open, x1_openCount, x1_seen, x1_edgeCount, x1_aim) (x2_lineCount, x2_goodsCount, x2_workCount, x2_years, x2_lines, x2_goods, x2_works, x2_change, x2_coin, x2_knownFree, x2_isKnown) p2).bind (fun G1 => u7 (fun g2 g3 g4 g5 g6 g7 g8 => (lp (u4 (fX4_freeBy_s14 n x1_steps x1_nodes x1_stepCount x1_open x1_openCount x1_seen x2_lineCount x2_goodsCount x2_workCount x2_years x2_lines x2_goods x2_works x2_change x2_coin x2_knownFree x2_isKnown g2 g3 g4 g5 g6 g7)) n (0, 0, x1_away, g8)).bind (u3 fun w16 w17 w18 => some (w16, (g2, g3, g4, g5, g6, w17, g7, w18)))) G1)) X2) X1) X0
set_option maxHeartbeats 4000000 in
set_option maxRecDepth 100000 in
theorem kX4_freeBy (l : Launch) (d : DT) (h0 : Nat → Nat) (h1 : Nat → Nat) (h2 : Nat → Nat) (n : Nat) (x0_left : (Nat → Int32)) (x0_earned : (Nat → Int32)) (x0_turnCost : Int32) (x0_turnWayless : Int32) (x1_edgeA : (Nat → Int32)) (x1_edgeB : (Nat → Int32)) (x1_edgeCost : (Nat → Int32)) (x1_edgeLine : (Nat → Int32)) (x1_change : (Nat → Int32)) (x1_away : (Nat → Int32)) (x1_steps : (Nat → Int32)) (x1_nodes : (Nat → Int32)) (x1_stepCount : Int32) (x1_open : (Nat → Int32)) (x1_openCount : Int32) (x1_seen : Int64) (x1_edgeCount : Int32) (x1_aim : Int32) (x2_lineCount : Int32) (x2_goodsCount : Int32) (x2_workCount : Int32) (x2_years : Int32) (x2_lines : (Nat → Int32)) (x2_goods : (Nat → Int32)) (x2_works : (Nat → Int32)) (x2_change : (Nat → Int32)) (x2_coin : (Nat → Int32)) (x2_knownFree : (Nat → Int32)) (x2_isKnown : Int32) (p2 : Int32)  {out : Int32 × ((Nat → Int32) × (Nat → Int32) × (Nat → Int32) × (Nat → Int32) × (Nat → Int32) × (Nat → Int32) × Int32 × Int32)} (hf : fX4_freeBy n (x0_left, x0_earned, x0_turnCost, x0_turnWayless) (x1_edgeA, x1_edgeB, x1_edgeCost, x1_edgeLine, x1_change, x1_away, x1_steps, x1_nodes, x1_stepCount, x1_open, x1_openCount, x1_seen, x1_edgeCount, x1_aim) (x2_lineCount, x2_goodsCount, x2_workCount, x2_years, x2_lines, x2_goods, x2_works, x2_change, x2_coin, x2_knownFree, x2_isKnown) p2 = some out) : Ct l d yX4_freeBy cX4_freeBy 7 (some .int) { frames := 2, cells := 0, slots := 0, locals := 51 } [.ref (h0 0), .ref (h2 0), .int p2] [gTr d h0 (h1 0) x0_left x0_earned x0_turnCost x0_turnWayless, gWy d h1 x1_edgeA x1_edgeB x1_edgeCost x1_edgeLine x1_change x1_away x1_steps x1_nodes x1_stepCount x1_open x1_openCount x1_seen x1_edgeCount x1_aim, gLd d h2 x2_lineCount x2_goodsCount x2_workCount x2_years x2_lines x2_goods x2_works x2_change x2_coin x2_knownFree x2_isKnown] (fun _ : Unit => (some (.int out.1), [gTr d h0 (h1 0) x0_left x0_earned x0_turnCost x0_turnWayless, gWy d h1 (out.2.1) (out.2.2.1) (out.2.2.2.1) (out.2.2.2.2.1) (out.2.2.2.2.2.1) (out.2.2.2.2.2.2.1) x1_steps x1_nodes x1_stepCount x1_open x1_openCount x1_seen (out.2.2.2.2.2.2.2.1) (out.2.2.2.2.2.2.2.2), gLd d h2 x2_lineCount x2_goodsCount x2_workCount x2_years x2_lines x2_goods x2_works x2_change x2_coin x2_knownFree x2_isKnown])) := by
  refine Ct.of (by decide) (Nat.le_of_ble_eq_true rfl) ?_
  intro Φ hl hK hR
  subst hl
  have hK : Ok d Φ RX4 "freeBy" cX4_freeBy 7 (some .int) { frames := 2, cells := 0, slots := 0, locals := 51 } := hK
  unfold fX4_freeBy at hf
  have hf := un4 hf
  have hf := un14 hf
  have hf := un11 hf
  show J d Φ 7 [gTr d h0 (h1 0) x0_left x0_earned x0_turnCost x0_turnWayless, gWy d h1 x1_edgeA x1_edgeB x1_edgeCost x1_edgeLine x1_change x1_away x1_steps x1_nodes x1_stepCount x1_open x1_openCount x1_seen x1_edgeCount x1_aim, gLd d h2 x2_lineCount x2_goodsCount x2_workCount x2_years x2_lines x2_goods x2_works x2_change x2_coin x2_knownFree x2_isKnown] 0 0 0 [(0, .ref (h0 0)), (1, .ref (h2 0)), (2, .int p2)] []
  refine J_aload_n hK dX4_freeBy_0 rfl 0 rfl rfl ?_
  refine J_get hK fo_RX4_12 dX4_freeBy_1 rfl 0 0 rfl rfl rfl ?_
  refine J_aload_n hK dX4_freeBy_4 rfl 1 rfl rfl ?_
  refine J_iload_n hK dX4_freeBy_5 rfl 2 rfl rfl ?_
  obtain ⟨⟨g2, g3, g4, g5, g6, g7, g8⟩, e9, hf⟩ := bs hf
  have hf := un7 hf
  refine J_callV (m' := 3) (ce' := 0) (sl' := 0) (gr := [gTr d h0 (h1 0) x0_left x0_earned x0_turnCost x0_turnWayless]) (gs' := fun _ => [gTr d h0 (h1 0) x0_left x0_earned x0_turnCost x0_turnWayless, gWy d h1 g2 g3 g4 g5 g6 x1_away x1_steps x1_nodes x1_stepCount x1_open x1_openCount x1_seen g7 g8, gLd d h2 x2_lineCount x2_goodsCount x2_workCount x2_years x2_lines x2_goods x2_works x2_change x2_coin x2_knownFree x2_isKnown]) (st' := fun _ => []) (st := []) hK dX4_freeBy_6 cv_RX4_31 iv_yX5_prepare (As := [.ref (h2 0), .int p2]) (kX5_prepare _ d h1 h2 n x1_edgeA x1_edgeB x1_edgeCost x1_edgeLine x1_change x1_away x1_steps x1_nodes x1_stepCount x1_open x1_openCount x1_seen x1_edgeCount x1_aim x2_lineCount x2_goodsCount x2_workCount x2_years x2_lines x2_goods x2_works x2_change x2_coin x2_knownFree x2_isKnown p2 e9) rfl rfl (Nat.le_of_ble_eq_true rfl) (by decide) 1 0 rfl rfl rfl [1, 2] [0] rfl rfl rfl rfl [0, 1, 2] rfl (fun _ => rfl) (fun _ => rfl) rfl rfl rfl (fun _ => rfl) (fun _ => ?_)
  refine J_iconst (v := 0) hK dX4_freeBy_9 rfl (by decide) ?_
  refine J_istore_n (L' := [(3, .int (0)), (0, .ref (h0 0)), (1, .ref (h2 0)), (2, .int p2)]) hK dX4_freeBy_10 rfl rfl (by decide) rfl ?_
  refine J_iconst (v := 0) hK dX4_freeBy_11 rfl (by decide) ?_
  refine J_istore (L' := [(4, .int (0)), (3, .int (0)), (0, .ref (h0 0)), (1, .ref (h2 0)), (2, .int p2)]) hK dX4_freeBy_12 rfl (by decide) rfl ?_
  obtain ⟨e15, hl10, hf⟩ := bs hf
  have hx10_107 : ∀ (w16 : Int32) (w17 : (Nat → Int32)) (w18 : Int32), (w16, w17, w18) = e15 → J d Φ 7 [gTr d h0 (h1 0) x0_left x0_earned x0_turnCost x0_turnWayless, gWy d h1 g2 g3 g4 g5 g6 w17 x1_steps x1_nodes x1_stepCount x1_open x1_openCount x1_seen g7 w18, gLd d h2 x2_lineCount x2_goodsCount x2_workCount x2_years x2_lines x2_goods x2_works x2_change x2_coin x2_knownFree x2_isKnown] 0 0 107 [(3, .int w16)] [] := by
    intro w16 w17 w18 he
    rw [← he] at hf
    have hf := un3 hf
    refine J_iload_n hK dX4_freeBy_107 rfl 0 rfl rfl ?_
    obtain rfl := Option.some.inj hf
    exact J_iret hK hR dX4_freeBy_108 () rfl (by decide) (by decide)
  have lo10 : ∀ (k : Nat) (z11 : Int32) (z12 : Int32) (z13 : (Nat → Int32)) (z14 : Int32), lp (u4 (fX4_freeBy_s14 n x1_steps x1_nodes x1_stepCount x1_open x1_openCount x1_seen x2_lineCount x2_goodsCount x2_workCount x2_years x2_lines x2_goods x2_works x2_change x2_coin x2_knownFree x2_isKnown g2 g3 g4 g5 g6 g7)) k (z11, z12, z13, z14) = some e15 → J d Φ 7 [gTr d h0 (h1 0) x0_left x0_earned x0_turnCost x0_turnWayless, gWy d h1 g2 g3 g4 g5 g6 z13 x1_steps x1_nodes x1_stepCount x1_open x1_openCount x1_seen g7 z14, gLd d h2 x2_lineCount x2_goodsCount x2_workCount x2_years x2_lines x2_goods x2_works x2_change x2_coin x2_knownFree x2_isKnown] 0 0 14 [(0, .ref (h0 0)), (1, .ref (h2 0)), (3, .int z11), (4, .int z12)] [] := by
    intro k
    induction k with
    | zero => intro z11 z12 z13 z14 h; cases h
    | succ k ih10 =>
      intro z11 z12 z13 z14 h
      obtain ⟨k2, rr10, hk2, hs10, hr10⟩ := lp_ok h
      cases hk2
      have hs10 : fX4_freeBy_s14 n x1_steps x1_nodes x1_stepCount x1_open x1_openCount x1_seen x2_lineCount x2_goodsCount x2_workCount x2_years x2_lines x2_goods x2_works x2_change x2_coin x2_knownFree x2_isKnown g2 g3 g4 g5 g6 g7 z11 z12 z13 z14 = some rr10 := hs10
      unfold fX4_freeBy_s14 at hs10
      refine J_iload hK dX4_freeBy_14 rfl 3 rfl ?_
      refine J_bipush (v := 12) hK dX4_freeBy_16 rfl (by decide) ?_
      refine J_icmp_ge (tg := 107) hK dX4_freeBy_18 rfl rfl (fun hc18 => ?_) (fun hc18 => ?_)
      · have hs10 := ip hc18 hs10
        exact J_loc [2] rfl (hx10_107 z11 z13 z14 (lpx hs10 hr10))
      · have hs10 := iq hc18 hs10
        refine J_iconst (v := 0) hK dX4_freeBy_21 rfl (by decide) ?_
        refine J_istore (L' := [(5, .int (0)), (0, .ref (h0 0)), (1, .ref (h2 0)), (3, .int z11), (4, .int z12)]) hK dX4_freeBy_22 rfl (by decide) rfl ?_
        obtain ⟨e24, hl19, hs10⟩ := bs hs10
        have hx19_101 : ∀ (w25 : Int32) (w26 : (Nat → Int32)) (w27 : Int32), (w25, w26, w27) = e24 → J d Φ 7 [gTr d h0 (h1 0) x0_left x0_earned x0_turnCost x0_turnWayless, gWy d h1 g2 g3 g4 g5 g6 w26 x1_steps x1_nodes x1_stepCount x1_open x1_openCount x1_seen g7 w27, gLd d h2 x2_lineCount x2_goodsCount x2_workCount x2_years x2_lines x2_goods x2_works x2_change x2_coin x2_knownFree x2_isKnown] 0 0 101 [(0, .ref (h0 0)), (1, .ref (h2 0)), (3, .int w25), (4, .int z12)] [] := by
          intro w25 w26 w27 he
          rw [← he] at hs10
          have hs10 := un3 hs10
          refine J_iinc (L' := [(4, .int (z12 + 1)), (0, .ref (h0 0)), (1, .ref (h2 0)), (3, .int w25)]) (v := (z12 + 1)) hK dX4_freeBy_101 rfl 3 rfl rfl (by decide) rfl ?_
          refine J_goto hK dX4_freeBy_104 (n := 14) rfl ?_
          exact J_loc [1, 2, 3, 0] rfl (ih10 w25 (z12 + 1) w26 w27 (lpc hs10 hr10))
        have lo19 : ∀ (k : Nat) (z20 : Int32) (z21 : Int32) (z22 : (Nat → Int32)) (z23 : Int32), lp (u4 (fX4_freeBy_s24 n x1_steps x1_nodes x1_stepCount x1_open x1_openCount x1_seen x2_lineCount x2_goodsCount x2_workCount x2_years x2_lines x2_goods x2_works x2_change x2_coin x2_knownFree x2_isKnown g2 g3 g4 g5 g6 g7 z12)) k (z20, z21, z22, z23) = some e24 → J d Φ 7 [gTr d h0 (h1 0) x0_left x0_earned x0_turnCost x0_turnWayless, gWy d h1 g2 g3 g4 g5 g6 z22 x1_steps x1_nodes x1_stepCount x1_open x1_openCount x1_seen g7 z23, gLd d h2 x2_lineCount x2_goodsCount x2_workCount x2_years x2_lines x2_goods x2_works x2_change x2_coin x2_knownFree x2_isKnown] 0 0 24 [(0, .ref (h0 0)), (1, .ref (h2 0)), (3, .int z20), (4, .int z12), (5, .int z21)] [] := by
          intro k
          induction k with
          | zero => intro z20 z21 z22 z23 h; cases h
          | succ k ih19 =>
            intro z20 z21 z22 z23 h
            obtain ⟨k2, rr19, hk2, hs19, hr19⟩ := lp_ok h
            cases hk2
            have hs19 : fX4_freeBy_s24 n x1_steps x1_nodes x1_stepCount x1_open x1_openCount x1_seen x2_lineCount x2_goodsCount x2_workCount x2_years x2_lines x2_goods x2_works x2_change x2_coin x2_knownFree x2_isKnown g2 g3 g4 g5 g6 g7 z12 z20 z21 z22 z23 = some rr19 := hs19
            unfold fX4_freeBy_s24 at hs19
            refine J_iload hK dX4_freeBy_24 rfl 4 rfl ?_
            refine J_aload_n hK dX4_freeBy_26 rfl 1 rfl rfl ?_
            refine J_get hK fo_RX4_43 dX4_freeBy_27 rfl 2 0 rfl rfl rfl ?_
            refine J_icmp_ge (tg := 101) hK dX4_freeBy_30 rfl rfl (fun hc30 => ?_) (fun hc30 => ?_)
            · have hs19 := ip hc30 hs19
              exact J_loc [0, 1, 2, 3] rfl (hx19_101 z20 z22 z23 (lpx hs19 hr19))
            · have hs19 := iq hc30 hs19
              refine J_aload_n hK dX4_freeBy_33 rfl 1 rfl rfl ?_
              refine J_iload hK dX4_freeBy_34 rfl 4 rfl ?_
              refine J_iconst (v := 1) hK dX4_freeBy_36 rfl (by decide) ?_
              obtain ⟨v28, e29, hs19⟩ := bs hs19
              refine J_callV (m' := 3) (ce' := 0) (sl' := 0) (gr := [gTr d h0 (h1 0) x0_left x0_earned x0_turnCost x0_turnWayless, gWy d h1 g2 g3 g4 g5 g6 z22 x1_steps x1_nodes x1_stepCount x1_open x1_openCount x1_seen g7 z23]) (gs' := fun _ => [gTr d h0 (h1 0) x0_left x0_earned x0_turnCost x0_turnWayless, gWy d h1 g2 g3 g4 g5 g6 z22 x1_steps x1_nodes x1_stepCount x1_open x1_openCount x1_seen g7 z23, gLd d h2 x2_lineCount x2_goodsCount x2_workCount x2_years x2_lines x2_goods x2_works x2_change x2_coin x2_knownFree x2_isKnown]) (st' := fun _ => [.int v28]) (st := []) hK dX4_freeBy_37 cv_RX4_47 iv_yX1_ofGoods (As := [.int z21, .int (1)]) (kX1_ofGoods _ d h2 x2_lineCount x2_goodsCount x2_workCount x2_years x2_lines x2_goods x2_works x2_change x2_coin x2_knownFree x2_isKnown z21 (1) e29) rfl rfl (Nat.le_of_ble_eq_true rfl) (by decide) 2 0 rfl rfl rfl [2] [0, 1] rfl rfl rfl rfl [0, 1, 2] rfl (fun _ => rfl) (fun _ => rfl) rfl rfl rfl (fun _ => rfl) (fun _ => ?_)
              refine J_iload hK dX4_freeBy_40 rfl 3 rfl ?_
              refine J_icmp_ne (tg := 95) hK dX4_freeBy_42 rfl rfl (fun hc42 => ?_) (fun hc42 => ?_)
              · have hs19 := iq hc42 hs19
                refine J_iinc (L' := [(5, .int (z21 + 1)), (0, .ref (h0 0)), (1, .ref (h2 0)), (3, .int z20), (4, .int z12)]) (v := (z21 + 1)) hK dX4_freeBy_95 rfl 4 rfl rfl (by decide) rfl ?_
                refine J_goto hK dX4_freeBy_98 (n := 24) rfl ?_
                exact J_loc [1, 2, 3, 4, 0] rfl (ih19 z20 (z21 + 1) z22 z23 (lpc hs19 hr19))
              · have hs19 := ip hc42 hs19
                refine J_aload_n hK dX4_freeBy_45 rfl 0 rfl rfl ?_
                refine J_get hK fo_RX4_12 dX4_freeBy_46 rfl 0 0 rfl rfl rfl ?_
                refine J_iload hK dX4_freeBy_49 rfl 3 rfl ?_
                obtain ⟨⟨g30, g31⟩, e32, hs19⟩ := bs hs19
                have hs19 := un2 hs19
                refine J_callV (m' := 3) (ce' := 0) (sl' := 0) (gr := [gTr d h0 (h1 0) x0_left x0_earned x0_turnCost x0_turnWayless, gLd d h2 x2_lineCount x2_goodsCount x2_workCount x2_years x2_lines x2_goods x2_works x2_change x2_coin x2_knownFree x2_isKnown]) (gs' := fun _ => [gTr d h0 (h1 0) x0_left x0_earned x0_turnCost x0_turnWayless, gWy d h1 g2 g3 g4 g5 g6 g30 x1_steps x1_nodes x1_stepCount x1_open x1_openCount x1_seen g7 g31, gLd d h2 x2_lineCount x2_goodsCount x2_workCount x2_years x2_lines x2_goods x2_works x2_change x2_coin x2_knownFree x2_isKnown]) (st' := fun _ => []) (st := []) hK dX4_freeBy_51 cv_RX4_35 iv_yX5_aimAt (As := [.int z12]) (kX5_aimAt _ d h1 n g2 g3 g4 g5 g6 z22 x1_steps x1_nodes x1_stepCount x1_open x1_openCount x1_seen g7 z23 z12 e32) rfl rfl (Nat.le_of_ble_eq_true rfl) (by decide) 1 0 rfl rfl rfl [1] [0, 2] rfl rfl rfl rfl [0, 2, 1] rfl (fun _ => rfl) (fun _ => rfl) rfl rfl rfl (fun _ => rfl) (fun _ => ?_)
                refine J_aload_n hK dX4_freeBy_54 rfl 0 rfl rfl ?_
                refine J_get hK fo_RX4_12 dX4_freeBy_55 rfl 0 0 rfl rfl rfl ?_
                refine J_aload_n hK dX4_freeBy_58 rfl 1 rfl rfl ?_
                refine J_iload hK dX4_freeBy_59 rfl 4 rfl ?_
                refine J_iconst (v := 0) hK dX4_freeBy_61 rfl (by decide) ?_
                obtain ⟨v33, e34, hs19⟩ := bs hs19
                refine J_callV (m' := 3) (ce' := 0) (sl' := 0) (gr := [gTr d h0 (h1 0) x0_left x0_earned x0_turnCost x0_turnWayless, gWy d h1 g2 g3 g4 g5 g6 g30 x1_steps x1_nodes x1_stepCount x1_open x1_openCount x1_seen g7 g31]) (gs' := fun _ => [gTr d h0 (h1 0) x0_left x0_earned x0_turnCost x0_turnWayless, gWy d h1 g2 g3 g4 g5 g6 g30 x1_steps x1_nodes x1_stepCount x1_open x1_openCount x1_seen g7 g31, gLd d h2 x2_lineCount x2_goodsCount x2_workCount x2_years x2_lines x2_goods x2_works x2_change x2_coin x2_knownFree x2_isKnown]) (st' := fun _ => [.int v33, .ref (h1 0)]) (st := [.ref (h1 0)]) hK dX4_freeBy_62 cv_RX4_47 iv_yX1_ofGoods (As := [.int z21, .int (0)]) (kX1_ofGoods _ d h2 x2_lineCount x2_goodsCount x2_workCount x2_years x2_lines x2_goods x2_works x2_change x2_coin x2_knownFree x2_isKnown z21 (0) e34) rfl rfl (Nat.le_of_ble_eq_true rfl) (by decide) 2 0 rfl rfl rfl [2] [0, 1] rfl rfl rfl rfl [0, 1, 2] rfl (fun _ => rfl) (fun _ => rfl) rfl rfl rfl (fun _ => rfl) (fun _ => ?_)
                obtain ⟨v35, e36, hs19⟩ := bs hs19
                refine J_callV (m' := 3) (ce' := 0) (sl' := 0) (gr := [gTr d h0 (h1 0) x0_left x0_earned x0_turnCost x0_turnWayless, gLd d h2 x2_lineCount x2_goodsCount x2_workCount x2_years x2_lines x2_goods x2_works x2_change x2_coin x2_knownFree x2_isKnown]) (gs' := fun _ => [gTr d h0 (h1 0) x0_left x0_earned x0_turnCost x0_turnWayless, gWy d h1 g2 g3 g4 g5 g6 g30 x1_steps x1_nodes x1_stepCount x1_open x1_openCount x1_seen g7 g31, gLd d h2 x2_lineCount x2_goodsCount x2_workCount x2_years x2_lines x2_goods x2_works x2_change x2_coin x2_knownFree x2_isKnown]) (st' := fun _ => [.int v35]) (st := []) hK dX4_freeBy_65 cv_RX4_39 iv_yX5_costFrom (As := [.int v33]) (kX5_costFrom _ d h1 n g2 g3 g4 g5 g6 g30 x1_steps x1_nodes x1_stepCount x1_open x1_openCount x1_seen g7 g31 v33 e36) rfl rfl (Nat.le_of_ble_eq_true rfl) (by decide) 1 0 rfl rfl rfl [1] [0, 2] rfl rfl rfl rfl [0, 2, 1] rfl (fun _ => rfl) (fun _ => rfl) rfl rfl rfl (fun _ => rfl) (fun _ => ?_)
                refine J_istore (L' := [(6, .int v35), (0, .ref (h0 0)), (1, .ref (h2 0)), (3, .int z20), (4, .int z12), (5, .int z21)]) hK dX4_freeBy_68 rfl (by decide) rfl ?_
                refine J_iload_n hK dX4_freeBy_70 rfl 3 rfl rfl ?_
                refine J_aload_n hK dX4_freeBy_71 rfl 2 rfl rfl ?_
                refine J_iload hK dX4_freeBy_72 rfl 5 rfl ?_
                refine J_iconst (v := 2) hK dX4_freeBy_74 rfl (by decide) ?_
                obtain ⟨v37, e38, hs19⟩ := bs hs19
                refine J_callV (m' := 3) (ce' := 0) (sl' := 0) (gr := [gTr d h0 (h1 0) x0_left x0_earned x0_turnCost x0_turnWayless, gWy d h1 g2 g3 g4 g5 g6 g30 x1_steps x1_nodes x1_stepCount x1_open x1_openCount x1_seen g7 g31]) (gs' := fun _ => [gTr d h0 (h1 0) x0_left x0_earned x0_turnCost x0_turnWayless, gWy d h1 g2 g3 g4 g5 g6 g30 x1_steps x1_nodes x1_stepCount x1_open x1_openCount x1_seen g7 g31, gLd d h2 x2_lineCount x2_goodsCount x2_workCount x2_years x2_lines x2_goods x2_works x2_change x2_coin x2_knownFree x2_isKnown]) (st' := fun _ => [.int v37, .int z20]) (st := [.int z20]) hK dX4_freeBy_75 cv_RX4_47 iv_yX1_ofGoods (As := [.int z21, .int (2)]) (kX1_ofGoods _ d h2 x2_lineCount x2_goodsCount x2_workCount x2_years x2_lines x2_goods x2_works x2_change x2_coin x2_knownFree x2_isKnown z21 (2) e38) rfl rfl (Nat.le_of_ble_eq_true rfl) (by decide) 2 0 rfl rfl rfl [2] [0, 1] rfl rfl rfl rfl [0, 1, 2] rfl (fun _ => rfl) (fun _ => rfl) rfl rfl rfl (fun _ => rfl) (fun _ => ?_)
                refine J_iload hK dX4_freeBy_78 rfl 0 rfl ?_
                refine J_iconst (v := (-1)) hK dX4_freeBy_80 rfl (by decide) ?_
                refine J_icmp_ne (tg := 90) hK dX4_freeBy_81 rfl rfl (fun hc81 => ?_) (fun hc81 => ?_)
                · have hs19 := iq hc81 hs19
                  refine J_iload hK dX4_freeBy_90 rfl 0 rfl ?_
                  refine J_imul hK dX4_freeBy_92 rfl ?_
                  refine J_iadd hK dX4_freeBy_93 rfl ?_
                  refine J_istore_n (L' := [(3, .int (z20 + (v37 * v35))), (6, .int v35), (0, .ref (h0 0)), (1, .ref (h2 0)), (4, .int z12), (5, .int z21)]) hK dX4_freeBy_94 rfl rfl (by decide) rfl ?_
                  refine J_iinc (L' := [(5, .int (z21 + 1)), (3, .int (z20 + (v37 * v35))), (6, .int v35), (0, .ref (h0 0)), (1, .ref (h2 0)), (4, .int z12)]) (v := (z21 + 1)) hK dX4_freeBy_95 rfl 5 rfl rfl (by decide) rfl ?_
                  refine J_goto hK dX4_freeBy_98 (n := 24) rfl ?_
                  exact J_loc [3, 4, 1, 5, 0] rfl (ih19 (z20 + (v37 * v35)) (z21 + 1) g30 g31 (lpc hs19 hr19))
                · have hs19 := ip hc81 hs19
                  refine J_sipush (v := 999) hK dX4_freeBy_84 rfl (by decide) ?_
                  refine J_goto hK dX4_freeBy_87 (n := 92) rfl ?_
                  refine J_imul hK dX4_freeBy_92 rfl ?_
                  refine J_iadd hK dX4_freeBy_93 rfl ?_
                  refine J_istore_n (L' := [(3, .int (z20 + (v37 * 999))), (6, .int v35), (0, .ref (h0 0)), (1, .ref (h2 0)), (4, .int z12), (5, .int z21)]) hK dX4_freeBy_94 rfl rfl (by decide) rfl ?_
                  refine J_iinc (L' := [(5, .int (z21 + 1)), (3, .int (z20 + (v37 * 999))), (6, .int v35), (0, .ref (h0 0)), (1, .ref (h2 0)), (4, .int z12)]) (v := (z21 + 1)) hK dX4_freeBy_95 rfl 5 rfl rfl (by decide) rfl ?_
                  refine J_goto hK dX4_freeBy_98 (n := 24) rfl ?_
                  exact J_loc [3, 4, 1, 5, 0] rfl (ih19 (z20 + (v37 * 999)) (z21 + 1) g30 g31 (lpc hs19 hr19))
        exact J_loc [1, 2, 3, 4, 0] rfl (lo19 n z11 (0) z13 z14 hl19)
  exact J_loc [2, 3, 1, 0] rfl (lo10 n (0) (0) x1_away g8 hl10)

def fX1_keepFree (X0 : LdT) (p1 : Int32) (p2 : Int32) : Option ((Nat → Int32)) :=
  u11 (fun (x0_lineCount : Int32) (x0_goodsCount : Int32) (x0_workCount : Int32) (x0_years : Int32) (x0_lines : (Nat → Int32)) (x0_goods : (Nat → Int32)) (x0_works : (Nat → Int32)) (x0_change : (Nat → Int32)) (x0_coin : (Nat → Int32)) (x0_knownFree : (Nat → Int32)) (x0_isKnown : Int32) => (fX6_within p1 (0) (127)).bind (fun v1 => if v1 = 0 then (some x0_knownFree) else ((wr 128 x0_knownFree p1 p2).bind fun f3 => some f3))) X0
set_option maxHeartbeats 4000000 in
set_option maxRecDepth 100000 in
theorem kX1_keepFree (l : Launch) (d : DT) (h0 : Nat → Nat) (x0_lineCount : Int32) (x0_goodsCount : Int32) (x0_workCount : Int32) (x0_years : Int32) (x0_lines : (Nat → Int32)) (x0_goods : (Nat → Int32)) (x0_works : (Nat → Int32)) (x0_change : (Nat → Int32)) (x0_coin : (Nat → Int32)) (x0_knownFree : (Nat → Int32)) (x0_isKnown : Int32) (p1 : Int32) (p2 : Int32)  {out : (Nat → Int32)} (hf : fX1_keepFree (x0_lineCount, x0_goodsCount, x0_workCount, x0_years, x0_lines, x0_goods, x0_works, x0_change, x0_coin, x0_knownFree, x0_isKnown) p1 p2 = some out) : Ct l d yX1_keepFree cX1_keepFree 3 none { frames := 1, cells := 0, slots := 0, locals := 22 } [.ref (h0 0), .int p1, .int p2] [gLd d h0 x0_lineCount x0_goodsCount x0_workCount x0_years x0_lines x0_goods x0_works x0_change x0_coin x0_knownFree x0_isKnown] (fun _ : Unit => (none, [gLd d h0 x0_lineCount x0_goodsCount x0_workCount x0_years x0_lines x0_goods x0_works x0_change x0_coin out x0_isKnown])) := by
  refine Ct.of (by decide) (Nat.le_of_ble_eq_true rfl) ?_
  intro Φ hl hK hR
  subst hl
  have hK : Ok d Φ RX1 "keepFree" cX1_keepFree 3 none { frames := 1, cells := 0, slots := 0, locals := 22 } := hK
  unfold fX1_keepFree at hf
  have hf := un11 hf
  show J d Φ 3 [gLd d h0 x0_lineCount x0_goodsCount x0_workCount x0_years x0_lines x0_goods x0_works x0_change x0_coin x0_knownFree x0_isKnown] 0 0 0 [(0, .ref (h0 0)), (1, .int p1), (2, .int p2)] []
  refine J_iload_n hK dX1_keepFree_0 rfl 1 rfl rfl ?_
  refine J_iconst (v := 0) hK dX1_keepFree_1 rfl (by decide) ?_
  refine J_bipush (v := 127) hK dX1_keepFree_2 rfl (by decide) ?_
  obtain ⟨v1, e2, hf⟩ := bs hf
  refine J_callN (m' := 1) (ce' := 0) (sl' := 0) (gr := [gLd d h0 x0_lineCount x0_goodsCount x0_workCount x0_years x0_lines x0_goods x0_works x0_change x0_coin x0_knownFree x0_isKnown]) (gs' := fun _ => [gLd d h0 x0_lineCount x0_goodsCount x0_workCount x0_years x0_lines x0_goods x0_works x0_change x0_coin x0_knownFree x0_isKnown]) (st' := fun _ => [.int v1]) (st := []) hK dX1_keepFree_4 cn_RX1_59 (As := [.int p1, .int (0), .int (127)]) (kX6_within _ d p1 (0) (127) e2) rfl rfl (Nat.le_of_ble_eq_true rfl) (by decide) [] [0] rfl rfl rfl rfl [0] rfl (fun _ => rfl) (fun _ => rfl) rfl rfl rfl (fun _ => rfl) (fun _ => ?_)
  refine J_if_eq (tg := 17) hK dX1_keepFree_7 rfl rfl (fun hc7 => ?_) (fun hc7 => ?_)
  · have hf := ip hc7 hf
    obtain rfl := Option.some.inj hf
    exact J_vret hK hR dX1_keepFree_17 () rfl (by decide) (by decide)
  · have hf := iq hc7 hf
    refine J_aload_n hK dX1_keepFree_10 rfl 0 rfl rfl ?_
    refine J_get hK fo_RX1_27 dX1_keepFree_11 rfl 0 0 rfl rfl rfl ?_
    refine J_iload_n hK dX1_keepFree_14 rfl 1 rfl rfl ?_
    refine J_iload_n hK dX1_keepFree_15 rfl 2 rfl rfl ?_
    obtain ⟨f3, ef3, hf⟩ := bs hf
    refine J_iast (g' := gLd d h0 x0_lineCount x0_goodsCount x0_workCount x0_years x0_lines x0_goods x0_works x0_change x0_coin f3 x0_isKnown) (gs' := [gLd d h0 x0_lineCount x0_goodsCount x0_workCount x0_years x0_lines x0_goods x0_works x0_change x0_coin f3 x0_isKnown]) hK dX1_keepFree_16 rfl 0 6 rfl rfl ef3 rfl rfl ?_
    obtain rfl := Option.some.inj hf
    exact J_vret hK hR dX1_keepFree_17 () rfl (by decide) (by decide)

def fX0_freeWith_s47 (p2 : Int32) (x4_goodsCount : Int32) (x4_workCount : Int32) (x4_years : Int32) (x4_goods : (Nat → Int32)) (x4_works : (Nat → Int32)) (x4_coin : (Nat → Int32)) (v1 : Int32) (g4 : (Nat → Int32)) (z18 : Int32) (z19 : Int32) (z20 : (Nat → Int32)) (z21 : (Nat → Int32)) (z22 : Int32) (z23 : Int32) (z24 : (Nat → Int32)) (z25 : (Nat → Int32)) (z26 : Int32) : Option ((Int32 × Int32 × (Nat → Int32) × (Nat → Int32) × Int32 × Int32 × (Nat → Int32) × (Nat → Int32) × Int32) ⊕ (Int32 × (Nat → Int32) × (Nat → Int32) × Int32 × Int32 × (Nat → Int32) × (Nat → Int32) × Int32)) :=
  if x4_workCount ≤ z18 then (some (.inr (z19, z20, z21, z22, z23, z24, z25, z26))) else (if (((p2 &&& (v1 ^^^ (-1))) >>> (z18 &&& 31)) &&& 1) = 0 then (some (.inl ((z18 + 1), z19, z20, z21, z22, z23, z24, z25, z26))) else ((fX1_perform (z23, x4_goodsCount, x4_workCount, x4_years, z24, x4_goods, x4_works, z25, x4_coin, g4, z26) z18).bind (u4 fun g51 g52 g53 g54 => some (.inl ((z18 + 1), z19, z20, z21, z22, g51, g52, g53, g54)))))
def fX0_freeWith_s47b (p2 : Int32) (x3_knownFree : (Nat → Int32)) (x4_workCount : Int32) (v1 : Int32) (g58 : Int32) (g59 : Int32) (g60 : Int32) (g62 : (Nat → Int32)) (g63 : (Nat → Int32)) (g65 : (Nat → Int32)) (z69 : Int32) (z70 : Int32) (z71 : (Nat → Int32)) (z72 : (Nat → Int32)) (z73 : Int32) (z74 : Int32) (z75 : (Nat → Int32)) (z76 : (Nat → Int32)) (z77 : Int32) : Option ((Int32 × Int32 × (Nat → Int32) × (Nat → Int32) × Int32 × Int32 × (Nat → Int32) × (Nat → Int32) × Int32) ⊕ (Int32 × (Nat → Int32) × (Nat → Int32) × Int32 × Int32 × (Nat → Int32) × (Nat → Int32) × Int32)) :=
  if x4_workCount ≤ z69 then (some (.inr (z70, z71, z72, z73, z74, z75, z76, z77))) else (if (((p2 &&& (v1 ^^^ (-1))) >>> (z69 &&& 31)) &&& 1) = 0 then (some (.inl ((z69 + 1), z70, z71, z72, z73, z74, z75, z76, z77))) else ((fX1_perform (z70, g58, g59, g60, z71, g62, g63, z72, g65, x3_knownFree, z73) z69).bind (u4 fun g102 g103 g104 g105 => some (.inl ((z69 + 1), g102, g103, g104, g105, z74, z75, z76, z77)))))
def fX0_freeWith (n : Nat) (X0 : ChT) (X1 : TrT) (X2 : WyT) (X3 : LdT) (X4 : LdT) (p2 : Int32) : Option (Int32 × ((Nat → Int32) × (Nat → Int32) × (Nat → Int32) × (Nat → Int32) × (Nat → Int32) × (Nat → Int32) × Int32 × Int32) × (Int32 × Int32 × Int32 × Int32 × (Nat → Int32) × (Nat → Int32) × (Nat → Int32) × (Nat → Int32) × (Nat → Int32) × Int32) × (Int32 × (Nat → Int32) × (Nat → Int32) × (Nat → Int32) × Int32)) :=
  (fun (x0_gained : (Nat → Int32)) => u4 (fun (x1_left : (Nat → Int32)) (x1_earned : (Nat → Int32)) (x1_turnCost : Int32) (x1_turnWayless : Int32) => u14 (fun (x2_edgeA : (Nat → Int32)) (x2_edgeB : (Nat → Int32)) (x2_edgeCost : (Nat → Int32)) (x2_edgeLine : (Nat → Int32)) (x2_change : (Nat → Int32)) (x2_away : (Nat → Int32)) (x2_steps : (Nat → Int32)) (x2_nodes : (Nat → Int32)) (x2_stepCount : Int32) (x2_open : (Nat → Int32)) (x2_openCount : Int32) (x2_seen : Int64) (x2_edgeCount : Int32) (x2_aim : Int32) => u11 (fun (x3_lineCount : Int32) (x3_goodsCount : Int32) (x3_workCount : Int32) (x3_years : Int32) (x3_lines : (Nat → Int32)) (x3_goods : (Nat → Int32)) (x3_works : (Nat → Int32)) (x3_change : (Nat → Int32)) (x3_coin : (Nat → Int32)) (x3_knownFree : (Nat → Int32)) (x3_isKnown : Int32) => u11 (fun (x4_lineCount : Int32) (x4_goodsCount : Int32) (x4_workCount : Int32) (x4_years : Int32) (x4_lines : (Nat → Int32)) (x4_goods : (Nat → Int32)) (x4_works : (Nat → Int32)) (x4_change : (Nat → Int32)) (x4_coin : (Nat → Int32)) (x4_knownFree : (Nat → Int32)) (x4_isKnown : Int32) => (fX1_doneWorks n (x4_lineCount, x4_goodsCount, x4_workCount, x4_years, x4_lines, x4_goods, x4_works, x4_change, x4_coin, x4_knownFree, x4_isKnown)).bind (fun v1 => (fX1_freeKnown n (x4_lineCount, x4_goodsCount, x4_workCount, x4_years, x4_lines, x4_goods, x4_works, x4_change, x4_coin, x4_knownFree, x4_isKnown) (p2 &&& (v1 ^^^ (-1)))).bind (u3 fun v3 g4 g5 => if v3 = (-1) then (if (p2 &&& (v1 ^^^ (-1))) = 0 then ((lp (u9 (fX0_freeWith_s47 p2 x4_goodsCount x4_workCount x4_years x4_goods x4_works x4_coin v1 g4)) n (0, x3_lineCount, x3_lines, x3_change, x3_isKnown, x4_lineCount, x4_lines, x4_change, g5)).bind (u8 fun w28 w29 w30 w31 w32 w33 w34 w35 => (fX1_linesThere n (w32, x4_goodsCount, x4_workCount, x4_years, w33, x4_goods, x4_works, w34, x4_coin, g4, w35)).bind (fun v36 => (fX4_freeBy n (x1_left, x1_earned, x1_turnCost, x1_turnWayless) (x2_edgeA, x2_edgeB, x2_edgeCost, x2_edgeLine, x2_change, x2_away, x2_steps, x2_nodes, x2_stepCount, x2_open, x2_openCount, x2_seen, x2_edgeCount, x2_aim) (w32, x4_goodsCount, x4_workCount, x4_years, w33, x4_goods, x4_works, w34, x4_coin, g4, w35) v36).bind (u2 fun v38 G39 => u8 (fun g40 g41 g42 g43 g44 g45 g46 g47 => (fX1_keepFree (w32, x4_goodsCount, x4_workCount, x4_years, w33, x4_goods, x4_works, w34, x4_coin, g4, w35) (p2 &&& (v1 ^^^ (-1))) v38).bind (fun g49 => some (v38, (g40, g41, g42, g43, g44, g45, g46, g47), (w28, x3_goodsCount, x3_workCount, x3_years, w29, x3_goods, x3_works, w30, x3_coin, w31), (w32, w33, w34, g49, w35)))) G39)))) else ((fX1_take (x3_lineCount, x3_goodsCount, x3_workCount, x3_years, x3_lines, x3_goods, x3_works, x3_change, x3_coin, x3_knownFree, x3_isKnown) (x4_lineCount, x4_goodsCount, x4_workCount, x4_years, x4_lines, x4_goods, x4_works, x4_change, x4_coin, g4, g5)).bind (fun G56 => u10 (fun g57 g58 g59 g60 g61 g62 g63 g64 g65 g66 => (lp (u9 (fX0_freeWith_s47b p2 x3_knownFree x4_workCount v1 g58 g59 g60 g62 g63 g65)) n (0, g57, g61, g64, g66, x4_lineCount, x4_lines, x4_change, g5)).bind (u8 fun w79 w80 w81 w82 w83 w84 w85 w86 => (fX1_linesThere n (w79, g58, g59, g60, w80, g62, g63, w81, g65, x3_knownFree, w82)).bind (fun v87 => (fX4_freeBy n (x1_left, x1_earned, x1_turnCost, x1_turnWayless) (x2_edgeA, x2_edgeB, x2_edgeCost, x2_edgeLine, x2_change, x2_away, x2_steps, x2_nodes, x2_stepCount, x2_open, x2_openCount, x2_seen, x2_edgeCount, x2_aim) (w79, g58, g59, g60, w80, g62, g63, w81, g65, x3_knownFree, w82) v87).bind (u2 fun v89 G90 => u8 (fun g91 g92 g93 g94 g95 g96 g97 g98 => (fX1_keepFree (w83, x4_goodsCount, x4_workCount, x4_years, w84, x4_goods, x4_works, w85, x4_coin, g4, w86) (p2 &&& (v1 ^^^ (-1))) v89).bind (fun g100 => some (v89, (g91, g92, g93, g94, g95, g96, g97, g98), (w79, g58, g59, g60, w80, g62, g63, w81, g65, w82), (w83, w84, w85, g100, w86)))) G90)))) G56))) else (some (v3, (x2_edgeA, x2_edgeB, x2_edgeCost, x2_edgeLine, x2_change, x2_away, x2_edgeCount, x2_aim), (x3_lineCount, x3_goodsCount, x3_workCount, x3_years, x3_lines, x3_goods, x3_works, x3_change, x3_coin, x3_isKnown), (x4_lineCount, x4_lines, x4_change, g4, g5)))))) X4) X3) X2) X1) X0
set_option maxHeartbeats 4000000 in
set_option maxRecDepth 100000 in
theorem kX0_freeWith (l : Launch) (d : DT) (h0 : Nat → Nat) (a0_after : Nat) (h1 : Nat → Nat) (h2 : Nat → Nat) (h3 : Nat → Nat) (h4 : Nat → Nat) (n : Nat) (x0_gained : (Nat → Int32)) (x1_left : (Nat → Int32)) (x1_earned : (Nat → Int32)) (x1_turnCost : Int32) (x1_turnWayless : Int32) (x2_edgeA : (Nat → Int32)) (x2_edgeB : (Nat → Int32)) (x2_edgeCost : (Nat → Int32)) (x2_edgeLine : (Nat → Int32)) (x2_change : (Nat → Int32)) (x2_away : (Nat → Int32)) (x2_steps : (Nat → Int32)) (x2_nodes : (Nat → Int32)) (x2_stepCount : Int32) (x2_open : (Nat → Int32)) (x2_openCount : Int32) (x2_seen : Int64) (x2_edgeCount : Int32) (x2_aim : Int32) (x3_lineCount : Int32) (x3_goodsCount : Int32) (x3_workCount : Int32) (x3_years : Int32) (x3_lines : (Nat → Int32)) (x3_goods : (Nat → Int32)) (x3_works : (Nat → Int32)) (x3_change : (Nat → Int32)) (x3_coin : (Nat → Int32)) (x3_knownFree : (Nat → Int32)) (x3_isKnown : Int32) (x4_lineCount : Int32) (x4_goodsCount : Int32) (x4_workCount : Int32) (x4_years : Int32) (x4_lines : (Nat → Int32)) (x4_goods : (Nat → Int32)) (x4_works : (Nat → Int32)) (x4_change : (Nat → Int32)) (x4_coin : (Nat → Int32)) (x4_knownFree : (Nat → Int32)) (x4_isKnown : Int32) (p2 : Int32)  {out : Int32 × ((Nat → Int32) × (Nat → Int32) × (Nat → Int32) × (Nat → Int32) × (Nat → Int32) × (Nat → Int32) × Int32 × Int32) × (Int32 × Int32 × Int32 × Int32 × (Nat → Int32) × (Nat → Int32) × (Nat → Int32) × (Nat → Int32) × (Nat → Int32) × Int32) × (Int32 × (Nat → Int32) × (Nat → Int32) × (Nat → Int32) × Int32)} (hf : fX0_freeWith n x0_gained (x1_left, x1_earned, x1_turnCost, x1_turnWayless) (x2_edgeA, x2_edgeB, x2_edgeCost, x2_edgeLine, x2_change, x2_away, x2_steps, x2_nodes, x2_stepCount, x2_open, x2_openCount, x2_seen, x2_edgeCount, x2_aim) (x3_lineCount, x3_goodsCount, x3_workCount, x3_years, x3_lines, x3_goods, x3_works, x3_change, x3_coin, x3_knownFree, x3_isKnown) (x4_lineCount, x4_goodsCount, x4_workCount, x4_years, x4_lines, x4_goods, x4_works, x4_change, x4_coin, x4_knownFree, x4_isKnown) p2 = some out) : Ct l d yX0_freeWith cX0_freeWith 7 (some .int) { frames := 3, cells := 0, slots := 0, locals := 77 } [.ref (h0 0), .ref (h4 0), .int p2] [gCh d h0 (h1 0) a0_after (h3 0) x0_gained, gTr d h1 (h2 0) x1_left x1_earned x1_turnCost x1_turnWayless, gWy d h2 x2_edgeA x2_edgeB x2_edgeCost x2_edgeLine x2_change x2_away x2_steps x2_nodes x2_stepCount x2_open x2_openCount x2_seen x2_edgeCount x2_aim, gLd d h3 x3_lineCount x3_goodsCount x3_workCount x3_years x3_lines x3_goods x3_works x3_change x3_coin x3_knownFree x3_isKnown, gLd d h4 x4_lineCount x4_goodsCount x4_workCount x4_years x4_lines x4_goods x4_works x4_change x4_coin x4_knownFree x4_isKnown] (fun _ : Unit => (some (.int out.1), [gCh d h0 (h1 0) a0_after (h3 0) x0_gained, gTr d h1 (h2 0) x1_left x1_earned x1_turnCost x1_turnWayless, gWy d h2 (out.2.1.1) (out.2.1.2.1) (out.2.1.2.2.1) (out.2.1.2.2.2.1) (out.2.1.2.2.2.2.1) (out.2.1.2.2.2.2.2.1) x2_steps x2_nodes x2_stepCount x2_open x2_openCount x2_seen (out.2.1.2.2.2.2.2.2.1) (out.2.1.2.2.2.2.2.2.2), gLd d h3 (out.2.2.1.1) (out.2.2.1.2.1) (out.2.2.1.2.2.1) (out.2.2.1.2.2.2.1) (out.2.2.1.2.2.2.2.1) (out.2.2.1.2.2.2.2.2.1) (out.2.2.1.2.2.2.2.2.2.1) (out.2.2.1.2.2.2.2.2.2.2.1) (out.2.2.1.2.2.2.2.2.2.2.2.1) x3_knownFree (out.2.2.1.2.2.2.2.2.2.2.2.2), gLd d h4 (out.2.2.2.1) x4_goodsCount x4_workCount x4_years (out.2.2.2.2.1) x4_goods x4_works (out.2.2.2.2.2.1) x4_coin (out.2.2.2.2.2.2.1) (out.2.2.2.2.2.2.2)])) := by
  refine Ct.of (by decide) (Nat.le_of_ble_eq_true rfl) ?_
  intro Φ hl hK hR
  subst hl
  have hK : Ok d Φ RX0 "freeWith" cX0_freeWith 7 (some .int) { frames := 3, cells := 0, slots := 0, locals := 77 } := hK
  unfold fX0_freeWith at hf
  have hf := un4 hf
  have hf := un14 hf
  have hf := un11 hf
  have hf := un11 hf
  show J d Φ 7 [gCh d h0 (h1 0) a0_after (h3 0) x0_gained, gTr d h1 (h2 0) x1_left x1_earned x1_turnCost x1_turnWayless, gWy d h2 x2_edgeA x2_edgeB x2_edgeCost x2_edgeLine x2_change x2_away x2_steps x2_nodes x2_stepCount x2_open x2_openCount x2_seen x2_edgeCount x2_aim, gLd d h3 x3_lineCount x3_goodsCount x3_workCount x3_years x3_lines x3_goods x3_works x3_change x3_coin x3_knownFree x3_isKnown, gLd d h4 x4_lineCount x4_goodsCount x4_workCount x4_years x4_lines x4_goods x4_works x4_change x4_coin x4_knownFree x4_isKnown] 0 0 0 [(0, .ref (h0 0)), (1, .ref (h4 0)), (2, .int p2)] []
  refine J_iload_n hK dX0_freeWith_0 rfl 2 rfl rfl ?_
  refine J_aload_n hK dX0_freeWith_1 rfl 1 rfl rfl ?_
  obtain ⟨v1, e2, hf⟩ := bs hf
  refine J_callV (m' := 5) (ce' := 0) (sl' := 0) (gr := [gCh d h0 (h1 0) a0_after (h3 0) x0_gained, gTr d h1 (h2 0) x1_left x1_earned x1_turnCost x1_turnWayless, gWy d h2 x2_edgeA x2_edgeB x2_edgeCost x2_edgeLine x2_change x2_away x2_steps x2_nodes x2_stepCount x2_open x2_openCount x2_seen x2_edgeCount x2_aim, gLd d h3 x3_lineCount x3_goodsCount x3_workCount x3_years x3_lines x3_goods x3_works x3_change x3_coin x3_knownFree x3_isKnown]) (gs' := fun _ => [gCh d h0 (h1 0) a0_after (h3 0) x0_gained, gTr d h1 (h2 0) x1_left x1_earned x1_turnCost x1_turnWayless, gWy d h2 x2_edgeA x2_edgeB x2_edgeCost x2_edgeLine x2_change x2_away x2_steps x2_nodes x2_stepCount x2_open x2_openCount x2_seen x2_edgeCount x2_aim, gLd d h3 x3_lineCount x3_goodsCount x3_workCount x3_years x3_lines x3_goods x3_works x3_change x3_coin x3_knownFree x3_isKnown, gLd d h4 x4_lineCount x4_goodsCount x4_workCount x4_years x4_lines x4_goods x4_works x4_change x4_coin x4_knownFree x4_isKnown]) (st' := fun _ => [.int v1, .int p2]) (st := [.int p2]) hK dX0_freeWith_2 cv_RX0_32 iv_yX1_doneWorks (As := []) (kX1_doneWorks _ d h4 n x4_lineCount x4_goodsCount x4_workCount x4_years x4_lines x4_goods x4_works x4_change x4_coin x4_knownFree x4_isKnown e2) rfl rfl (Nat.le_of_ble_eq_true rfl) (by decide) 4 0 rfl rfl rfl [4] [0, 1, 2, 3] rfl rfl rfl rfl [0, 1, 2, 3, 4] rfl (fun _ => rfl) (fun _ => rfl) rfl rfl rfl (fun _ => rfl) (fun _ => ?_)
  refine J_iconst (v := (-1)) hK dX0_freeWith_5 rfl (by decide) ?_
  refine J_ixor hK dX0_freeWith_6 rfl ?_
  refine J_iand hK dX0_freeWith_7 rfl ?_
  refine J_istore_n (L' := [(3, .int (p2 &&& (v1 ^^^ (-1)))), (0, .ref (h0 0)), (1, .ref (h4 0)), (2, .int p2)]) hK dX0_freeWith_8 rfl rfl (by decide) rfl ?_
  refine J_aload_n hK dX0_freeWith_9 rfl 2 rfl rfl ?_
  refine J_iload_n hK dX0_freeWith_10 rfl 0 rfl rfl ?_
  obtain ⟨⟨v3, g4, g5⟩, e6, hf⟩ := bs hf
  have hf := un3 hf
  refine J_callV (m' := 5) (ce' := 0) (sl' := 0) (gr := [gCh d h0 (h1 0) a0_after (h3 0) x0_gained, gTr d h1 (h2 0) x1_left x1_earned x1_turnCost x1_turnWayless, gWy d h2 x2_edgeA x2_edgeB x2_edgeCost x2_edgeLine x2_change x2_away x2_steps x2_nodes x2_stepCount x2_open x2_openCount x2_seen x2_edgeCount x2_aim, gLd d h3 x3_lineCount x3_goodsCount x3_workCount x3_years x3_lines x3_goods x3_works x3_change x3_coin x3_knownFree x3_isKnown]) (gs' := fun _ => [gCh d h0 (h1 0) a0_after (h3 0) x0_gained, gTr d h1 (h2 0) x1_left x1_earned x1_turnCost x1_turnWayless, gWy d h2 x2_edgeA x2_edgeB x2_edgeCost x2_edgeLine x2_change x2_away x2_steps x2_nodes x2_stepCount x2_open x2_openCount x2_seen x2_edgeCount x2_aim, gLd d h3 x3_lineCount x3_goodsCount x3_workCount x3_years x3_lines x3_goods x3_works x3_change x3_coin x3_knownFree x3_isKnown, gLd d h4 x4_lineCount x4_goodsCount x4_workCount x4_years x4_lines x4_goods x4_works x4_change x4_coin g4 g5]) (st' := fun _ => [.int v3]) (st := []) hK dX0_freeWith_11 cv_RX0_36 iv_yX1_freeKnown (As := [.int (p2 &&& (v1 ^^^ (-1)))]) (kX1_freeKnown _ d h4 n x4_lineCount x4_goodsCount x4_workCount x4_years x4_lines x4_goods x4_works x4_change x4_coin x4_knownFree x4_isKnown (p2 &&& (v1 ^^^ (-1))) e6) rfl rfl (Nat.le_of_ble_eq_true rfl) (by decide) 4 0 rfl rfl rfl [4] [0, 1, 2, 3] rfl rfl rfl rfl [0, 1, 2, 3, 4] rfl (fun _ => rfl) (fun _ => rfl) rfl rfl rfl (fun _ => rfl) (fun _ => ?_)
  refine J_istore (L' := [(4, .int v3), (3, .int (p2 &&& (v1 ^^^ (-1)))), (0, .ref (h0 0)), (1, .ref (h4 0)), (2, .int p2)]) hK dX0_freeWith_14 rfl (by decide) rfl ?_
  refine J_iload hK dX0_freeWith_16 rfl 0 rfl ?_
  refine J_iconst (v := (-1)) hK dX0_freeWith_18 rfl (by decide) ?_
  refine J_icmp_eq (tg := 25) hK dX0_freeWith_19 rfl rfl (fun hc19 => ?_) (fun hc19 => ?_)
  · have hf := ip hc19 hf
    refine J_aload_n hK dX0_freeWith_25 rfl 3 rfl rfl ?_
    refine J_astore (L' := [(5, .ref (h4 0)), (4, .int v3), (3, .int (p2 &&& (v1 ^^^ (-1)))), (0, .ref (h0 0)), (1, .ref (h4 0)), (2, .int p2)]) hK dX0_freeWith_26 rfl (by decide) rfl ?_
    refine J_iload_n hK dX0_freeWith_28 rfl 2 rfl rfl ?_
    refine J_if_eq (tg := 44) hK dX0_freeWith_29 rfl rfl (fun hc29 => ?_) (fun hc29 => ?_)
    · have hf := ip hc29 hf
      refine J_iconst (v := 0) hK dX0_freeWith_44 rfl (by decide) ?_
      refine J_istore (L' := [(6, .int (0)), (5, .ref (h4 0)), (4, .int v3), (3, .int (p2 &&& (v1 ^^^ (-1)))), (0, .ref (h0 0)), (1, .ref (h4 0)), (2, .int p2)]) hK dX0_freeWith_45 rfl (by decide) rfl ?_
      obtain ⟨e27, hl17, hf⟩ := bs hf
      have hx17_78 : ∀ (w28 : Int32) (w29 : (Nat → Int32)) (w30 : (Nat → Int32)) (w31 : Int32) (w32 : Int32) (w33 : (Nat → Int32)) (w34 : (Nat → Int32)) (w35 : Int32), (w28, w29, w30, w31, w32, w33, w34, w35) = e27 → J d Φ 7 [gCh d h0 (h1 0) a0_after (h3 0) x0_gained, gTr d h1 (h2 0) x1_left x1_earned x1_turnCost x1_turnWayless, gWy d h2 x2_edgeA x2_edgeB x2_edgeCost x2_edgeLine x2_change x2_away x2_steps x2_nodes x2_stepCount x2_open x2_openCount x2_seen x2_edgeCount x2_aim, gLd d h3 w28 x3_goodsCount x3_workCount x3_years w29 x3_goods x3_works w30 x3_coin x3_knownFree w31, gLd d h4 w32 x4_goodsCount x4_workCount x4_years w33 x4_goods x4_works w34 x4_coin g4 w35] 0 0 78 [(0, .ref (h0 0)), (1, .ref (h4 0)), (3, .int (p2 &&& (v1 ^^^ (-1)))), (5, .ref (h4 0))] [] := by
        intro w28 w29 w30 w31 w32 w33 w34 w35 he
        rw [← he] at hf
        have hf := un8 hf
        refine J_aload_n hK dX0_freeWith_78 rfl 0 rfl rfl ?_
        refine J_get hK fo_RX0_12 dX0_freeWith_79 rfl 0 0 rfl rfl rfl ?_
        refine J_aload hK dX0_freeWith_82 rfl 3 rfl ?_
        refine J_aload hK dX0_freeWith_84 rfl 3 rfl ?_
        obtain ⟨v36, e37, hf⟩ := bs hf
        refine J_callV (m' := 5) (ce' := 0) (sl' := 0) (gr := [gCh d h0 (h1 0) a0_after (h3 0) x0_gained, gTr d h1 (h2 0) x1_left x1_earned x1_turnCost x1_turnWayless, gWy d h2 x2_edgeA x2_edgeB x2_edgeCost x2_edgeLine x2_change x2_away x2_steps x2_nodes x2_stepCount x2_open x2_openCount x2_seen x2_edgeCount x2_aim, gLd d h3 w28 x3_goodsCount x3_workCount x3_years w29 x3_goods x3_works w30 x3_coin x3_knownFree w31]) (gs' := fun _ => [gCh d h0 (h1 0) a0_after (h3 0) x0_gained, gTr d h1 (h2 0) x1_left x1_earned x1_turnCost x1_turnWayless, gWy d h2 x2_edgeA x2_edgeB x2_edgeCost x2_edgeLine x2_change x2_away x2_steps x2_nodes x2_stepCount x2_open x2_openCount x2_seen x2_edgeCount x2_aim, gLd d h3 w28 x3_goodsCount x3_workCount x3_years w29 x3_goods x3_works w30 x3_coin x3_knownFree w31, gLd d h4 w32 x4_goodsCount x4_workCount x4_years w33 x4_goods x4_works w34 x4_coin g4 w35]) (st' := fun _ => [.int v36, .ref (h4 0), .ref (h1 0)]) (st := [.ref (h4 0), .ref (h1 0)]) hK dX0_freeWith_86 cv_RX0_52 iv_yX1_linesThere (As := []) (kX1_linesThere _ d h4 n w32 x4_goodsCount x4_workCount x4_years w33 x4_goods x4_works w34 x4_coin g4 w35 e37) rfl rfl (Nat.le_of_ble_eq_true rfl) (by decide) 4 0 rfl rfl rfl [4] [0, 1, 2, 3] rfl rfl rfl rfl [0, 1, 2, 3, 4] rfl (fun _ => rfl) (fun _ => rfl) rfl rfl rfl (fun _ => rfl) (fun _ => ?_)
        obtain ⟨⟨v38, ⟨g40, g41, g42, g43, g44, g45, g46, g47⟩⟩, e48, hf⟩ := bs hf
        have hf := un2 hf
        have hf := un8 hf
        refine J_callV (m' := 5) (ce' := 0) (sl' := 0) (gr := [gCh d h0 (h1 0) a0_after (h3 0) x0_gained, gLd d h3 w28 x3_goodsCount x3_workCount x3_years w29 x3_goods x3_works w30 x3_coin x3_knownFree w31]) (gs' := fun _ => [gCh d h0 (h1 0) a0_after (h3 0) x0_gained, gTr d h1 (h2 0) x1_left x1_earned x1_turnCost x1_turnWayless, gWy d h2 g40 g41 g42 g43 g44 g45 x2_steps x2_nodes x2_stepCount x2_open x2_openCount x2_seen g46 g47, gLd d h3 w28 x3_goodsCount x3_workCount x3_years w29 x3_goods x3_works w30 x3_coin x3_knownFree w31, gLd d h4 w32 x4_goodsCount x4_workCount x4_years w33 x4_goods x4_works w34 x4_coin g4 w35]) (st' := fun _ => [.int v38]) (st := []) hK dX0_freeWith_89 cv_RX0_55 iv_yX4_freeBy (As := [.ref (h4 0), .int v36]) (kX4_freeBy _ d h1 h2 h4 n x1_left x1_earned x1_turnCost x1_turnWayless x2_edgeA x2_edgeB x2_edgeCost x2_edgeLine x2_change x2_away x2_steps x2_nodes x2_stepCount x2_open x2_openCount x2_seen x2_edgeCount x2_aim w32 x4_goodsCount x4_workCount x4_years w33 x4_goods x4_works w34 x4_coin g4 w35 v36 e48) rfl rfl (Nat.le_of_ble_eq_true rfl) (by decide) 1 0 rfl rfl rfl [1, 2, 4] [0, 3] rfl rfl rfl rfl [0, 2, 3, 1, 4] rfl (fun _ => rfl) (fun _ => rfl) rfl rfl rfl (fun _ => rfl) (fun _ => ?_)
        refine J_istore (L' := [(6, .int v38), (0, .ref (h0 0)), (1, .ref (h4 0)), (3, .int (p2 &&& (v1 ^^^ (-1)))), (5, .ref (h4 0))]) hK dX0_freeWith_92 rfl (by decide) rfl ?_
        refine J_aload_n hK dX0_freeWith_94 rfl 2 rfl rfl ?_
        refine J_iload_n hK dX0_freeWith_95 rfl 3 rfl rfl ?_
        refine J_iload hK dX0_freeWith_96 rfl 0 rfl ?_
        obtain ⟨g49, e50, hf⟩ := bs hf
        refine J_callV (m' := 5) (ce' := 0) (sl' := 0) (gr := [gCh d h0 (h1 0) a0_after (h3 0) x0_gained, gTr d h1 (h2 0) x1_left x1_earned x1_turnCost x1_turnWayless, gWy d h2 g40 g41 g42 g43 g44 g45 x2_steps x2_nodes x2_stepCount x2_open x2_openCount x2_seen g46 g47, gLd d h3 w28 x3_goodsCount x3_workCount x3_years w29 x3_goods x3_works w30 x3_coin x3_knownFree w31]) (gs' := fun _ => [gCh d h0 (h1 0) a0_after (h3 0) x0_gained, gTr d h1 (h2 0) x1_left x1_earned x1_turnCost x1_turnWayless, gWy d h2 g40 g41 g42 g43 g44 g45 x2_steps x2_nodes x2_stepCount x2_open x2_openCount x2_seen g46 g47, gLd d h3 w28 x3_goodsCount x3_workCount x3_years w29 x3_goods x3_works w30 x3_coin x3_knownFree w31, gLd d h4 w32 x4_goodsCount x4_workCount x4_years w33 x4_goods x4_works w34 x4_coin g49 w35]) (st' := fun _ => []) (st := []) hK dX0_freeWith_98 cv_RX0_59 iv_yX1_keepFree (As := [.int (p2 &&& (v1 ^^^ (-1))), .int v38]) (kX1_keepFree _ d h4 w32 x4_goodsCount x4_workCount x4_years w33 x4_goods x4_works w34 x4_coin g4 w35 (p2 &&& (v1 ^^^ (-1))) v38 e50) rfl rfl (Nat.le_of_ble_eq_true rfl) (by decide) 4 0 rfl rfl rfl [4] [0, 1, 2, 3] rfl rfl rfl rfl [0, 1, 2, 3, 4] rfl (fun _ => rfl) (fun _ => rfl) rfl rfl rfl (fun _ => rfl) (fun _ => ?_)
        refine J_iload hK dX0_freeWith_101 rfl 0 rfl ?_
        obtain rfl := Option.some.inj hf
        exact J_iret hK hR dX0_freeWith_103 () rfl (by decide) (by decide)
      have lo17 : ∀ (k : Nat) (z18 : Int32) (z19 : Int32) (z20 : (Nat → Int32)) (z21 : (Nat → Int32)) (z22 : Int32) (z23 : Int32) (z24 : (Nat → Int32)) (z25 : (Nat → Int32)) (z26 : Int32), lp (u9 (fX0_freeWith_s47 p2 x4_goodsCount x4_workCount x4_years x4_goods x4_works x4_coin v1 g4)) k (z18, z19, z20, z21, z22, z23, z24, z25, z26) = some e27 → J d Φ 7 [gCh d h0 (h1 0) a0_after (h3 0) x0_gained, gTr d h1 (h2 0) x1_left x1_earned x1_turnCost x1_turnWayless, gWy d h2 x2_edgeA x2_edgeB x2_edgeCost x2_edgeLine x2_change x2_away x2_steps x2_nodes x2_stepCount x2_open x2_openCount x2_seen x2_edgeCount x2_aim, gLd d h3 z19 x3_goodsCount x3_workCount x3_years z20 x3_goods x3_works z21 x3_coin x3_knownFree z22, gLd d h4 z23 x4_goodsCount x4_workCount x4_years z24 x4_goods x4_works z25 x4_coin g4 z26] 0 0 47 [(0, .ref (h0 0)), (1, .ref (h4 0)), (3, .int (p2 &&& (v1 ^^^ (-1)))), (5, .ref (h4 0)), (6, .int z18)] [] := by
        intro k
        induction k with
        | zero => intro z18 z19 z20 z21 z22 z23 z24 z25 z26 h; cases h
        | succ k ih17 =>
          intro z18 z19 z20 z21 z22 z23 z24 z25 z26 h
          obtain ⟨k2, rr17, hk2, hs17, hr17⟩ := lp_ok h
          cases hk2
          have hs17 : fX0_freeWith_s47 p2 x4_goodsCount x4_workCount x4_years x4_goods x4_works x4_coin v1 g4 z18 z19 z20 z21 z22 z23 z24 z25 z26 = some rr17 := hs17
          unfold fX0_freeWith_s47 at hs17
          refine J_iload hK dX0_freeWith_47 rfl 4 rfl ?_
          refine J_aload_n hK dX0_freeWith_49 rfl 1 rfl rfl ?_
          refine J_get hK fo_RX0_44 dX0_freeWith_50 rfl 4 0 rfl rfl rfl ?_
          refine J_icmp_ge (tg := 78) hK dX0_freeWith_53 rfl rfl (fun hc53 => ?_) (fun hc53 => ?_)
          · have hs17 := ip hc53 hs17
            exact J_loc [0, 1, 2, 3] rfl (hx17_78 z19 z20 z21 z22 z23 z24 z25 z26 (lpx hs17 hr17))
          · have hs17 := iq hc53 hs17
            refine J_iload_n hK dX0_freeWith_56 rfl 2 rfl rfl ?_
            refine J_iload hK dX0_freeWith_57 rfl 4 rfl ?_
            refine J_ishr hK dX0_freeWith_59 rfl ?_
            refine J_iconst (v := 1) hK dX0_freeWith_60 rfl (by decide) ?_
            refine J_iand hK dX0_freeWith_61 rfl ?_
            refine J_if_eq (tg := 72) hK dX0_freeWith_62 rfl rfl (fun hc62 => ?_) (fun hc62 => ?_)
            · have hs17 := ip hc62 hs17
              refine J_iinc (L' := [(6, .int (z18 + 1)), (0, .ref (h0 0)), (1, .ref (h4 0)), (3, .int (p2 &&& (v1 ^^^ (-1)))), (5, .ref (h4 0))]) (v := (z18 + 1)) hK dX0_freeWith_72 rfl 4 rfl rfl (by decide) rfl ?_
              refine J_goto hK dX0_freeWith_75 (n := 47) rfl ?_
              exact J_loc [1, 2, 3, 4, 0] rfl (ih17 (z18 + 1) z19 z20 z21 z22 z23 z24 z25 z26 (lpc hs17 hr17))
            · have hs17 := iq hc62 hs17
              refine J_aload hK dX0_freeWith_65 rfl 3 rfl ?_
              refine J_iload hK dX0_freeWith_67 rfl 4 rfl ?_
              obtain ⟨⟨g51, g52, g53, g54⟩, e55, hs17⟩ := bs hs17
              have hs17 := un4 hs17
              refine J_callV (m' := 5) (ce' := 0) (sl' := 0) (gr := [gCh d h0 (h1 0) a0_after (h3 0) x0_gained, gTr d h1 (h2 0) x1_left x1_earned x1_turnCost x1_turnWayless, gWy d h2 x2_edgeA x2_edgeB x2_edgeCost x2_edgeLine x2_change x2_away x2_steps x2_nodes x2_stepCount x2_open x2_openCount x2_seen x2_edgeCount x2_aim, gLd d h3 z19 x3_goodsCount x3_workCount x3_years z20 x3_goods x3_works z21 x3_coin x3_knownFree z22]) (gs' := fun _ => [gCh d h0 (h1 0) a0_after (h3 0) x0_gained, gTr d h1 (h2 0) x1_left x1_earned x1_turnCost x1_turnWayless, gWy d h2 x2_edgeA x2_edgeB x2_edgeCost x2_edgeLine x2_change x2_away x2_steps x2_nodes x2_stepCount x2_open x2_openCount x2_seen x2_edgeCount x2_aim, gLd d h3 z19 x3_goodsCount x3_workCount x3_years z20 x3_goods x3_works z21 x3_coin x3_knownFree z22, gLd d h4 g51 x4_goodsCount x4_workCount x4_years g52 x4_goods x4_works g53 x4_coin g4 g54]) (st' := fun _ => []) (st := []) hK dX0_freeWith_69 cv_RX0_48 iv_yX1_perform (As := [.int z18]) (kX1_perform _ d h4 z23 x4_goodsCount x4_workCount x4_years z24 x4_goods x4_works z25 x4_coin g4 z26 z18 e55) rfl rfl (Nat.le_of_ble_eq_true rfl) (by decide) 4 0 rfl rfl rfl [4] [0, 1, 2, 3] rfl rfl rfl rfl [0, 1, 2, 3, 4] rfl (fun _ => rfl) (fun _ => rfl) rfl rfl rfl (fun _ => rfl) (fun _ => ?_)
              refine J_iinc (L' := [(6, .int (z18 + 1)), (0, .ref (h0 0)), (1, .ref (h4 0)), (3, .int (p2 &&& (v1 ^^^ (-1)))), (5, .ref (h4 0))]) (v := (z18 + 1)) hK dX0_freeWith_72 rfl 4 rfl rfl (by decide) rfl ?_
              refine J_goto hK dX0_freeWith_75 (n := 47) rfl ?_
              exact J_loc [1, 2, 3, 4, 0] rfl (ih17 (z18 + 1) z19 z20 z21 z22 g51 g52 g53 g54 (lpc hs17 hr17))
      exact J_loc [4, 5, 3, 1, 0] rfl (lo17 n (0) x3_lineCount x3_lines x3_change x3_isKnown x4_lineCount x4_lines x4_change g5 hl17)
    · have hf := iq hc29 hf
      refine J_aload_n hK dX0_freeWith_32 rfl 3 rfl rfl ?_
      refine J_get hK fo_RX0_29 dX0_freeWith_33 rfl 0 0 rfl rfl rfl ?_
      refine J_astore (L' := [(5, .ref (h3 0)), (4, .int v3), (3, .int (p2 &&& (v1 ^^^ (-1)))), (0, .ref (h0 0)), (1, .ref (h4 0)), (2, .int p2)]) hK dX0_freeWith_36 rfl (by decide) rfl ?_
      refine J_aload hK dX0_freeWith_38 rfl 0 rfl ?_
      refine J_aload_n hK dX0_freeWith_40 rfl 4 rfl rfl ?_
      obtain ⟨⟨g57, g58, g59, g60, g61, g62, g63, g64, g65, g66⟩, e67, hf⟩ := bs hf
      have hf := un10 hf
      refine J_callV (m' := 5) (ce' := 0) (sl' := 0) (gr := [gCh d h0 (h1 0) a0_after (h3 0) x0_gained, gTr d h1 (h2 0) x1_left x1_earned x1_turnCost x1_turnWayless, gWy d h2 x2_edgeA x2_edgeB x2_edgeCost x2_edgeLine x2_change x2_away x2_steps x2_nodes x2_stepCount x2_open x2_openCount x2_seen x2_edgeCount x2_aim]) (gs' := fun _ => [gCh d h0 (h1 0) a0_after (h3 0) x0_gained, gTr d h1 (h2 0) x1_left x1_earned x1_turnCost x1_turnWayless, gWy d h2 x2_edgeA x2_edgeB x2_edgeCost x2_edgeLine x2_change x2_away x2_steps x2_nodes x2_stepCount x2_open x2_openCount x2_seen x2_edgeCount x2_aim, gLd d h3 g57 g58 g59 g60 g61 g62 g63 g64 g65 x3_knownFree g66, gLd d h4 x4_lineCount x4_goodsCount x4_workCount x4_years x4_lines x4_goods x4_works x4_change x4_coin g4 g5]) (st' := fun _ => []) (st := []) hK dX0_freeWith_41 cv_RX0_40 iv_yX1_take (As := [.ref (h4 0)]) (kX1_take _ d h3 h4 x3_lineCount x3_goodsCount x3_workCount x3_years x3_lines x3_goods x3_works x3_change x3_coin x3_knownFree x3_isKnown x4_lineCount x4_goodsCount x4_workCount x4_years x4_lines x4_goods x4_works x4_change x4_coin g4 g5 e67) rfl rfl (Nat.le_of_ble_eq_true rfl) (by decide) 3 0 rfl rfl rfl [3, 4] [0, 1, 2] rfl rfl rfl rfl [0, 1, 2, 3, 4] rfl (fun _ => rfl) (fun _ => rfl) rfl rfl rfl (fun _ => rfl) (fun _ => ?_)
      refine J_iconst (v := 0) hK dX0_freeWith_44 rfl (by decide) ?_
      refine J_istore (L' := [(6, .int (0)), (5, .ref (h3 0)), (4, .int v3), (3, .int (p2 &&& (v1 ^^^ (-1)))), (0, .ref (h0 0)), (1, .ref (h4 0)), (2, .int p2)]) hK dX0_freeWith_45 rfl (by decide) rfl ?_
      obtain ⟨e78, hl68, hf⟩ := bs hf
      have hx68_78 : ∀ (w79 : Int32) (w80 : (Nat → Int32)) (w81 : (Nat → Int32)) (w82 : Int32) (w83 : Int32) (w84 : (Nat → Int32)) (w85 : (Nat → Int32)) (w86 : Int32), (w79, w80, w81, w82, w83, w84, w85, w86) = e78 → J d Φ 7 [gCh d h0 (h1 0) a0_after (h3 0) x0_gained, gTr d h1 (h2 0) x1_left x1_earned x1_turnCost x1_turnWayless, gWy d h2 x2_edgeA x2_edgeB x2_edgeCost x2_edgeLine x2_change x2_away x2_steps x2_nodes x2_stepCount x2_open x2_openCount x2_seen x2_edgeCount x2_aim, gLd d h3 w79 g58 g59 g60 w80 g62 g63 w81 g65 x3_knownFree w82, gLd d h4 w83 x4_goodsCount x4_workCount x4_years w84 x4_goods x4_works w85 x4_coin g4 w86] 0 0 78 [(0, .ref (h0 0)), (1, .ref (h4 0)), (3, .int (p2 &&& (v1 ^^^ (-1)))), (5, .ref (h3 0))] [] := by
        intro w79 w80 w81 w82 w83 w84 w85 w86 he
        rw [← he] at hf
        have hf := un8 hf
        refine J_aload_n hK dX0_freeWith_78 rfl 0 rfl rfl ?_
        refine J_get hK fo_RX0_12 dX0_freeWith_79 rfl 0 0 rfl rfl rfl ?_
        refine J_aload hK dX0_freeWith_82 rfl 3 rfl ?_
        refine J_aload hK dX0_freeWith_84 rfl 3 rfl ?_
        obtain ⟨v87, e88, hf⟩ := bs hf
        refine J_callV (m' := 5) (ce' := 0) (sl' := 0) (gr := [gCh d h0 (h1 0) a0_after (h3 0) x0_gained, gTr d h1 (h2 0) x1_left x1_earned x1_turnCost x1_turnWayless, gWy d h2 x2_edgeA x2_edgeB x2_edgeCost x2_edgeLine x2_change x2_away x2_steps x2_nodes x2_stepCount x2_open x2_openCount x2_seen x2_edgeCount x2_aim, gLd d h4 w83 x4_goodsCount x4_workCount x4_years w84 x4_goods x4_works w85 x4_coin g4 w86]) (gs' := fun _ => [gCh d h0 (h1 0) a0_after (h3 0) x0_gained, gTr d h1 (h2 0) x1_left x1_earned x1_turnCost x1_turnWayless, gWy d h2 x2_edgeA x2_edgeB x2_edgeCost x2_edgeLine x2_change x2_away x2_steps x2_nodes x2_stepCount x2_open x2_openCount x2_seen x2_edgeCount x2_aim, gLd d h3 w79 g58 g59 g60 w80 g62 g63 w81 g65 x3_knownFree w82, gLd d h4 w83 x4_goodsCount x4_workCount x4_years w84 x4_goods x4_works w85 x4_coin g4 w86]) (st' := fun _ => [.int v87, .ref (h3 0), .ref (h1 0)]) (st := [.ref (h3 0), .ref (h1 0)]) hK dX0_freeWith_86 cv_RX0_52 iv_yX1_linesThere (As := []) (kX1_linesThere _ d h3 n w79 g58 g59 g60 w80 g62 g63 w81 g65 x3_knownFree w82 e88) rfl rfl (Nat.le_of_ble_eq_true rfl) (by decide) 3 0 rfl rfl rfl [3] [0, 1, 2, 4] rfl rfl rfl rfl [0, 1, 2, 4, 3] rfl (fun _ => rfl) (fun _ => rfl) rfl rfl rfl (fun _ => rfl) (fun _ => ?_)
        obtain ⟨⟨v89, ⟨g91, g92, g93, g94, g95, g96, g97, g98⟩⟩, e99, hf⟩ := bs hf
        have hf := un2 hf
        have hf := un8 hf
        refine J_callV (m' := 5) (ce' := 0) (sl' := 0) (gr := [gCh d h0 (h1 0) a0_after (h3 0) x0_gained, gLd d h4 w83 x4_goodsCount x4_workCount x4_years w84 x4_goods x4_works w85 x4_coin g4 w86]) (gs' := fun _ => [gCh d h0 (h1 0) a0_after (h3 0) x0_gained, gTr d h1 (h2 0) x1_left x1_earned x1_turnCost x1_turnWayless, gWy d h2 g91 g92 g93 g94 g95 g96 x2_steps x2_nodes x2_stepCount x2_open x2_openCount x2_seen g97 g98, gLd d h3 w79 g58 g59 g60 w80 g62 g63 w81 g65 x3_knownFree w82, gLd d h4 w83 x4_goodsCount x4_workCount x4_years w84 x4_goods x4_works w85 x4_coin g4 w86]) (st' := fun _ => [.int v89]) (st := []) hK dX0_freeWith_89 cv_RX0_55 iv_yX4_freeBy (As := [.ref (h3 0), .int v87]) (kX4_freeBy _ d h1 h2 h3 n x1_left x1_earned x1_turnCost x1_turnWayless x2_edgeA x2_edgeB x2_edgeCost x2_edgeLine x2_change x2_away x2_steps x2_nodes x2_stepCount x2_open x2_openCount x2_seen x2_edgeCount x2_aim w79 g58 g59 g60 w80 g62 g63 w81 g65 x3_knownFree w82 v87 e99) rfl rfl (Nat.le_of_ble_eq_true rfl) (by decide) 1 0 rfl rfl rfl [1, 2, 3] [0, 4] rfl rfl rfl rfl [0, 2, 3, 4, 1] rfl (fun _ => rfl) (fun _ => rfl) rfl rfl rfl (fun _ => rfl) (fun _ => ?_)
        refine J_istore (L' := [(6, .int v89), (0, .ref (h0 0)), (1, .ref (h4 0)), (3, .int (p2 &&& (v1 ^^^ (-1)))), (5, .ref (h3 0))]) hK dX0_freeWith_92 rfl (by decide) rfl ?_
        refine J_aload_n hK dX0_freeWith_94 rfl 2 rfl rfl ?_
        refine J_iload_n hK dX0_freeWith_95 rfl 3 rfl rfl ?_
        refine J_iload hK dX0_freeWith_96 rfl 0 rfl ?_
        obtain ⟨g100, e101, hf⟩ := bs hf
        refine J_callV (m' := 5) (ce' := 0) (sl' := 0) (gr := [gCh d h0 (h1 0) a0_after (h3 0) x0_gained, gTr d h1 (h2 0) x1_left x1_earned x1_turnCost x1_turnWayless, gWy d h2 g91 g92 g93 g94 g95 g96 x2_steps x2_nodes x2_stepCount x2_open x2_openCount x2_seen g97 g98, gLd d h3 w79 g58 g59 g60 w80 g62 g63 w81 g65 x3_knownFree w82]) (gs' := fun _ => [gCh d h0 (h1 0) a0_after (h3 0) x0_gained, gTr d h1 (h2 0) x1_left x1_earned x1_turnCost x1_turnWayless, gWy d h2 g91 g92 g93 g94 g95 g96 x2_steps x2_nodes x2_stepCount x2_open x2_openCount x2_seen g97 g98, gLd d h3 w79 g58 g59 g60 w80 g62 g63 w81 g65 x3_knownFree w82, gLd d h4 w83 x4_goodsCount x4_workCount x4_years w84 x4_goods x4_works w85 x4_coin g100 w86]) (st' := fun _ => []) (st := []) hK dX0_freeWith_98 cv_RX0_59 iv_yX1_keepFree (As := [.int (p2 &&& (v1 ^^^ (-1))), .int v89]) (kX1_keepFree _ d h4 w83 x4_goodsCount x4_workCount x4_years w84 x4_goods x4_works w85 x4_coin g4 w86 (p2 &&& (v1 ^^^ (-1))) v89 e101) rfl rfl (Nat.le_of_ble_eq_true rfl) (by decide) 4 0 rfl rfl rfl [4] [0, 1, 2, 3] rfl rfl rfl rfl [0, 1, 2, 3, 4] rfl (fun _ => rfl) (fun _ => rfl) rfl rfl rfl (fun _ => rfl) (fun _ => ?_)
        refine J_iload hK dX0_freeWith_101 rfl 0 rfl ?_
        obtain rfl := Option.some.inj hf
        exact J_iret hK hR dX0_freeWith_103 () rfl (by decide) (by decide)
      have lo68 : ∀ (k : Nat) (z69 : Int32) (z70 : Int32) (z71 : (Nat → Int32)) (z72 : (Nat → Int32)) (z73 : Int32) (z74 : Int32) (z75 : (Nat → Int32)) (z76 : (Nat → Int32)) (z77 : Int32), lp (u9 (fX0_freeWith_s47b p2 x3_knownFree x4_workCount v1 g58 g59 g60 g62 g63 g65)) k (z69, z70, z71, z72, z73, z74, z75, z76, z77) = some e78 → J d Φ 7 [gCh d h0 (h1 0) a0_after (h3 0) x0_gained, gTr d h1 (h2 0) x1_left x1_earned x1_turnCost x1_turnWayless, gWy d h2 x2_edgeA x2_edgeB x2_edgeCost x2_edgeLine x2_change x2_away x2_steps x2_nodes x2_stepCount x2_open x2_openCount x2_seen x2_edgeCount x2_aim, gLd d h3 z70 g58 g59 g60 z71 g62 g63 z72 g65 x3_knownFree z73, gLd d h4 z74 x4_goodsCount x4_workCount x4_years z75 x4_goods x4_works z76 x4_coin g4 z77] 0 0 47 [(0, .ref (h0 0)), (1, .ref (h4 0)), (3, .int (p2 &&& (v1 ^^^ (-1)))), (5, .ref (h3 0)), (6, .int z69)] [] := by
        intro k
        induction k with
        | zero => intro z69 z70 z71 z72 z73 z74 z75 z76 z77 h; cases h
        | succ k ih68 =>
          intro z69 z70 z71 z72 z73 z74 z75 z76 z77 h
          obtain ⟨k2, rr68, hk2, hs68, hr68⟩ := lp_ok h
          cases hk2
          have hs68 : fX0_freeWith_s47b p2 x3_knownFree x4_workCount v1 g58 g59 g60 g62 g63 g65 z69 z70 z71 z72 z73 z74 z75 z76 z77 = some rr68 := hs68
          unfold fX0_freeWith_s47b at hs68
          refine J_iload hK dX0_freeWith_47 rfl 4 rfl ?_
          refine J_aload_n hK dX0_freeWith_49 rfl 1 rfl rfl ?_
          refine J_get hK fo_RX0_44 dX0_freeWith_50 rfl 4 0 rfl rfl rfl ?_
          refine J_icmp_ge (tg := 78) hK dX0_freeWith_53 rfl rfl (fun hc53 => ?_) (fun hc53 => ?_)
          · have hs68 := ip hc53 hs68
            exact J_loc [0, 1, 2, 3] rfl (hx68_78 z70 z71 z72 z73 z74 z75 z76 z77 (lpx hs68 hr68))
          · have hs68 := iq hc53 hs68
            refine J_iload_n hK dX0_freeWith_56 rfl 2 rfl rfl ?_
            refine J_iload hK dX0_freeWith_57 rfl 4 rfl ?_
            refine J_ishr hK dX0_freeWith_59 rfl ?_
            refine J_iconst (v := 1) hK dX0_freeWith_60 rfl (by decide) ?_
            refine J_iand hK dX0_freeWith_61 rfl ?_
            refine J_if_eq (tg := 72) hK dX0_freeWith_62 rfl rfl (fun hc62 => ?_) (fun hc62 => ?_)
            · have hs68 := ip hc62 hs68
              refine J_iinc (L' := [(6, .int (z69 + 1)), (0, .ref (h0 0)), (1, .ref (h4 0)), (3, .int (p2 &&& (v1 ^^^ (-1)))), (5, .ref (h3 0))]) (v := (z69 + 1)) hK dX0_freeWith_72 rfl 4 rfl rfl (by decide) rfl ?_
              refine J_goto hK dX0_freeWith_75 (n := 47) rfl ?_
              exact J_loc [1, 2, 3, 4, 0] rfl (ih68 (z69 + 1) z70 z71 z72 z73 z74 z75 z76 z77 (lpc hs68 hr68))
            · have hs68 := iq hc62 hs68
              refine J_aload hK dX0_freeWith_65 rfl 3 rfl ?_
              refine J_iload hK dX0_freeWith_67 rfl 4 rfl ?_
              obtain ⟨⟨g102, g103, g104, g105⟩, e106, hs68⟩ := bs hs68
              have hs68 := un4 hs68
              refine J_callV (m' := 5) (ce' := 0) (sl' := 0) (gr := [gCh d h0 (h1 0) a0_after (h3 0) x0_gained, gTr d h1 (h2 0) x1_left x1_earned x1_turnCost x1_turnWayless, gWy d h2 x2_edgeA x2_edgeB x2_edgeCost x2_edgeLine x2_change x2_away x2_steps x2_nodes x2_stepCount x2_open x2_openCount x2_seen x2_edgeCount x2_aim, gLd d h4 z74 x4_goodsCount x4_workCount x4_years z75 x4_goods x4_works z76 x4_coin g4 z77]) (gs' := fun _ => [gCh d h0 (h1 0) a0_after (h3 0) x0_gained, gTr d h1 (h2 0) x1_left x1_earned x1_turnCost x1_turnWayless, gWy d h2 x2_edgeA x2_edgeB x2_edgeCost x2_edgeLine x2_change x2_away x2_steps x2_nodes x2_stepCount x2_open x2_openCount x2_seen x2_edgeCount x2_aim, gLd d h3 g102 g58 g59 g60 g103 g62 g63 g104 g65 x3_knownFree g105, gLd d h4 z74 x4_goodsCount x4_workCount x4_years z75 x4_goods x4_works z76 x4_coin g4 z77]) (st' := fun _ => []) (st := []) hK dX0_freeWith_69 cv_RX0_48 iv_yX1_perform (As := [.int z69]) (kX1_perform _ d h3 z70 g58 g59 g60 z71 g62 g63 z72 g65 x3_knownFree z73 z69 e106) rfl rfl (Nat.le_of_ble_eq_true rfl) (by decide) 3 0 rfl rfl rfl [3] [0, 1, 2, 4] rfl rfl rfl rfl [0, 1, 2, 4, 3] rfl (fun _ => rfl) (fun _ => rfl) rfl rfl rfl (fun _ => rfl) (fun _ => ?_)
              refine J_iinc (L' := [(6, .int (z69 + 1)), (0, .ref (h0 0)), (1, .ref (h4 0)), (3, .int (p2 &&& (v1 ^^^ (-1)))), (5, .ref (h3 0))]) (v := (z69 + 1)) hK dX0_freeWith_72 rfl 4 rfl rfl (by decide) rfl ?_
              refine J_goto hK dX0_freeWith_75 (n := 47) rfl ?_
              exact J_loc [1, 2, 3, 4, 0] rfl (ih68 (z69 + 1) g102 g103 g104 g105 z74 z75 z76 z77 (lpc hs68 hr68))
      exact J_loc [4, 5, 3, 1, 0] rfl (lo68 n (0) g57 g61 g64 g66 x4_lineCount x4_lines x4_change g5 hl68)
  · have hf := iq hc19 hf
    refine J_iload hK dX0_freeWith_22 rfl 0 rfl ?_
    obtain rfl := Option.some.inj hf
    exact J_iret hK hR dX0_freeWith_24 () rfl (by decide) (by decide)

def fX0_totalOf_s15 (p2 : Int32) (x4_goodsCount : Int32) (x4_workCount : Int32) (x4_years : Int32) (x4_goods : (Nat → Int32)) (x4_works : (Nat → Int32)) (x4_coin : (Nat → Int32)) (g23 : Int32) (g24 : (Nat → Int32)) (g25 : (Nat → Int32)) (g26 : (Nat → Int32)) (g27 : Int32) (z30 : Int32) (z31 : Int32) : Option ((Int32 × Int32) ⊕ (Int32)) :=
  if x4_workCount ≤ z31 then (some (.inr z30)) else (if ((p2 >>> (z31 &&& 31)) &&& 1) = 0 then (some (.inl (z30, (z31 + 1)))) else ((fX1_isDone (g23, x4_goodsCount, x4_workCount, x4_years, g24, x4_goods, x4_works, g25, x4_coin, g26, g27) z31).bind (fun v34 => if v34 = 0 then ((fX1_ofWork (g23, x4_goodsCount, x4_workCount, x4_years, g24, x4_goods, x4_works, g25, x4_coin, g26, g27) z31 (3)).bind (fun v36 => some (.inl ((z30 + v36), (z31 + 1))))) else (some (.inl (z30, (z31 + 1)))))))
def fX0_totalOf (n : Nat) (X0 : ChT) (X1 : TrT) (X2 : WyT) (X3 : LdT) (X4 : LdT) (p2 : Int32) : Option (Int32 × ((Nat → Int32) × (Nat → Int32) × (Nat → Int32) × (Nat → Int32) × (Nat → Int32) × (Nat → Int32) × Int32 × Int32) × (Int32 × Int32 × Int32 × Int32 × (Nat → Int32) × (Nat → Int32) × (Nat → Int32) × (Nat → Int32) × (Nat → Int32) × Int32) × (Int32 × (Nat → Int32) × (Nat → Int32) × (Nat → Int32) × Int32)) :=
  (fun (x0_gained : (Nat → Int32)) => u4 (fun (x1_left : (Nat → Int32)) (x1_earned : (Nat → Int32)) (x1_turnCost : Int32) (x1_turnWayless : Int32) => u14 (fun (x2_edgeA : (Nat → Int32)) (x2_edgeB : (Nat → Int32)) (x2_edgeCost : (Nat → Int32)) (x2_edgeLine : (Nat → Int32)) (x2_change : (Nat → Int32)) (x2_away : (Nat → Int32)) (x2_steps : (Nat → Int32)) (x2_nodes : (Nat → Int32)) (x2_stepCount : Int32) (x2_open : (Nat → Int32)) (x2_openCount : Int32) (x2_seen : Int64) (x2_edgeCount : Int32) (x2_aim : Int32) => u11 (fun (x3_lineCount : Int32) (x3_goodsCount : Int32) (x3_workCount : Int32) (x3_years : Int32) (x3_lines : (Nat → Int32)) (x3_goods : (Nat → Int32)) (x3_works : (Nat → Int32)) (x3_change : (Nat → Int32)) (x3_coin : (Nat → Int32)) (x3_knownFree : (Nat → Int32)) (x3_isKnown : Int32) => u11 (fun (x4_lineCount : Int32) (x4_goodsCount : Int32) (x4_workCount : Int32) (x4_years : Int32) (x4_lines : (Nat → Int32)) (x4_goods : (Nat → Int32)) (x4_works : (Nat → Int32)) (x4_change : (Nat → Int32)) (x4_coin : (Nat → Int32)) (x4_knownFree : (Nat → Int32)) (x4_isKnown : Int32) => (fX0_freeWith n x0_gained (x1_left, x1_earned, x1_turnCost, x1_turnWayless) (x2_edgeA, x2_edgeB, x2_edgeCost, x2_edgeLine, x2_change, x2_away, x2_steps, x2_nodes, x2_stepCount, x2_open, x2_openCount, x2_seen, x2_edgeCount, x2_aim) (x3_lineCount, x3_goodsCount, x3_workCount, x3_years, x3_lines, x3_goods, x3_works, x3_change, x3_coin, x3_knownFree, x3_isKnown) (x4_lineCount, x4_goodsCount, x4_workCount, x4_years, x4_lines, x4_goods, x4_works, x4_change, x4_coin, x4_knownFree, x4_isKnown) p2).bind (u4 fun v1 G2 G11 G22 => u8 (fun g3 g4 g5 g6 g7 g8 g9 g10 => u10 (fun g12 g13 g14 g15 g16 g17 g18 g19 g20 g21 => u5 (fun g23 g24 g25 g26 g27 => (lp (u2 (fX0_totalOf_s15 p2 x4_goodsCount x4_workCount x4_years x4_goods x4_works x4_coin g23 g24 g25 g26 g27)) n ((x4_years * v1), 0)).bind (fun w33 => some (w33, (g3, g4, g5, g6, g7, g8, g9, g10), (g12, g13, g14, g15, g16, g17, g18, g19, g20, g21), (g23, g24, g25, g26, g27)))) G22) G11) G2)) X4) X3) X2) X1) X0
set_option maxHeartbeats 4000000 in
set_option maxRecDepth 100000 in
theorem kX0_totalOf (l : Launch) (d : DT) (h0 : Nat → Nat) (a0_after : Nat) (h1 : Nat → Nat) (h2 : Nat → Nat) (h3 : Nat → Nat) (h4 : Nat → Nat) (n : Nat) (x0_gained : (Nat → Int32)) (x1_left : (Nat → Int32)) (x1_earned : (Nat → Int32)) (x1_turnCost : Int32) (x1_turnWayless : Int32) (x2_edgeA : (Nat → Int32)) (x2_edgeB : (Nat → Int32)) (x2_edgeCost : (Nat → Int32)) (x2_edgeLine : (Nat → Int32)) (x2_change : (Nat → Int32)) (x2_away : (Nat → Int32)) (x2_steps : (Nat → Int32)) (x2_nodes : (Nat → Int32)) (x2_stepCount : Int32) (x2_open : (Nat → Int32)) (x2_openCount : Int32) (x2_seen : Int64) (x2_edgeCount : Int32) (x2_aim : Int32) (x3_lineCount : Int32) (x3_goodsCount : Int32) (x3_workCount : Int32) (x3_years : Int32) (x3_lines : (Nat → Int32)) (x3_goods : (Nat → Int32)) (x3_works : (Nat → Int32)) (x3_change : (Nat → Int32)) (x3_coin : (Nat → Int32)) (x3_knownFree : (Nat → Int32)) (x3_isKnown : Int32) (x4_lineCount : Int32) (x4_goodsCount : Int32) (x4_workCount : Int32) (x4_years : Int32) (x4_lines : (Nat → Int32)) (x4_goods : (Nat → Int32)) (x4_works : (Nat → Int32)) (x4_change : (Nat → Int32)) (x4_coin : (Nat → Int32)) (x4_knownFree : (Nat → Int32)) (x4_isKnown : Int32) (p2 : Int32)  {out : Int32 × ((Nat → Int32) × (Nat → Int32) × (Nat → Int32) × (Nat → Int32) × (Nat → Int32) × (Nat → Int32) × Int32 × Int32) × (Int32 × Int32 × Int32 × Int32 × (Nat → Int32) × (Nat → Int32) × (Nat → Int32) × (Nat → Int32) × (Nat → Int32) × Int32) × (Int32 × (Nat → Int32) × (Nat → Int32) × (Nat → Int32) × Int32)} (hf : fX0_totalOf n x0_gained (x1_left, x1_earned, x1_turnCost, x1_turnWayless) (x2_edgeA, x2_edgeB, x2_edgeCost, x2_edgeLine, x2_change, x2_away, x2_steps, x2_nodes, x2_stepCount, x2_open, x2_openCount, x2_seen, x2_edgeCount, x2_aim) (x3_lineCount, x3_goodsCount, x3_workCount, x3_years, x3_lines, x3_goods, x3_works, x3_change, x3_coin, x3_knownFree, x3_isKnown) (x4_lineCount, x4_goodsCount, x4_workCount, x4_years, x4_lines, x4_goods, x4_works, x4_change, x4_coin, x4_knownFree, x4_isKnown) p2 = some out) : Ct l d yX0_totalOf cX0_totalOf 5 (some .int) { frames := 4, cells := 0, slots := 0, locals := 103 } [.ref (h0 0), .ref (h4 0), .int p2] [gCh d h0 (h1 0) a0_after (h3 0) x0_gained, gTr d h1 (h2 0) x1_left x1_earned x1_turnCost x1_turnWayless, gWy d h2 x2_edgeA x2_edgeB x2_edgeCost x2_edgeLine x2_change x2_away x2_steps x2_nodes x2_stepCount x2_open x2_openCount x2_seen x2_edgeCount x2_aim, gLd d h3 x3_lineCount x3_goodsCount x3_workCount x3_years x3_lines x3_goods x3_works x3_change x3_coin x3_knownFree x3_isKnown, gLd d h4 x4_lineCount x4_goodsCount x4_workCount x4_years x4_lines x4_goods x4_works x4_change x4_coin x4_knownFree x4_isKnown] (fun _ : Unit => (some (.int out.1), [gCh d h0 (h1 0) a0_after (h3 0) x0_gained, gTr d h1 (h2 0) x1_left x1_earned x1_turnCost x1_turnWayless, gWy d h2 (out.2.1.1) (out.2.1.2.1) (out.2.1.2.2.1) (out.2.1.2.2.2.1) (out.2.1.2.2.2.2.1) (out.2.1.2.2.2.2.2.1) x2_steps x2_nodes x2_stepCount x2_open x2_openCount x2_seen (out.2.1.2.2.2.2.2.2.1) (out.2.1.2.2.2.2.2.2.2), gLd d h3 (out.2.2.1.1) (out.2.2.1.2.1) (out.2.2.1.2.2.1) (out.2.2.1.2.2.2.1) (out.2.2.1.2.2.2.2.1) (out.2.2.1.2.2.2.2.2.1) (out.2.2.1.2.2.2.2.2.2.1) (out.2.2.1.2.2.2.2.2.2.2.1) (out.2.2.1.2.2.2.2.2.2.2.2.1) x3_knownFree (out.2.2.1.2.2.2.2.2.2.2.2.2), gLd d h4 (out.2.2.2.1) x4_goodsCount x4_workCount x4_years (out.2.2.2.2.1) x4_goods x4_works (out.2.2.2.2.2.1) x4_coin (out.2.2.2.2.2.2.1) (out.2.2.2.2.2.2.2)])) := by
  refine Ct.of (by decide) (Nat.le_of_ble_eq_true rfl) ?_
  intro Φ hl hK hR
  subst hl
  have hK : Ok d Φ RX0 "totalOf" cX0_totalOf 5 (some .int) { frames := 4, cells := 0, slots := 0, locals := 103 } := hK
  unfold fX0_totalOf at hf
  have hf := un4 hf
  have hf := un14 hf
  have hf := un11 hf
  have hf := un11 hf
  show J d Φ 5 [gCh d h0 (h1 0) a0_after (h3 0) x0_gained, gTr d h1 (h2 0) x1_left x1_earned x1_turnCost x1_turnWayless, gWy d h2 x2_edgeA x2_edgeB x2_edgeCost x2_edgeLine x2_change x2_away x2_steps x2_nodes x2_stepCount x2_open x2_openCount x2_seen x2_edgeCount x2_aim, gLd d h3 x3_lineCount x3_goodsCount x3_workCount x3_years x3_lines x3_goods x3_works x3_change x3_coin x3_knownFree x3_isKnown, gLd d h4 x4_lineCount x4_goodsCount x4_workCount x4_years x4_lines x4_goods x4_works x4_change x4_coin x4_knownFree x4_isKnown] 0 0 0 [(0, .ref (h0 0)), (1, .ref (h4 0)), (2, .int p2)] []
  refine J_aload_n hK dX0_totalOf_0 rfl 1 rfl rfl ?_
  refine J_get hK fo_RX0_63 dX0_totalOf_1 rfl 4 0 rfl rfl rfl ?_
  refine J_aload_n hK dX0_totalOf_4 rfl 0 rfl rfl ?_
  refine J_aload_n hK dX0_totalOf_5 rfl 1 rfl rfl ?_
  refine J_iload_n hK dX0_totalOf_6 rfl 2 rfl rfl ?_
  obtain ⟨⟨v1, ⟨g3, g4, g5, g6, g7, g8, g9, g10⟩, ⟨g12, g13, g14, g15, g16, g17, g18, g19, g20, g21⟩, ⟨g23, g24, g25, g26, g27⟩⟩, e28, hf⟩ := bs hf
  have hf := un4 hf
  have hf := un8 hf
  have hf := un10 hf
  have hf := un5 hf
  refine J_callV (m' := 5) (ce' := 0) (sl' := 0) (gr := []) (gs' := fun _ => [gCh d h0 (h1 0) a0_after (h3 0) x0_gained, gTr d h1 (h2 0) x1_left x1_earned x1_turnCost x1_turnWayless, gWy d h2 g3 g4 g5 g6 g7 g8 x2_steps x2_nodes x2_stepCount x2_open x2_openCount x2_seen g9 g10, gLd d h3 g12 g13 g14 g15 g16 g17 g18 g19 g20 x3_knownFree g21, gLd d h4 g23 x4_goodsCount x4_workCount x4_years g24 x4_goods x4_works g25 x4_coin g26 g27]) (st' := fun _ => [.int v1, .int x4_years]) (st := [.int x4_years]) hK dX0_totalOf_7 cv_RX0_66 iv_yX0_freeWith (As := [.ref (h4 0), .int p2]) (kX0_freeWith _ d h0 a0_after h1 h2 h3 h4 n x0_gained x1_left x1_earned x1_turnCost x1_turnWayless x2_edgeA x2_edgeB x2_edgeCost x2_edgeLine x2_change x2_away x2_steps x2_nodes x2_stepCount x2_open x2_openCount x2_seen x2_edgeCount x2_aim x3_lineCount x3_goodsCount x3_workCount x3_years x3_lines x3_goods x3_works x3_change x3_coin x3_knownFree x3_isKnown x4_lineCount x4_goodsCount x4_workCount x4_years x4_lines x4_goods x4_works x4_change x4_coin x4_knownFree x4_isKnown p2 e28) rfl rfl (Nat.le_of_ble_eq_true rfl) (by decide) 0 0 rfl rfl rfl [0, 1, 2, 3, 4] [] rfl rfl rfl rfl [0, 1, 2, 3, 4] rfl (fun _ => rfl) (fun _ => rfl) rfl rfl rfl (fun _ => rfl) (fun _ => ?_)
  refine J_imul hK dX0_totalOf_10 rfl ?_
  refine J_istore_n (L' := [(3, .int (x4_years * v1)), (0, .ref (h0 0)), (1, .ref (h4 0)), (2, .int p2)]) hK dX0_totalOf_11 rfl rfl (by decide) rfl ?_
  refine J_iconst (v := 0) hK dX0_totalOf_12 rfl (by decide) ?_
  refine J_istore (L' := [(4, .int (0)), (3, .int (x4_years * v1)), (0, .ref (h0 0)), (1, .ref (h4 0)), (2, .int p2)]) hK dX0_totalOf_13 rfl (by decide) rfl ?_
  obtain ⟨e32, hl29, hf⟩ := bs hf
  have hx29_58 : ∀ (w33 : Int32), w33 = e32 → J d Φ 5 [gCh d h0 (h1 0) a0_after (h3 0) x0_gained, gTr d h1 (h2 0) x1_left x1_earned x1_turnCost x1_turnWayless, gWy d h2 g3 g4 g5 g6 g7 g8 x2_steps x2_nodes x2_stepCount x2_open x2_openCount x2_seen g9 g10, gLd d h3 g12 g13 g14 g15 g16 g17 g18 g19 g20 x3_knownFree g21, gLd d h4 g23 x4_goodsCount x4_workCount x4_years g24 x4_goods x4_works g25 x4_coin g26 g27] 0 0 58 [(3, .int w33)] [] := by
    intro w33 he
    rw [← he] at hf
    refine J_iload_n hK dX0_totalOf_58 rfl 0 rfl rfl ?_
    obtain rfl := Option.some.inj hf
    exact J_iret hK hR dX0_totalOf_59 () rfl (by decide) (by decide)
  have lo29 : ∀ (k : Nat) (z30 : Int32) (z31 : Int32), lp (u2 (fX0_totalOf_s15 p2 x4_goodsCount x4_workCount x4_years x4_goods x4_works x4_coin g23 g24 g25 g26 g27)) k (z30, z31) = some e32 → J d Φ 5 [gCh d h0 (h1 0) a0_after (h3 0) x0_gained, gTr d h1 (h2 0) x1_left x1_earned x1_turnCost x1_turnWayless, gWy d h2 g3 g4 g5 g6 g7 g8 x2_steps x2_nodes x2_stepCount x2_open x2_openCount x2_seen g9 g10, gLd d h3 g12 g13 g14 g15 g16 g17 g18 g19 g20 x3_knownFree g21, gLd d h4 g23 x4_goodsCount x4_workCount x4_years g24 x4_goods x4_works g25 x4_coin g26 g27] 0 0 15 [(1, .ref (h4 0)), (2, .int p2), (3, .int z30), (4, .int z31)] [] := by
    intro k
    induction k with
    | zero => intro z30 z31 h; cases h
    | succ k ih29 =>
      intro z30 z31 h
      obtain ⟨k2, rr29, hk2, hs29, hr29⟩ := lp_ok h
      cases hk2
      have hs29 : fX0_totalOf_s15 p2 x4_goodsCount x4_workCount x4_years x4_goods x4_works x4_coin g23 g24 g25 g26 g27 z30 z31 = some rr29 := hs29
      unfold fX0_totalOf_s15 at hs29
      refine J_iload hK dX0_totalOf_15 rfl 3 rfl ?_
      refine J_aload_n hK dX0_totalOf_17 rfl 0 rfl rfl ?_
      refine J_get hK fo_RX0_44 dX0_totalOf_18 rfl 4 0 rfl rfl rfl ?_
      refine J_icmp_ge (tg := 58) hK dX0_totalOf_21 rfl rfl (fun hc21 => ?_) (fun hc21 => ?_)
      · have hs29 := ip hc21 hs29
        exact J_loc [2] rfl (hx29_58 z30 (lpx hs29 hr29))
      · have hs29 := iq hc21 hs29
        refine J_iload_n hK dX0_totalOf_24 rfl 1 rfl rfl ?_
        refine J_iload hK dX0_totalOf_25 rfl 3 rfl ?_
        refine J_ishr hK dX0_totalOf_27 rfl ?_
        refine J_iconst (v := 1) hK dX0_totalOf_28 rfl (by decide) ?_
        refine J_iand hK dX0_totalOf_29 rfl ?_
        refine J_if_eq (tg := 52) hK dX0_totalOf_30 rfl rfl (fun hc30 => ?_) (fun hc30 => ?_)
        · have hs29 := ip hc30 hs29
          refine J_iinc (L' := [(4, .int (z31 + 1)), (1, .ref (h4 0)), (2, .int p2), (3, .int z30)]) (v := (z31 + 1)) hK dX0_totalOf_52 rfl 3 rfl rfl (by decide) rfl ?_
          refine J_goto hK dX0_totalOf_55 (n := 15) rfl ?_
          exact J_loc [1, 2, 3, 0] rfl (ih29 z30 (z31 + 1) (lpc hs29 hr29))
        · have hs29 := iq hc30 hs29
          refine J_aload_n hK dX0_totalOf_33 rfl 0 rfl rfl ?_
          refine J_iload hK dX0_totalOf_34 rfl 3 rfl ?_
          obtain ⟨v34, e35, hs29⟩ := bs hs29
          refine J_callV (m' := 5) (ce' := 0) (sl' := 0) (gr := [gCh d h0 (h1 0) a0_after (h3 0) x0_gained, gTr d h1 (h2 0) x1_left x1_earned x1_turnCost x1_turnWayless, gWy d h2 g3 g4 g5 g6 g7 g8 x2_steps x2_nodes x2_stepCount x2_open x2_openCount x2_seen g9 g10, gLd d h3 g12 g13 g14 g15 g16 g17 g18 g19 g20 x3_knownFree g21]) (gs' := fun _ => [gCh d h0 (h1 0) a0_after (h3 0) x0_gained, gTr d h1 (h2 0) x1_left x1_earned x1_turnCost x1_turnWayless, gWy d h2 g3 g4 g5 g6 g7 g8 x2_steps x2_nodes x2_stepCount x2_open x2_openCount x2_seen g9 g10, gLd d h3 g12 g13 g14 g15 g16 g17 g18 g19 g20 x3_knownFree g21, gLd d h4 g23 x4_goodsCount x4_workCount x4_years g24 x4_goods x4_works g25 x4_coin g26 g27]) (st' := fun _ => [.int v34]) (st := []) hK dX0_totalOf_36 cv_RX0_69 iv_yX1_isDone (As := [.int z31]) (kX1_isDone _ d h4 g23 x4_goodsCount x4_workCount x4_years g24 x4_goods x4_works g25 x4_coin g26 g27 z31 e35) rfl rfl (Nat.le_of_ble_eq_true rfl) (by decide) 4 0 rfl rfl rfl [4] [0, 1, 2, 3] rfl rfl rfl rfl [0, 1, 2, 3, 4] rfl (fun _ => rfl) (fun _ => rfl) rfl rfl rfl (fun _ => rfl) (fun _ => ?_)
          refine J_if_ne (tg := 52) hK dX0_totalOf_39 rfl rfl (fun hc39 => ?_) (fun hc39 => ?_)
          · have hs29 := iq hc39 hs29
            refine J_iinc (L' := [(4, .int (z31 + 1)), (1, .ref (h4 0)), (2, .int p2), (3, .int z30)]) (v := (z31 + 1)) hK dX0_totalOf_52 rfl 3 rfl rfl (by decide) rfl ?_
            refine J_goto hK dX0_totalOf_55 (n := 15) rfl ?_
            exact J_loc [1, 2, 3, 0] rfl (ih29 z30 (z31 + 1) (lpc hs29 hr29))
          · have hs29 := ip hc39 hs29
            refine J_iload_n hK dX0_totalOf_42 rfl 2 rfl rfl ?_
            refine J_aload_n hK dX0_totalOf_43 rfl 0 rfl rfl ?_
            refine J_iload hK dX0_totalOf_44 rfl 3 rfl ?_
            refine J_iconst (v := 3) hK dX0_totalOf_46 rfl (by decide) ?_
            obtain ⟨v36, e37, hs29⟩ := bs hs29
            refine J_callV (m' := 5) (ce' := 0) (sl' := 0) (gr := [gCh d h0 (h1 0) a0_after (h3 0) x0_gained, gTr d h1 (h2 0) x1_left x1_earned x1_turnCost x1_turnWayless, gWy d h2 g3 g4 g5 g6 g7 g8 x2_steps x2_nodes x2_stepCount x2_open x2_openCount x2_seen g9 g10, gLd d h3 g12 g13 g14 g15 g16 g17 g18 g19 g20 x3_knownFree g21]) (gs' := fun _ => [gCh d h0 (h1 0) a0_after (h3 0) x0_gained, gTr d h1 (h2 0) x1_left x1_earned x1_turnCost x1_turnWayless, gWy d h2 g3 g4 g5 g6 g7 g8 x2_steps x2_nodes x2_stepCount x2_open x2_openCount x2_seen g9 g10, gLd d h3 g12 g13 g14 g15 g16 g17 g18 g19 g20 x3_knownFree g21, gLd d h4 g23 x4_goodsCount x4_workCount x4_years g24 x4_goods x4_works g25 x4_coin g26 g27]) (st' := fun _ => [.int v36, .int z30]) (st := [.int z30]) hK dX0_totalOf_47 cv_RX0_73 iv_yX1_ofWork (As := [.int z31, .int (3)]) (kX1_ofWork _ d h4 g23 x4_goodsCount x4_workCount x4_years g24 x4_goods x4_works g25 x4_coin g26 g27 z31 (3) e37) rfl rfl (Nat.le_of_ble_eq_true rfl) (by decide) 4 0 rfl rfl rfl [4] [0, 1, 2, 3] rfl rfl rfl rfl [0, 1, 2, 3, 4] rfl (fun _ => rfl) (fun _ => rfl) rfl rfl rfl (fun _ => rfl) (fun _ => ?_)
            refine J_iadd hK dX0_totalOf_50 rfl ?_
            refine J_istore_n (L' := [(3, .int (z30 + v36)), (1, .ref (h4 0)), (2, .int p2), (4, .int z31)]) hK dX0_totalOf_51 rfl rfl (by decide) rfl ?_
            refine J_iinc (L' := [(4, .int (z31 + 1)), (3, .int (z30 + v36)), (1, .ref (h4 0)), (2, .int p2)]) (v := (z31 + 1)) hK dX0_totalOf_52 rfl 3 rfl rfl (by decide) rfl ?_
            refine J_goto hK dX0_totalOf_55 (n := 15) rfl ?_
            exact J_loc [2, 3, 1, 0] rfl (ih29 (z30 + v36) (z31 + 1) (lpc hs29 hr29))
  exact J_loc [3, 4, 1, 0] rfl (lo29 n (x4_years * v1) (0) hl29)

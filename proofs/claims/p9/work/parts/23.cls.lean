def fX5_leads (n : Nat) (X0 : WyT) (p1 : Int32) (p2 : Int32) (p3 : Int32) (p4 : Int64) : Option (Int32 × (Nat → Int32) × Int32 × Int64) :=
  u14 (fun (x0_edgeA : (Nat → Int32)) (x0_edgeB : (Nat → Int32)) (x0_edgeCost : (Nat → Int32)) (x0_edgeLine : (Nat → Int32)) (x0_change : (Nat → Int32)) (x0_away : (Nat → Int32)) (x0_steps : (Nat → Int32)) (x0_nodes : (Nat → Int32)) (x0_stepCount : Int32) (x0_open : (Nat → Int32)) (x0_openCount : Int32) (x0_seen : Int64) (x0_edgeCount : Int32) (x0_aim : Int32) => if (lg_cmp ((p4 >>> ((p2).toInt64 &&& 63)) &&& (1 : Int64)) (0 : Int64)) = 0 then ((rd 36 x0_away p1).bind fun v1 => (rd 36 x0_away p2).bind fun v2 => if v1 = (p3 + v2) then (if 0 < p3 then (some (1, x0_open, x0_openCount, x0_seen)) else ((fX5_arrives n (x0_edgeA, x0_edgeB, x0_edgeCost, x0_edgeLine, x0_change, x0_away, x0_steps, x0_nodes, x0_stepCount, x0_open, x0_openCount, x0_seen, x0_edgeCount, x0_aim) p2 p4).bind (u4 fun v3 g4 g5 g6 => if v3 = 0 then (some (0, g4, g5, g6)) else (some (1, g4, g5, g6))))) else (some (0, x0_open, x0_openCount, x0_seen))) else (some (0, x0_open, x0_openCount, x0_seen))) X0
set_option maxHeartbeats 4000000 in
set_option maxRecDepth 100000 in
theorem kX5_leads (l : Launch) (d : DT) (h0 : Nat → Nat) (n : Nat) (x0_edgeA : (Nat → Int32)) (x0_edgeB : (Nat → Int32)) (x0_edgeCost : (Nat → Int32)) (x0_edgeLine : (Nat → Int32)) (x0_change : (Nat → Int32)) (x0_away : (Nat → Int32)) (x0_steps : (Nat → Int32)) (x0_nodes : (Nat → Int32)) (x0_stepCount : Int32) (x0_open : (Nat → Int32)) (x0_openCount : Int32) (x0_seen : Int64) (x0_edgeCount : Int32) (x0_aim : Int32) (p1 : Int32) (p2 : Int32) (p3 : Int32) (p4 : Int64)  {out : Int32 × (Nat → Int32) × Int32 × Int64} (hf : fX5_leads n (x0_edgeA, x0_edgeB, x0_edgeCost, x0_edgeLine, x0_change, x0_away, x0_steps, x0_nodes, x0_stepCount, x0_open, x0_openCount, x0_seen, x0_edgeCount, x0_aim) p1 p2 p3 p4 = some out) : Ct l d yX5_leads cX5_leads 6 (some .boolean) { frames := 2, cells := 0, slots := 0, locals := 52 } [.ref (h0 0), .int p1, .int p2, .int p3, .long p4] [gWy d h0 x0_edgeA x0_edgeB x0_edgeCost x0_edgeLine x0_change x0_away x0_steps x0_nodes x0_stepCount x0_open x0_openCount x0_seen x0_edgeCount x0_aim] (fun _ : Unit => (some (.int out.1), [gWy d h0 x0_edgeA x0_edgeB x0_edgeCost x0_edgeLine x0_change x0_away x0_steps x0_nodes x0_stepCount (out.2.1) (out.2.2.1) (out.2.2.2) x0_edgeCount x0_aim])) := by
  refine Ct.of (by decide) (Nat.le_of_ble_eq_true rfl) ?_
  intro Φ hl hK hR
  subst hl
  have hK : Ok d Φ RX5 "leads" cX5_leads 6 (some .boolean) { frames := 2, cells := 0, slots := 0, locals := 52 } := hK
  unfold fX5_leads at hf
  have hf := un14 hf
  show J d Φ 6 [gWy d h0 x0_edgeA x0_edgeB x0_edgeCost x0_edgeLine x0_change x0_away x0_steps x0_nodes x0_stepCount x0_open x0_openCount x0_seen x0_edgeCount x0_aim] 0 0 0 [(0, .ref (h0 0)), (1, .int p1), (2, .int p2), (3, .int p3), (4, .long p4)] []
  refine J_lload hK dX5_leads_0 rfl 4 rfl ?_
  refine J_iload_n hK dX5_leads_2 rfl 2 rfl rfl ?_
  refine J_lshr hK dX5_leads_3 rfl ?_
  refine J_lconst (v := 1) hK dX5_leads_4 rfl (by decide) ?_
  refine J_land hK dX5_leads_5 rfl ?_
  refine J_lconst (v := 0) hK dX5_leads_6 rfl (by decide) ?_
  refine J_lcmp hK dX5_leads_7 rfl ?_
  refine J_if_ne (tg := 28) hK dX5_leads_8 rfl rfl (fun hc8 => ?_) (fun hc8 => ?_)
  · have hf := iq hc8 hf
    refine J_iconst (v := 0) hK dX5_leads_28 rfl (by decide) ?_
    obtain rfl := Option.some.inj hf
    exact J_zret hK hR dX5_leads_29 () rfl rfl (by decide) (by decide)
  · have hf := ip hc8 hf
    refine J_aload_n hK dX5_leads_11 rfl 0 rfl rfl ?_
    refine J_get hK fo_RX5_27 dX5_leads_12 rfl 0 0 rfl rfl rfl ?_
    refine J_iload_n hK dX5_leads_15 rfl 1 rfl rfl ?_
    obtain ⟨v1, ev1, hf⟩ := bs hf
    refine J_iald hK dX5_leads_16 rfl 0 6 rfl rfl ev1 ?_
    refine J_iload_n hK dX5_leads_17 rfl 3 rfl rfl ?_
    refine J_aload_n hK dX5_leads_18 rfl 0 rfl rfl ?_
    refine J_get hK fo_RX5_27 dX5_leads_19 rfl 0 0 rfl rfl rfl ?_
    refine J_iload_n hK dX5_leads_22 rfl 2 rfl rfl ?_
    obtain ⟨v2, ev2, hf⟩ := bs hf
    refine J_iald hK dX5_leads_23 rfl 0 6 rfl rfl ev2 ?_
    refine J_iadd hK dX5_leads_24 rfl ?_
    refine J_icmp_eq (tg := 30) hK dX5_leads_25 rfl rfl (fun hc25 => ?_) (fun hc25 => ?_)
    · have hf := ip hc25 hf
      refine J_iload_n hK dX5_leads_30 rfl 3 rfl rfl ?_
      refine J_if_gt (tg := 44) hK dX5_leads_31 rfl rfl (fun hc31 => ?_) (fun hc31 => ?_)
      · have hf := ip hc31 hf
        refine J_iconst (v := 1) hK dX5_leads_44 rfl (by decide) ?_
        refine J_goto hK dX5_leads_45 (n := 49) rfl ?_
        obtain rfl := Option.some.inj hf
        exact J_zret hK hR dX5_leads_49 () rfl rfl (by decide) (by decide)
      · have hf := iq hc31 hf
        refine J_aload_n hK dX5_leads_34 rfl 0 rfl rfl ?_
        refine J_iload_n hK dX5_leads_35 rfl 2 rfl rfl ?_
        refine J_lload hK dX5_leads_36 rfl 4 rfl ?_
        obtain ⟨⟨v3, g4, g5, g6⟩, e7, hf⟩ := bs hf
        have hf := un4 hf
        refine J_callV (m' := 1) (ce' := 0) (sl' := 0) (gr := []) (gs' := fun _ => [gWy d h0 x0_edgeA x0_edgeB x0_edgeCost x0_edgeLine x0_change x0_away x0_steps x0_nodes x0_stepCount g4 g5 g6 x0_edgeCount x0_aim]) (st' := fun _ => [.int v3]) (st := []) hK dX5_leads_38 cv_RX5_105 iv_yX5_arrives (As := [.int p2, .long p4]) (kX5_arrives _ d h0 n x0_edgeA x0_edgeB x0_edgeCost x0_edgeLine x0_change x0_away x0_steps x0_nodes x0_stepCount x0_open x0_openCount x0_seen x0_edgeCount x0_aim p2 p4 e7) rfl rfl (Nat.le_of_ble_eq_true rfl) (by decide) 0 0 rfl rfl rfl [0] [] rfl rfl rfl rfl [0] rfl (fun _ => rfl) (fun _ => rfl) rfl rfl rfl (fun _ => rfl) (fun _ => ?_)
        refine J_if_eq (tg := 48) hK dX5_leads_41 rfl rfl (fun hc41 => ?_) (fun hc41 => ?_)
        · have hf := ip hc41 hf
          refine J_iconst (v := 0) hK dX5_leads_48 rfl (by decide) ?_
          obtain rfl := Option.some.inj hf
          exact J_zret hK hR dX5_leads_49 () rfl rfl (by decide) (by decide)
        · have hf := iq hc41 hf
          refine J_iconst (v := 1) hK dX5_leads_44 rfl (by decide) ?_
          refine J_goto hK dX5_leads_45 (n := 49) rfl ?_
          obtain rfl := Option.some.inj hf
          exact J_zret hK hR dX5_leads_49 () rfl rfl (by decide) (by decide)
    · have hf := iq hc25 hf
      refine J_iconst (v := 0) hK dX5_leads_28 rfl (by decide) ?_
      obtain rfl := Option.some.inj hf
      exact J_zret hK hR dX5_leads_29 () rfl rfl (by decide) (by decide)

def fX5_stepOn_s61 (n : Nat) (p1 : Int32) (p2 : Int64) (x0_edgeA : (Nat → Int32)) (x0_edgeB : (Nat → Int32)) (x0_edgeCost : (Nat → Int32)) (x0_edgeLine : (Nat → Int32)) (x0_change : (Nat → Int32)) (x0_away : (Nat → Int32)) (x0_steps : (Nat → Int32)) (x0_nodes : (Nat → Int32)) (x0_stepCount : Int32) (x0_edgeCount : Int32) (x0_aim : Int32) (z20 : Int32) (z21 : (Nat → Int32)) (z22 : Int32) (z23 : Int64) : Option ((Int32 × (Nat → Int32) × Int32 × Int64) ⊕ (((Int32 × Int32 × (Nat → Int32) × Int32 × Int64) ⊕ ((Nat → Int32) × Int32 × Int64)))) :=
  if x0_edgeCount ≤ z20 then (some (.inr (.inr (z21, z22, z23)))) else ((fX5_otherEnd (x0_edgeA, x0_edgeB, x0_edgeCost, x0_edgeLine, x0_change, x0_away, x0_steps, x0_nodes, x0_stepCount, z21, z22, z23, x0_edgeCount, x0_aim) z20 p1).bind (fun v38 => if v38 = (-1) then (some (.inl ((z20 + 1), z21, z22, z23))) else ((rd 60 x0_edgeCost z20).bind fun v40 => (fX5_leads n (x0_edgeA, x0_edgeB, x0_edgeCost, x0_edgeLine, x0_change, x0_away, x0_steps, x0_nodes, x0_stepCount, z21, z22, z23, x0_edgeCount, x0_aim) p1 v38 v40 p2).bind (u4 fun v41 g42 g43 g44 => if v41 = 0 then (some (.inl ((z20 + 1), g42, g43, g44))) else (some (.inr (.inl (z20, v38, g42, g43, g44))))))))
def fX5_stepOn_s8 (n : Nat) (p1 : Int32) (p2 : Int64) (x0_edgeA : (Nat → Int32)) (x0_edgeB : (Nat → Int32)) (x0_edgeCost : (Nat → Int32)) (x0_edgeLine : (Nat → Int32)) (x0_change : (Nat → Int32)) (x0_away : (Nat → Int32)) (x0_steps : (Nat → Int32)) (x0_nodes : (Nat → Int32)) (x0_stepCount : Int32) (x0_edgeCount : Int32) (x0_aim : Int32) (z2 : Int32) (z3 : (Nat → Int32)) (z4 : Int32) (z5 : Int64) : Option ((Int32 × (Nat → Int32) × Int32 × Int64) ⊕ (((Int32 × Int32 × (Nat → Int32) × Int32 × Int64) ⊕ ((Nat → Int32) × Int32 × Int64)))) :=
  if 3 ≤ z2 then (some (.inr (.inr (z3, z4, z5)))) else ((rd 12 x0_change (p1 / 3)).bind fun v46 => (fX5_leads n (x0_edgeA, x0_edgeB, x0_edgeCost, x0_edgeLine, x0_change, x0_away, x0_steps, x0_nodes, x0_stepCount, z3, z4, z5, x0_edgeCount, x0_aim) p1 (((p1 / 3) * 3) + z2) v46 p2).bind (u4 fun v47 g48 g49 g50 => if v47 = 0 then (some (.inl ((z2 + 1), g48, g49, g50))) else (some (.inr (.inl (z2, (((p1 / 3) * 3) + z2), g48, g49, g50))))))
def fX5_stepOn (n : Nat) (X0 : WyT) (p1 : Int32) (p2 : Int64) : Option (Int32 × ((Nat → Int32) × (Nat → Int32) × Int32 × (Nat → Int32) × Int32 × Int64)) :=
  u14 (fun (x0_edgeA : (Nat → Int32)) (x0_edgeB : (Nat → Int32)) (x0_edgeCost : (Nat → Int32)) (x0_edgeLine : (Nat → Int32)) (x0_change : (Nat → Int32)) (x0_away : (Nat → Int32)) (x0_steps : (Nat → Int32)) (x0_nodes : (Nat → Int32)) (x0_stepCount : Int32) (x0_open : (Nat → Int32)) (x0_openCount : Int32) (x0_seen : Int64) (x0_edgeCount : Int32) (x0_aim : Int32) => (lp (u4 (fX5_stepOn_s8 n p1 p2 x0_edgeA x0_edgeB x0_edgeCost x0_edgeLine x0_change x0_away x0_steps x0_nodes x0_stepCount x0_edgeCount x0_aim)) n (0, x0_open, x0_openCount, x0_seen)).bind (Sum.elim (u5 fun w7 w8 w9 w10 w11 => (fX5_note (x0_edgeA, x0_edgeB, x0_edgeCost, x0_edgeLine, x0_change, x0_away, x0_steps, x0_nodes, x0_stepCount, w9, w10, w11, x0_edgeCount, x0_aim) w7 w8).bind (u3 fun g12 g13 g14 => some (w8, (g12, g13, g14, w9, w10, w11)))) (u3 fun w16 w17 w18 => (lp (u4 (fX5_stepOn_s61 n p1 p2 x0_edgeA x0_edgeB x0_edgeCost x0_edgeLine x0_change x0_away x0_steps x0_nodes x0_stepCount x0_edgeCount x0_aim)) n (0, w16, w17, w18)).bind (Sum.elim (u5 fun w25 w26 w27 w28 w29 => (rd 60 x0_edgeLine w25).bind fun v30 => (fX5_note (x0_edgeA, x0_edgeB, x0_edgeCost, x0_edgeLine, x0_change, x0_away, x0_steps, x0_nodes, x0_stepCount, w27, w28, w29, x0_edgeCount, x0_aim) (3 + v30) w26).bind (u3 fun g31 g32 g33 => some (w26, (g31, g32, g33, w27, w28, w29)))) (u3 fun w35 w36 w37 => some ((-1), (x0_steps, x0_nodes, x0_stepCount, w35, w36, w37))))))) X0
set_option maxHeartbeats 4000000 in
set_option maxRecDepth 100000 in
theorem kX5_stepOn (l : Launch) (d : DT) (h0 : Nat → Nat) (n : Nat) (x0_edgeA : (Nat → Int32)) (x0_edgeB : (Nat → Int32)) (x0_edgeCost : (Nat → Int32)) (x0_edgeLine : (Nat → Int32)) (x0_change : (Nat → Int32)) (x0_away : (Nat → Int32)) (x0_steps : (Nat → Int32)) (x0_nodes : (Nat → Int32)) (x0_stepCount : Int32) (x0_open : (Nat → Int32)) (x0_openCount : Int32) (x0_seen : Int64) (x0_edgeCount : Int32) (x0_aim : Int32) (p1 : Int32) (p2 : Int64)  {out : Int32 × ((Nat → Int32) × (Nat → Int32) × Int32 × (Nat → Int32) × Int32 × Int64)} (hf : fX5_stepOn n (x0_edgeA, x0_edgeB, x0_edgeCost, x0_edgeLine, x0_change, x0_away, x0_steps, x0_nodes, x0_stepCount, x0_open, x0_openCount, x0_seen, x0_edgeCount, x0_aim) p1 p2 = some out) : Ct l d yX5_stepOn cX5_stepOn 7 (some .int) { frames := 3, cells := 0, slots := 0, locals := 77 } [.ref (h0 0), .int p1, .long p2] [gWy d h0 x0_edgeA x0_edgeB x0_edgeCost x0_edgeLine x0_change x0_away x0_steps x0_nodes x0_stepCount x0_open x0_openCount x0_seen x0_edgeCount x0_aim] (fun _ : Unit => (some (.int out.1), [gWy d h0 x0_edgeA x0_edgeB x0_edgeCost x0_edgeLine x0_change x0_away (out.2.1) (out.2.2.1) (out.2.2.2.1) (out.2.2.2.2.1) (out.2.2.2.2.2.1) (out.2.2.2.2.2.2) x0_edgeCount x0_aim])) := by
  refine Ct.of (by decide) (Nat.le_of_ble_eq_true rfl) ?_
  intro Φ hl hK hR
  subst hl
  have hK : Ok d Φ RX5 "stepOn" cX5_stepOn 7 (some .int) { frames := 3, cells := 0, slots := 0, locals := 77 } := hK
  unfold fX5_stepOn at hf
  have hf := un14 hf
  show J d Φ 7 [gWy d h0 x0_edgeA x0_edgeB x0_edgeCost x0_edgeLine x0_change x0_away x0_steps x0_nodes x0_stepCount x0_open x0_openCount x0_seen x0_edgeCount x0_aim] 0 0 0 [(0, .ref (h0 0)), (1, .int p1), (2, .long p2)] []
  refine J_iload_n hK dX5_stepOn_0 rfl 1 rfl rfl ?_
  refine J_iconst (v := 3) hK dX5_stepOn_1 rfl (by decide) ?_
  refine J_idiv hK dX5_stepOn_2 rfl (by decide) ?_
  refine J_istore (L' := [(4, .int (p1 / 3)), (0, .ref (h0 0)), (1, .int p1), (2, .long p2)]) hK dX5_stepOn_3 rfl (by decide) rfl ?_
  refine J_iconst (v := 0) hK dX5_stepOn_5 rfl (by decide) ?_
  refine J_istore (L' := [(5, .int (0)), (4, .int (p1 / 3)), (0, .ref (h0 0)), (1, .int p1), (2, .long p2)]) hK dX5_stepOn_6 rfl (by decide) rfl ?_
  obtain ⟨e6, hl1, hf⟩ := bs hf
  have hx1_41 : ∀ (w7 : Int32) (w8 : Int32) (w9 : (Nat → Int32)) (w10 : Int32) (w11 : Int64), (.inl (w7, w8, w9, w10, w11)) = e6 → J d Φ 7 [gWy d h0 x0_edgeA x0_edgeB x0_edgeCost x0_edgeLine x0_change x0_away x0_steps x0_nodes x0_stepCount w9 w10 w11 x0_edgeCount x0_aim] 0 0 41 [(0, .ref (h0 0)), (5, .int w7), (6, .int w8)] [] := by
    intro w7 w8 w9 w10 w11 he
    rw [← he] at hf
    simp only [Sum.elim_inl, Sum.elim_inr] at hf
    have hf := un5 hf
    refine J_aload_n hK dX5_stepOn_41 rfl 0 rfl rfl ?_
    refine J_iload hK dX5_stepOn_42 rfl 1 rfl ?_
    refine J_iload hK dX5_stepOn_44 rfl 2 rfl ?_
    obtain ⟨⟨g12, g13, g14⟩, e15, hf⟩ := bs hf
    have hf := un3 hf
    refine J_callV (m' := 1) (ce' := 0) (sl' := 0) (gr := []) (gs' := fun _ => [gWy d h0 x0_edgeA x0_edgeB x0_edgeCost x0_edgeLine x0_change x0_away g12 g13 g14 w9 w10 w11 x0_edgeCount x0_aim]) (st' := fun _ => []) (st := []) hK dX5_stepOn_46 cv_RX5_90 iv_yX5_note (As := [.int w7, .int w8]) (kX5_note _ d h0 x0_edgeA x0_edgeB x0_edgeCost x0_edgeLine x0_change x0_away x0_steps x0_nodes x0_stepCount w9 w10 w11 x0_edgeCount x0_aim w7 w8 e15) rfl rfl (Nat.le_of_ble_eq_true rfl) (by decide) 0 0 rfl rfl rfl [0] [] rfl rfl rfl rfl [0] rfl (fun _ => rfl) (fun _ => rfl) rfl rfl rfl (fun _ => rfl) (fun _ => ?_)
    refine J_iload hK dX5_stepOn_49 rfl 2 rfl ?_
    obtain rfl := Option.some.inj hf
    exact J_iret hK hR dX5_stepOn_51 () rfl (by decide) (by decide)
  have hx1_58 : ∀ (w16 : (Nat → Int32)) (w17 : Int32) (w18 : Int64), (.inr (w16, w17, w18)) = e6 → J d Φ 7 [gWy d h0 x0_edgeA x0_edgeB x0_edgeCost x0_edgeLine x0_change x0_away x0_steps x0_nodes x0_stepCount w16 w17 w18 x0_edgeCount x0_aim] 0 0 58 [(0, .ref (h0 0)), (1, .int p1), (2, .long p2)] [] := by
    intro w16 w17 w18 he
    rw [← he] at hf
    simp only [Sum.elim_inl, Sum.elim_inr] at hf
    have hf := un3 hf
    refine J_iconst (v := 0) hK dX5_stepOn_58 rfl (by decide) ?_
    refine J_istore (L' := [(5, .int (0)), (0, .ref (h0 0)), (1, .int p1), (2, .long p2)]) hK dX5_stepOn_59 rfl (by decide) rfl ?_
    obtain ⟨e24, hl19, hf⟩ := bs hf
    have hx19_103 : ∀ (w25 : Int32) (w26 : Int32) (w27 : (Nat → Int32)) (w28 : Int32) (w29 : Int64), (.inl (w25, w26, w27, w28, w29)) = e24 → J d Φ 7 [gWy d h0 x0_edgeA x0_edgeB x0_edgeCost x0_edgeLine x0_change x0_away x0_steps x0_nodes x0_stepCount w27 w28 w29 x0_edgeCount x0_aim] 0 0 103 [(0, .ref (h0 0)), (5, .int w25), (6, .int w26)] [] := by
      intro w25 w26 w27 w28 w29 he
      rw [← he] at hf
      simp only [Sum.elim_inl, Sum.elim_inr] at hf
      have hf := un5 hf
      refine J_aload_n hK dX5_stepOn_103 rfl 0 rfl rfl ?_
      refine J_iconst (v := 3) hK dX5_stepOn_104 rfl (by decide) ?_
      refine J_aload_n hK dX5_stepOn_105 rfl 0 rfl rfl ?_
      refine J_get hK fo_RX5_21 dX5_stepOn_106 rfl 0 0 rfl rfl rfl ?_
      refine J_iload hK dX5_stepOn_109 rfl 1 rfl ?_
      obtain ⟨v30, ev30, hf⟩ := bs hf
      refine J_iald hK dX5_stepOn_111 rfl 0 4 rfl rfl ev30 ?_
      refine J_iadd hK dX5_stepOn_112 rfl ?_
      refine J_iload hK dX5_stepOn_113 rfl 2 rfl ?_
      obtain ⟨⟨g31, g32, g33⟩, e34, hf⟩ := bs hf
      have hf := un3 hf
      refine J_callV (m' := 1) (ce' := 0) (sl' := 0) (gr := []) (gs' := fun _ => [gWy d h0 x0_edgeA x0_edgeB x0_edgeCost x0_edgeLine x0_change x0_away g31 g32 g33 w27 w28 w29 x0_edgeCount x0_aim]) (st' := fun _ => []) (st := []) hK dX5_stepOn_115 cv_RX5_90 iv_yX5_note (As := [.int (3 + v30), .int w26]) (kX5_note _ d h0 x0_edgeA x0_edgeB x0_edgeCost x0_edgeLine x0_change x0_away x0_steps x0_nodes x0_stepCount w27 w28 w29 x0_edgeCount x0_aim (3 + v30) w26 e34) rfl rfl (Nat.le_of_ble_eq_true rfl) (by decide) 0 0 rfl rfl rfl [0] [] rfl rfl rfl rfl [0] rfl (fun _ => rfl) (fun _ => rfl) rfl rfl rfl (fun _ => rfl) (fun _ => ?_)
      refine J_iload hK dX5_stepOn_118 rfl 2 rfl ?_
      obtain rfl := Option.some.inj hf
      exact J_iret hK hR dX5_stepOn_120 () rfl (by decide) (by decide)
    have hx19_127 : ∀ (w35 : (Nat → Int32)) (w36 : Int32) (w37 : Int64), (.inr (w35, w36, w37)) = e24 → J d Φ 7 [gWy d h0 x0_edgeA x0_edgeB x0_edgeCost x0_edgeLine x0_change x0_away x0_steps x0_nodes x0_stepCount w35 w36 w37 x0_edgeCount x0_aim] 0 0 127 [] [] := by
      intro w35 w36 w37 he
      rw [← he] at hf
      simp only [Sum.elim_inl, Sum.elim_inr] at hf
      have hf := un3 hf
      refine J_iconst (v := (-1)) hK dX5_stepOn_127 rfl (by decide) ?_
      obtain rfl := Option.some.inj hf
      exact J_iret hK hR dX5_stepOn_128 () rfl (by decide) (by decide)
    have lo19 : ∀ (k : Nat) (z20 : Int32) (z21 : (Nat → Int32)) (z22 : Int32) (z23 : Int64), lp (u4 (fX5_stepOn_s61 n p1 p2 x0_edgeA x0_edgeB x0_edgeCost x0_edgeLine x0_change x0_away x0_steps x0_nodes x0_stepCount x0_edgeCount x0_aim)) k (z20, z21, z22, z23) = some e24 → J d Φ 7 [gWy d h0 x0_edgeA x0_edgeB x0_edgeCost x0_edgeLine x0_change x0_away x0_steps x0_nodes x0_stepCount z21 z22 z23 x0_edgeCount x0_aim] 0 0 61 [(0, .ref (h0 0)), (1, .int p1), (2, .long p2), (5, .int z20)] [] := by
      intro k
      induction k with
      | zero => intro z20 z21 z22 z23 h; cases h
      | succ k ih19 =>
        intro z20 z21 z22 z23 h
        obtain ⟨k2, rr19, hk2, hs19, hr19⟩ := lp_ok h
        cases hk2
        have hs19 : fX5_stepOn_s61 n p1 p2 x0_edgeA x0_edgeB x0_edgeCost x0_edgeLine x0_change x0_away x0_steps x0_nodes x0_stepCount x0_edgeCount x0_aim z20 z21 z22 z23 = some rr19 := hs19
        unfold fX5_stepOn_s61 at hs19
        refine J_iload hK dX5_stepOn_61 rfl 3 rfl ?_
        refine J_aload_n hK dX5_stepOn_63 rfl 0 rfl rfl ?_
        refine J_get hK fo_RX5_52 dX5_stepOn_64 rfl 0 0 rfl rfl rfl ?_
        refine J_icmp_ge (tg := 127) hK dX5_stepOn_67 rfl rfl (fun hc67 => ?_) (fun hc67 => ?_)
        · have hs19 := ip hc67 hs19
          exact J_loc [] rfl (hx19_127 z21 z22 z23 (lpx hs19 hr19))
        · have hs19 := iq hc67 hs19
          refine J_aload_n hK dX5_stepOn_70 rfl 0 rfl rfl ?_
          refine J_iload hK dX5_stepOn_71 rfl 3 rfl ?_
          refine J_iload_n hK dX5_stepOn_73 rfl 1 rfl rfl ?_
          obtain ⟨v38, e39, hs19⟩ := bs hs19
          refine J_callV (m' := 1) (ce' := 0) (sl' := 0) (gr := []) (gs' := fun _ => [gWy d h0 x0_edgeA x0_edgeB x0_edgeCost x0_edgeLine x0_change x0_away x0_steps x0_nodes x0_stepCount z21 z22 z23 x0_edgeCount x0_aim]) (st' := fun _ => [.int v38]) (st := []) hK dX5_stepOn_74 cv_RX5_102 iv_yX5_otherEnd (As := [.int z20, .int p1]) (kX5_otherEnd _ d h0 x0_edgeA x0_edgeB x0_edgeCost x0_edgeLine x0_change x0_away x0_steps x0_nodes x0_stepCount z21 z22 z23 x0_edgeCount x0_aim z20 p1 e39) rfl rfl (Nat.le_of_ble_eq_true rfl) (by decide) 0 0 rfl rfl rfl [0] [] rfl rfl rfl rfl [0] rfl (fun _ => rfl) (fun _ => rfl) rfl rfl rfl (fun _ => rfl) (fun _ => ?_)
          refine J_istore (L' := [(6, .int v38), (0, .ref (h0 0)), (1, .int p1), (2, .long p2), (5, .int z20)]) hK dX5_stepOn_77 rfl (by decide) rfl ?_
          refine J_iload hK dX5_stepOn_79 rfl 0 rfl ?_
          refine J_iconst (v := (-1)) hK dX5_stepOn_81 rfl (by decide) ?_
          refine J_icmp_eq (tg := 121) hK dX5_stepOn_82 rfl rfl (fun hc82 => ?_) (fun hc82 => ?_)
          · have hs19 := ip hc82 hs19
            refine J_iinc (L' := [(5, .int (z20 + 1)), (6, .int v38), (0, .ref (h0 0)), (1, .int p1), (2, .long p2)]) (v := (z20 + 1)) hK dX5_stepOn_121 rfl 4 rfl rfl (by decide) rfl ?_
            refine J_goto hK dX5_stepOn_124 (n := 61) rfl ?_
            exact J_loc [2, 3, 4, 0] rfl (ih19 (z20 + 1) z21 z22 z23 (lpc hs19 hr19))
          · have hs19 := iq hc82 hs19
            refine J_aload_n hK dX5_stepOn_85 rfl 1 rfl rfl ?_
            refine J_iload_n hK dX5_stepOn_86 rfl 2 rfl rfl ?_
            refine J_iload hK dX5_stepOn_87 rfl 0 rfl ?_
            refine J_aload_n hK dX5_stepOn_89 rfl 1 rfl rfl ?_
            refine J_get hK fo_RX5_18 dX5_stepOn_90 rfl 0 0 rfl rfl rfl ?_
            refine J_iload hK dX5_stepOn_93 rfl 4 rfl ?_
            obtain ⟨v40, ev40, hs19⟩ := bs hs19
            refine J_iald hK dX5_stepOn_95 rfl 0 3 rfl rfl ev40 ?_
            refine J_lload_n hK dX5_stepOn_96 rfl 3 rfl rfl ?_
            obtain ⟨⟨v41, g42, g43, g44⟩, e45, hs19⟩ := bs hs19
            have hs19 := un4 hs19
            refine J_callV (m' := 1) (ce' := 0) (sl' := 0) (gr := []) (gs' := fun _ => [gWy d h0 x0_edgeA x0_edgeB x0_edgeCost x0_edgeLine x0_change x0_away x0_steps x0_nodes x0_stepCount g42 g43 g44 x0_edgeCount x0_aim]) (st' := fun _ => [.int v41]) (st := []) hK dX5_stepOn_97 cv_RX5_98 iv_yX5_leads (As := [.int p1, .int v38, .int v40, .long p2]) (kX5_leads _ d h0 n x0_edgeA x0_edgeB x0_edgeCost x0_edgeLine x0_change x0_away x0_steps x0_nodes x0_stepCount z21 z22 z23 x0_edgeCount x0_aim p1 v38 v40 p2 e45) rfl rfl (Nat.le_of_ble_eq_true rfl) (by decide) 0 0 rfl rfl rfl [0] [] rfl rfl rfl rfl [0] rfl (fun _ => rfl) (fun _ => rfl) rfl rfl rfl (fun _ => rfl) (fun _ => ?_)
            refine J_if_eq (tg := 121) hK dX5_stepOn_100 rfl rfl (fun hc100 => ?_) (fun hc100 => ?_)
            · have hs19 := ip hc100 hs19
              refine J_iinc (L' := [(5, .int (z20 + 1)), (6, .int v38), (0, .ref (h0 0)), (1, .int p1), (2, .long p2)]) (v := (z20 + 1)) hK dX5_stepOn_121 rfl 4 rfl rfl (by decide) rfl ?_
              refine J_goto hK dX5_stepOn_124 (n := 61) rfl ?_
              exact J_loc [2, 3, 4, 0] rfl (ih19 (z20 + 1) g42 g43 g44 (lpc hs19 hr19))
            · have hs19 := iq hc100 hs19
              exact J_loc [1, 4, 0] rfl (hx19_103 z20 v38 g42 g43 g44 (lpx hs19 hr19))
    exact J_loc [1, 2, 3, 0] rfl (lo19 n (0) w16 w17 w18 hl19)
  have lo1 : ∀ (k : Nat) (z2 : Int32) (z3 : (Nat → Int32)) (z4 : Int32) (z5 : Int64), lp (u4 (fX5_stepOn_s8 n p1 p2 x0_edgeA x0_edgeB x0_edgeCost x0_edgeLine x0_change x0_away x0_steps x0_nodes x0_stepCount x0_edgeCount x0_aim)) k (z2, z3, z4, z5) = some e6 → J d Φ 7 [gWy d h0 x0_edgeA x0_edgeB x0_edgeCost x0_edgeLine x0_change x0_away x0_steps x0_nodes x0_stepCount z3 z4 z5 x0_edgeCount x0_aim] 0 0 8 [(0, .ref (h0 0)), (1, .int p1), (2, .long p2), (4, .int (p1 / 3)), (5, .int z2)] [] := by
    intro k
    induction k with
    | zero => intro z2 z3 z4 z5 h; cases h
    | succ k ih1 =>
      intro z2 z3 z4 z5 h
      obtain ⟨k2, rr1, hk2, hs1, hr1⟩ := lp_ok h
      cases hk2
      have hs1 : fX5_stepOn_s8 n p1 p2 x0_edgeA x0_edgeB x0_edgeCost x0_edgeLine x0_change x0_away x0_steps x0_nodes x0_stepCount x0_edgeCount x0_aim z2 z3 z4 z5 = some rr1 := hs1
      unfold fX5_stepOn_s8 at hs1
      refine J_iload hK dX5_stepOn_8 rfl 4 rfl ?_
      refine J_iconst (v := 3) hK dX5_stepOn_10 rfl (by decide) ?_
      refine J_icmp_ge (tg := 58) hK dX5_stepOn_11 rfl rfl (fun hc11 => ?_) (fun hc11 => ?_)
      · have hs1 := ip hc11 hs1
        exact J_loc [0, 1, 2] rfl (hx1_58 z3 z4 z5 (lpx hs1 hr1))
      · have hs1 := iq hc11 hs1
        refine J_iload hK dX5_stepOn_14 rfl 3 rfl ?_
        refine J_iconst (v := 3) hK dX5_stepOn_16 rfl (by decide) ?_
        refine J_imul hK dX5_stepOn_17 rfl ?_
        refine J_iload hK dX5_stepOn_18 rfl 4 rfl ?_
        refine J_iadd hK dX5_stepOn_20 rfl ?_
        refine J_istore (L' := [(6, .int (((p1 / 3) * 3) + z2)), (0, .ref (h0 0)), (1, .int p1), (2, .long p2), (4, .int (p1 / 3)), (5, .int z2)]) hK dX5_stepOn_21 rfl (by decide) rfl ?_
        refine J_aload_n hK dX5_stepOn_23 rfl 1 rfl rfl ?_
        refine J_iload_n hK dX5_stepOn_24 rfl 2 rfl rfl ?_
        refine J_iload hK dX5_stepOn_25 rfl 0 rfl ?_
        refine J_aload_n hK dX5_stepOn_27 rfl 1 rfl rfl ?_
        refine J_get hK fo_RX5_24 dX5_stepOn_28 rfl 0 0 rfl rfl rfl ?_
        refine J_iload hK dX5_stepOn_31 rfl 4 rfl ?_
        obtain ⟨v46, ev46, hs1⟩ := bs hs1
        refine J_iald hK dX5_stepOn_33 rfl 0 5 rfl rfl ev46 ?_
        refine J_lload_n hK dX5_stepOn_34 rfl 3 rfl rfl ?_
        obtain ⟨⟨v47, g48, g49, g50⟩, e51, hs1⟩ := bs hs1
        have hs1 := un4 hs1
        refine J_callV (m' := 1) (ce' := 0) (sl' := 0) (gr := []) (gs' := fun _ => [gWy d h0 x0_edgeA x0_edgeB x0_edgeCost x0_edgeLine x0_change x0_away x0_steps x0_nodes x0_stepCount g48 g49 g50 x0_edgeCount x0_aim]) (st' := fun _ => [.int v47]) (st := []) hK dX5_stepOn_35 cv_RX5_98 iv_yX5_leads (As := [.int p1, .int (((p1 / 3) * 3) + z2), .int v46, .long p2]) (kX5_leads _ d h0 n x0_edgeA x0_edgeB x0_edgeCost x0_edgeLine x0_change x0_away x0_steps x0_nodes x0_stepCount z3 z4 z5 x0_edgeCount x0_aim p1 (((p1 / 3) * 3) + z2) v46 p2 e51) rfl rfl (Nat.le_of_ble_eq_true rfl) (by decide) 0 0 rfl rfl rfl [0] [] rfl rfl rfl rfl [0] rfl (fun _ => rfl) (fun _ => rfl) rfl rfl rfl (fun _ => rfl) (fun _ => ?_)
        refine J_if_eq (tg := 52) hK dX5_stepOn_38 rfl rfl (fun hc38 => ?_) (fun hc38 => ?_)
        · have hs1 := ip hc38 hs1
          refine J_iinc (L' := [(5, .int (z2 + 1)), (6, .int (((p1 / 3) * 3) + z2)), (0, .ref (h0 0)), (1, .int p1), (2, .long p2), (4, .int (p1 / 3))]) (v := (z2 + 1)) hK dX5_stepOn_52 rfl 5 rfl rfl (by decide) rfl ?_
          refine J_goto hK dX5_stepOn_55 (n := 8) rfl ?_
          exact J_loc [2, 3, 4, 5, 0] rfl (ih1 (z2 + 1) g48 g49 g50 (lpc hs1 hr1))
        · have hs1 := iq hc38 hs1
          exact J_loc [1, 5, 0] rfl (hx1_41 z2 (((p1 / 3) * 3) + z2) g48 g49 g50 (lpx hs1 hr1))
  exact J_loc [2, 3, 4, 1, 0] rfl (lo1 n (0) x0_open x0_openCount x0_seen hl1)

def fX5_trace_s78 (n : Nat) (p2 : Int32) (x0_edgeA : (Nat → Int32)) (x0_edgeB : (Nat → Int32)) (x0_edgeCost : (Nat → Int32)) (x0_edgeLine : (Nat → Int32)) (x0_change : (Nat → Int32)) (x0_edgeCount : Int32) (g1 : (Nat → Int32)) (g2 : Int32) (z16 : Int32) (z17 : Int64) (z18 : Int32) (z19 : (Nat → Int32)) (z20 : (Nat → Int32)) (z21 : Int32) (z22 : (Nat → Int32)) (z23 : Int32) (z24 : Int64) : Option ((Int32 × Int64 × Int32 × (Nat → Int32) × (Nat → Int32) × Int32 × (Nat → Int32) × Int32 × Int64) ⊕ ((((Nat → Int32) × (Nat → Int32) × Int32 × (Nat → Int32) × Int32 × Int64) ⊕ (Int32 × (Nat → Int32) × (Nat → Int32) × Int32 × (Nat → Int32) × Int32 × Int64)))) :=
  if 36 ≤ z18 then (some (.inr (.inr (z16, z19, z20, z21, z22, z23, z24)))) else (if (z16 / 3) = p2 then (some (.inr (.inr (z16, z19, z20, z21, z22, z23, z24)))) else ((fX5_stepOn n (x0_edgeA, x0_edgeB, x0_edgeCost, x0_edgeLine, x0_change, g1, z19, z20, z21, z22, z23, z24, x0_edgeCount, g2) z16 z17).bind (u2 fun v39 G40 => u6 (fun g41 g42 g43 g44 g45 g46 => if v39 = (-1) then (some (.inr (.inl (g41, g42, g43, g44, g45, g46)))) else ((some (z17 ||| ((1 : Int64) <<< ((v39).toInt64 &&& 63)))).bind fun t48 => some (.inl (v39, t48, (z18 + 1), g41, g42, g43, g44, g45, g46)))) G40)))
def fX5_trace_s26 (p1 : Int32) (g1 : (Nat → Int32)) (v4 : Int32) (z7 : Int32) : Option ((Int32) ⊕ (Int32)) :=
  if 2 ≤ z7 then (some (.inr z7)) else ((rd 36 g1 ((p1 * 3) + z7)).bind fun v49 => if v49 = v4 then (some (.inr z7)) else (some (.inl (z7 + 1))))
def fX5_trace (n : Nat) (X0 : WyT) (p1 : Int32) (p2 : Int32) : Option (Int32 × ((Nat → Int32) × (Nat → Int32) × (Nat → Int32) × Int32 × (Nat → Int32) × Int32 × Int64 × Int32)) :=
  u14 (fun (x0_edgeA : (Nat → Int32)) (x0_edgeB : (Nat → Int32)) (x0_edgeCost : (Nat → Int32)) (x0_edgeLine : (Nat → Int32)) (x0_change : (Nat → Int32)) (x0_away : (Nat → Int32)) (x0_steps : (Nat → Int32)) (x0_nodes : (Nat → Int32)) (x0_stepCount : Int32) (x0_open : (Nat → Int32)) (x0_openCount : Int32) (x0_seen : Int64) (x0_edgeCount : Int32) (x0_aim : Int32) => (fX5_aimAt n (x0_edgeA, x0_edgeB, x0_edgeCost, x0_edgeLine, x0_change, x0_away, x0_steps, x0_nodes, 0, x0_open, x0_openCount, x0_seen, x0_edgeCount, x0_aim) p2).bind (u2 fun g1 g2 => (fX5_costFrom n (x0_edgeA, x0_edgeB, x0_edgeCost, x0_edgeLine, x0_change, g1, x0_steps, x0_nodes, 0, x0_open, x0_openCount, x0_seen, x0_edgeCount, g2) p1).bind (fun v4 => if v4 = (-1) then (some (0, (g1, x0_steps, x0_nodes, 0, x0_open, x0_openCount, x0_seen, g2))) else ((lp (fX5_trace_s26 p1 g1 v4) n (0)).bind (fun w9 => (fX5_note (x0_edgeA, x0_edgeB, x0_edgeCost, x0_edgeLine, x0_change, g1, x0_steps, x0_nodes, 0, x0_open, x0_openCount, x0_seen, x0_edgeCount, g2) w9 ((p1 * 3) + w9)).bind (u3 fun g10 g11 g12 => (some ((1 : Int64) <<< ((((p1 * 3) + w9)).toInt64 &&& 63))).bind fun t14 => (lp (u9 (fX5_trace_s78 n p2 x0_edgeA x0_edgeB x0_edgeCost x0_edgeLine x0_change x0_edgeCount g1 g2)) n (((p1 * 3) + w9), t14, 1, g10, g11, g12, x0_open, x0_openCount, x0_seen)).bind (Sum.elim (u6 fun w26 w27 w28 w29 w30 w31 => some (0, (g1, w26, w27, w28, w29, w30, w31, g2))) (u7 fun w32 w33 w34 w35 w36 w37 w38 => if (w32 / 3) = p2 then (some (1, (g1, w33, w34, w35, w36, w37, w38, g2))) else (some (0, (g1, w33, w34, w35, w36, w37, w38, g2))))))))))) X0
set_option maxHeartbeats 4000000 in
set_option maxRecDepth 100000 in
theorem kX5_trace (l : Launch) (d : DT) (h0 : Nat → Nat) (n : Nat) (x0_edgeA : (Nat → Int32)) (x0_edgeB : (Nat → Int32)) (x0_edgeCost : (Nat → Int32)) (x0_edgeLine : (Nat → Int32)) (x0_change : (Nat → Int32)) (x0_away : (Nat → Int32)) (x0_steps : (Nat → Int32)) (x0_nodes : (Nat → Int32)) (x0_stepCount : Int32) (x0_open : (Nat → Int32)) (x0_openCount : Int32) (x0_seen : Int64) (x0_edgeCount : Int32) (x0_aim : Int32) (p1 : Int32) (p2 : Int32)  {out : Int32 × ((Nat → Int32) × (Nat → Int32) × (Nat → Int32) × Int32 × (Nat → Int32) × Int32 × Int64 × Int32)} (hf : fX5_trace n (x0_edgeA, x0_edgeB, x0_edgeCost, x0_edgeLine, x0_change, x0_away, x0_steps, x0_nodes, x0_stepCount, x0_open, x0_openCount, x0_seen, x0_edgeCount, x0_aim) p1 p2 = some out) : Ct l d yX5_trace cX5_trace 9 (some .boolean) { frames := 4, cells := 0, slots := 0, locals := 103 } [.ref (h0 0), .int p1, .int p2] [gWy d h0 x0_edgeA x0_edgeB x0_edgeCost x0_edgeLine x0_change x0_away x0_steps x0_nodes x0_stepCount x0_open x0_openCount x0_seen x0_edgeCount x0_aim] (fun _ : Unit => (some (.int out.1), [gWy d h0 x0_edgeA x0_edgeB x0_edgeCost x0_edgeLine x0_change (out.2.1) (out.2.2.1) (out.2.2.2.1) (out.2.2.2.2.1) (out.2.2.2.2.2.1) (out.2.2.2.2.2.2.1) (out.2.2.2.2.2.2.2.1) x0_edgeCount (out.2.2.2.2.2.2.2.2)])) := by
  refine Ct.of (by decide) (Nat.le_of_ble_eq_true rfl) ?_
  intro Φ hl hK hR
  subst hl
  have hK : Ok d Φ RX5 "trace" cX5_trace 9 (some .boolean) { frames := 4, cells := 0, slots := 0, locals := 103 } := hK
  unfold fX5_trace at hf
  have hf := un14 hf
  show J d Φ 9 [gWy d h0 x0_edgeA x0_edgeB x0_edgeCost x0_edgeLine x0_change x0_away x0_steps x0_nodes x0_stepCount x0_open x0_openCount x0_seen x0_edgeCount x0_aim] 0 0 0 [(0, .ref (h0 0)), (1, .int p1), (2, .int p2)] []
  refine J_aload_n hK dX5_trace_0 rfl 0 rfl rfl ?_
  refine J_iconst (v := 0) hK dX5_trace_1 rfl (by decide) ?_
  refine J_put (g' := gWy d h0 x0_edgeA x0_edgeB x0_edgeCost x0_edgeLine x0_change x0_away x0_steps x0_nodes (0) x0_open x0_openCount x0_seen x0_edgeCount x0_aim) (gs' := [gWy d h0 x0_edgeA x0_edgeB x0_edgeCost x0_edgeLine x0_change x0_away x0_steps x0_nodes (0) x0_open x0_openCount x0_seen x0_edgeCount x0_aim]) hK fp_RX5_79 dX5_trace_2 rfl 0 0 rfl rfl rfl rfl (Nat.le_of_ble_eq_true rfl) rfl rfl ?_
  refine J_aload_n hK dX5_trace_5 rfl 0 rfl rfl ?_
  refine J_iload_n hK dX5_trace_6 rfl 2 rfl rfl ?_
  obtain ⟨⟨g1, g2⟩, e3, hf⟩ := bs hf
  have hf := un2 hf
  refine J_callV (m' := 1) (ce' := 0) (sl' := 0) (gr := []) (gs' := fun _ => [gWy d h0 x0_edgeA x0_edgeB x0_edgeCost x0_edgeLine x0_change g1 x0_steps x0_nodes (0) x0_open x0_openCount x0_seen x0_edgeCount g2]) (st' := fun _ => []) (st := []) hK dX5_trace_7 cv_RX5_82 iv_yX5_aimAt (As := [.int p2]) (kX5_aimAt _ d h0 n x0_edgeA x0_edgeB x0_edgeCost x0_edgeLine x0_change x0_away x0_steps x0_nodes (0) x0_open x0_openCount x0_seen x0_edgeCount x0_aim p2 e3) rfl rfl (Nat.le_of_ble_eq_true rfl) (by decide) 0 0 rfl rfl rfl [0] [] rfl rfl rfl rfl [0] rfl (fun _ => rfl) (fun _ => rfl) rfl rfl rfl (fun _ => rfl) (fun _ => ?_)
  refine J_aload_n hK dX5_trace_10 rfl 0 rfl rfl ?_
  refine J_iload_n hK dX5_trace_11 rfl 1 rfl rfl ?_
  obtain ⟨v4, e5, hf⟩ := bs hf
  refine J_callV (m' := 1) (ce' := 0) (sl' := 0) (gr := []) (gs' := fun _ => [gWy d h0 x0_edgeA x0_edgeB x0_edgeCost x0_edgeLine x0_change g1 x0_steps x0_nodes (0) x0_open x0_openCount x0_seen x0_edgeCount g2]) (st' := fun _ => [.int v4]) (st := []) hK dX5_trace_12 cv_RX5_86 iv_yX5_costFrom (As := [.int p1]) (kX5_costFrom _ d h0 n x0_edgeA x0_edgeB x0_edgeCost x0_edgeLine x0_change g1 x0_steps x0_nodes (0) x0_open x0_openCount x0_seen x0_edgeCount g2 p1 e5) rfl rfl (Nat.le_of_ble_eq_true rfl) (by decide) 0 0 rfl rfl rfl [0] [] rfl rfl rfl rfl [0] rfl (fun _ => rfl) (fun _ => rfl) rfl rfl rfl (fun _ => rfl) (fun _ => ?_)
  refine J_istore_n (L' := [(3, .int v4), (0, .ref (h0 0)), (1, .int p1), (2, .int p2)]) hK dX5_trace_15 rfl rfl (by decide) rfl ?_
  refine J_iload_n hK dX5_trace_16 rfl 0 rfl rfl ?_
  refine J_iconst (v := (-1)) hK dX5_trace_17 rfl (by decide) ?_
  refine J_icmp_ne (tg := 23) hK dX5_trace_18 rfl rfl (fun hc18 => ?_) (fun hc18 => ?_)
  · have hf := iq hc18 hf
    refine J_iconst (v := 0) hK dX5_trace_23 rfl (by decide) ?_
    refine J_istore (L' := [(4, .int (0)), (3, .int v4), (0, .ref (h0 0)), (1, .int p1), (2, .int p2)]) hK dX5_trace_24 rfl (by decide) rfl ?_
    obtain ⟨e8, hl6, hf⟩ := bs hf
    have hx6_53 : ∀ (w9 : Int32), w9 = e8 → J d Φ 9 [gWy d h0 x0_edgeA x0_edgeB x0_edgeCost x0_edgeLine x0_change g1 x0_steps x0_nodes (0) x0_open x0_openCount x0_seen x0_edgeCount g2] 0 0 53 [(0, .ref (h0 0)), (1, .int p1), (2, .int p2), (4, .int w9)] [] := by
      intro w9 he
      rw [← he] at hf
      refine J_iload_n hK dX5_trace_53 rfl 1 rfl rfl ?_
      refine J_iconst (v := 3) hK dX5_trace_54 rfl (by decide) ?_
      refine J_imul hK dX5_trace_55 rfl ?_
      refine J_iload hK dX5_trace_56 rfl 3 rfl ?_
      refine J_iadd hK dX5_trace_58 rfl ?_
      refine J_istore (L' := [(5, .int ((p1 * 3) + w9)), (0, .ref (h0 0)), (1, .int p1), (2, .int p2), (4, .int w9)]) hK dX5_trace_59 rfl (by decide) rfl ?_
      refine J_aload_n hK dX5_trace_61 rfl 1 rfl rfl ?_
      refine J_iload hK dX5_trace_62 rfl 4 rfl ?_
      refine J_iload hK dX5_trace_64 rfl 0 rfl ?_
      obtain ⟨⟨g10, g11, g12⟩, e13, hf⟩ := bs hf
      have hf := un3 hf
      refine J_callV (m' := 1) (ce' := 0) (sl' := 0) (gr := []) (gs' := fun _ => [gWy d h0 x0_edgeA x0_edgeB x0_edgeCost x0_edgeLine x0_change g1 g10 g11 g12 x0_open x0_openCount x0_seen x0_edgeCount g2]) (st' := fun _ => []) (st := []) hK dX5_trace_66 cv_RX5_90 iv_yX5_note (As := [.int w9, .int ((p1 * 3) + w9)]) (kX5_note _ d h0 x0_edgeA x0_edgeB x0_edgeCost x0_edgeLine x0_change g1 x0_steps x0_nodes (0) x0_open x0_openCount x0_seen x0_edgeCount g2 w9 ((p1 * 3) + w9) e13) rfl rfl (Nat.le_of_ble_eq_true rfl) (by decide) 0 0 rfl rfl rfl [0] [] rfl rfl rfl rfl [0] rfl (fun _ => rfl) (fun _ => rfl) rfl rfl rfl (fun _ => rfl) (fun _ => ?_)
      refine J_lconst (v := 1) hK dX5_trace_69 rfl (by decide) ?_
      refine J_iload hK dX5_trace_70 rfl 0 rfl ?_
      refine J_lshl hK dX5_trace_72 rfl ?_
      obtain ⟨t14, et14, hf⟩ := bs hf
      refine J_nml et14 ?_
      refine J_lstore (L' := [(6, .long t14), (5, .int ((p1 * 3) + w9)), (0, .ref (h0 0)), (1, .int p1), (2, .int p2), (4, .int w9)]) hK dX5_trace_73 rfl (by decide) rfl ?_
      refine J_iconst (v := 1) hK dX5_trace_75 rfl (by decide) ?_
      refine J_istore (L' := [(8, .int (1)), (6, .long t14), (5, .int ((p1 * 3) + w9)), (0, .ref (h0 0)), (1, .int p1), (2, .int p2), (4, .int w9)]) hK dX5_trace_76 rfl (by decide) rfl ?_
      obtain ⟨e25, hl15, hf⟩ := bs hf
      have hx15_109 : ∀ (w26 : (Nat → Int32)) (w27 : (Nat → Int32)) (w28 : Int32) (w29 : (Nat → Int32)) (w30 : Int32) (w31 : Int64), (.inl (w26, w27, w28, w29, w30, w31)) = e25 → J d Φ 9 [gWy d h0 x0_edgeA x0_edgeB x0_edgeCost x0_edgeLine x0_change g1 w26 w27 w28 w29 w30 w31 x0_edgeCount g2] 0 0 109 [] [] := by
        intro w26 w27 w28 w29 w30 w31 he
        rw [← he] at hf
        simp only [Sum.elim_inl, Sum.elim_inr] at hf
        have hf := un6 hf
        refine J_iconst (v := 0) hK dX5_trace_109 rfl (by decide) ?_
        obtain rfl := Option.some.inj hf
        exact J_zret hK hR dX5_trace_110 () rfl rfl (by decide) (by decide)
      have hx15_126 : ∀ (w32 : Int32) (w33 : (Nat → Int32)) (w34 : (Nat → Int32)) (w35 : Int32) (w36 : (Nat → Int32)) (w37 : Int32) (w38 : Int64), (.inr (w32, w33, w34, w35, w36, w37, w38)) = e25 → J d Φ 9 [gWy d h0 x0_edgeA x0_edgeB x0_edgeCost x0_edgeLine x0_change g1 w33 w34 w35 w36 w37 w38 x0_edgeCount g2] 0 0 126 [(2, .int p2), (5, .int w32)] [] := by
        intro w32 w33 w34 w35 w36 w37 w38 he
        rw [← he] at hf
        simp only [Sum.elim_inl, Sum.elim_inr] at hf
        have hf := un7 hf
        refine J_iload hK dX5_trace_126 rfl 1 rfl ?_
        refine J_iconst (v := 3) hK dX5_trace_128 rfl (by decide) ?_
        refine J_idiv hK dX5_trace_129 rfl (by decide) ?_
        refine J_iload_n hK dX5_trace_130 rfl 0 rfl rfl ?_
        refine J_icmp_ne (tg := 138) hK dX5_trace_131 rfl rfl (fun hc131 => ?_) (fun hc131 => ?_)
        · have hf := iq hc131 hf
          refine J_iconst (v := 0) hK dX5_trace_138 rfl (by decide) ?_
          obtain rfl := Option.some.inj hf
          exact J_zret hK hR dX5_trace_139 () rfl rfl (by decide) (by decide)
        · have hf := ip hc131 hf
          refine J_iconst (v := 1) hK dX5_trace_134 rfl (by decide) ?_
          refine J_goto hK dX5_trace_135 (n := 139) rfl ?_
          obtain rfl := Option.some.inj hf
          exact J_zret hK hR dX5_trace_139 () rfl rfl (by decide) (by decide)
      have lo15 : ∀ (k : Nat) (z16 : Int32) (z17 : Int64) (z18 : Int32) (z19 : (Nat → Int32)) (z20 : (Nat → Int32)) (z21 : Int32) (z22 : (Nat → Int32)) (z23 : Int32) (z24 : Int64), lp (u9 (fX5_trace_s78 n p2 x0_edgeA x0_edgeB x0_edgeCost x0_edgeLine x0_change x0_edgeCount g1 g2)) k (z16, z17, z18, z19, z20, z21, z22, z23, z24) = some e25 → J d Φ 9 [gWy d h0 x0_edgeA x0_edgeB x0_edgeCost x0_edgeLine x0_change g1 z19 z20 z21 z22 z23 z24 x0_edgeCount g2] 0 0 78 [(0, .ref (h0 0)), (2, .int p2), (5, .int z16), (6, .long z17), (8, .int z18)] [] := by
        intro k
        induction k with
        | zero => intro z16 z17 z18 z19 z20 z21 z22 z23 z24 h; cases h
        | succ k ih15 =>
          intro z16 z17 z18 z19 z20 z21 z22 z23 z24 h
          obtain ⟨k2, rr15, hk2, hs15, hr15⟩ := lp_ok h
          cases hk2
          have hs15 : fX5_trace_s78 n p2 x0_edgeA x0_edgeB x0_edgeCost x0_edgeLine x0_change x0_edgeCount g1 g2 z16 z17 z18 z19 z20 z21 z22 z23 z24 = some rr15 := hs15
          unfold fX5_trace_s78 at hs15
          refine J_iload hK dX5_trace_78 rfl 4 rfl ?_
          refine J_bipush (v := 36) hK dX5_trace_80 rfl (by decide) ?_
          refine J_icmp_ge (tg := 126) hK dX5_trace_82 rfl rfl (fun hc82 => ?_) (fun hc82 => ?_)
          · have hs15 := ip hc82 hs15
            exact J_loc [1, 2] rfl (hx15_126 z16 z19 z20 z21 z22 z23 z24 (lpx hs15 hr15))
          · have hs15 := iq hc82 hs15
            refine J_iload hK dX5_trace_85 rfl 2 rfl ?_
            refine J_iconst (v := 3) hK dX5_trace_87 rfl (by decide) ?_
            refine J_idiv hK dX5_trace_88 rfl (by decide) ?_
            refine J_iload_n hK dX5_trace_89 rfl 1 rfl rfl ?_
            refine J_icmp_eq (tg := 126) hK dX5_trace_90 rfl rfl (fun hc90 => ?_) (fun hc90 => ?_)
            · have hs15 := ip hc90 hs15
              exact J_loc [1, 2] rfl (hx15_126 z16 z19 z20 z21 z22 z23 z24 (lpx hs15 hr15))
            · have hs15 := iq hc90 hs15
              refine J_aload_n hK dX5_trace_93 rfl 0 rfl rfl ?_
              refine J_iload hK dX5_trace_94 rfl 2 rfl ?_
              refine J_lload hK dX5_trace_96 rfl 3 rfl ?_
              obtain ⟨⟨v39, ⟨g41, g42, g43, g44, g45, g46⟩⟩, e47, hs15⟩ := bs hs15
              have hs15 := un2 hs15
              have hs15 := un6 hs15
              refine J_callV (m' := 1) (ce' := 0) (sl' := 0) (gr := []) (gs' := fun _ => [gWy d h0 x0_edgeA x0_edgeB x0_edgeCost x0_edgeLine x0_change g1 g41 g42 g43 g44 g45 g46 x0_edgeCount g2]) (st' := fun _ => [.int v39]) (st := []) hK dX5_trace_98 cv_RX5_94 iv_yX5_stepOn (As := [.int z16, .long z17]) (kX5_stepOn _ d h0 n x0_edgeA x0_edgeB x0_edgeCost x0_edgeLine x0_change g1 z19 z20 z21 z22 z23 z24 x0_edgeCount g2 z16 z17 e47) rfl rfl (Nat.le_of_ble_eq_true rfl) (by decide) 0 0 rfl rfl rfl [0] [] rfl rfl rfl rfl [0] rfl (fun _ => rfl) (fun _ => rfl) rfl rfl rfl (fun _ => rfl) (fun _ => ?_)
              refine J_istore (L' := [(5, .int v39), (0, .ref (h0 0)), (2, .int p2), (6, .long z17), (8, .int z18)]) hK dX5_trace_101 rfl (by decide) rfl ?_
              refine J_iload hK dX5_trace_103 rfl 0 rfl ?_
              refine J_iconst (v := (-1)) hK dX5_trace_105 rfl (by decide) ?_
              refine J_icmp_ne (tg := 111) hK dX5_trace_106 rfl rfl (fun hc106 => ?_) (fun hc106 => ?_)
              · have hs15 := iq hc106 hs15
                refine J_lload hK dX5_trace_111 rfl 3 rfl ?_
                refine J_lconst (v := 1) hK dX5_trace_113 rfl (by decide) ?_
                refine J_iload hK dX5_trace_114 rfl 0 rfl ?_
                refine J_lshl hK dX5_trace_116 rfl ?_
                refine J_lor hK dX5_trace_117 rfl ?_
                obtain ⟨t48, et48, hs15⟩ := bs hs15
                refine J_nml et48 ?_
                refine J_lstore (L' := [(6, .long t48), (5, .int v39), (0, .ref (h0 0)), (2, .int p2), (8, .int z18)]) hK dX5_trace_118 rfl (by decide) rfl ?_
                refine J_iinc (L' := [(8, .int (z18 + 1)), (6, .long t48), (5, .int v39), (0, .ref (h0 0)), (2, .int p2)]) (v := (z18 + 1)) hK dX5_trace_120 rfl 4 rfl rfl (by decide) rfl ?_
                refine J_goto hK dX5_trace_123 (n := 78) rfl ?_
                exact J_loc [3, 4, 2, 1, 0] rfl (ih15 v39 t48 (z18 + 1) g41 g42 g43 g44 g45 g46 (lpc hs15 hr15))
              · have hs15 := ip hc106 hs15
                exact J_loc [] rfl (hx15_109 g41 g42 g43 g44 g45 g46 (lpx hs15 hr15))
      exact J_loc [3, 5, 2, 1, 0] rfl (lo15 n ((p1 * 3) + w9) t14 (1) g10 g11 g12 x0_open x0_openCount x0_seen hl15)
    have lo6 : ∀ (k : Nat) (z7 : Int32), lp (fX5_trace_s26 p1 g1 v4) k z7 = some e8 → J d Φ 9 [gWy d h0 x0_edgeA x0_edgeB x0_edgeCost x0_edgeLine x0_change g1 x0_steps x0_nodes (0) x0_open x0_openCount x0_seen x0_edgeCount g2] 0 0 26 [(0, .ref (h0 0)), (1, .int p1), (2, .int p2), (3, .int v4), (4, .int z7)] [] := by
      intro k
      induction k with
      | zero => intro z7 h; cases h
      | succ k ih6 =>
        intro z7 h
        obtain ⟨k2, rr6, hk2, hs6, hr6⟩ := lp_ok h
        cases hk2
        have hs6 : fX5_trace_s26 p1 g1 v4 z7 = some rr6 := hs6
        unfold fX5_trace_s26 at hs6
        refine J_iload hK dX5_trace_26 rfl 4 rfl ?_
        refine J_iconst (v := 2) hK dX5_trace_28 rfl (by decide) ?_
        refine J_icmp_ge (tg := 53) hK dX5_trace_29 rfl rfl (fun hc29 => ?_) (fun hc29 => ?_)
        · have hs6 := ip hc29 hs6
          exact J_loc [0, 1, 2, 4] rfl (hx6_53 z7 (lpx hs6 hr6))
        · have hs6 := iq hc29 hs6
          refine J_aload_n hK dX5_trace_32 rfl 0 rfl rfl ?_
          refine J_get hK fo_RX5_27 dX5_trace_33 rfl 0 0 rfl rfl rfl ?_
          refine J_iload_n hK dX5_trace_36 rfl 1 rfl rfl ?_
          refine J_iconst (v := 3) hK dX5_trace_37 rfl (by decide) ?_
          refine J_imul hK dX5_trace_38 rfl ?_
          refine J_iload hK dX5_trace_39 rfl 4 rfl ?_
          refine J_iadd hK dX5_trace_41 rfl ?_
          obtain ⟨v49, ev49, hs6⟩ := bs hs6
          refine J_iald hK dX5_trace_42 rfl 0 6 rfl rfl ev49 ?_
          refine J_iload_n hK dX5_trace_43 rfl 3 rfl rfl ?_
          refine J_icmp_eq (tg := 53) hK dX5_trace_44 rfl rfl (fun hc44 => ?_) (fun hc44 => ?_)
          · have hs6 := ip hc44 hs6
            exact J_loc [0, 1, 2, 4] rfl (hx6_53 z7 (lpx hs6 hr6))
          · have hs6 := iq hc44 hs6
            refine J_iinc (L' := [(4, .int (z7 + 1)), (0, .ref (h0 0)), (1, .int p1), (2, .int p2), (3, .int v4)]) (v := (z7 + 1)) hK dX5_trace_47 rfl 4 rfl rfl (by decide) rfl ?_
            refine J_goto hK dX5_trace_50 (n := 26) rfl ?_
            exact J_loc [1, 2, 3, 4, 0] rfl (ih6 (z7 + 1) (lpc hs6 hr6))
    exact J_loc [2, 3, 4, 1, 0] rfl (lo6 n (0) hl6)
  · have hf := ip hc18 hf
    refine J_iconst (v := 0) hK dX5_trace_21 rfl (by decide) ?_
    obtain rfl := Option.some.inj hf
    exact J_zret hK hR dX5_trace_22 () rfl rfl (by decide) (by decide)

def fX5_lineOn (X0 : WyT) (p1 : Int32) : Option (Int32) :=
  u14 (fun (x0_edgeA : (Nat → Int32)) (x0_edgeB : (Nat → Int32)) (x0_edgeCost : (Nat → Int32)) (x0_edgeLine : (Nat → Int32)) (x0_change : (Nat → Int32)) (x0_away : (Nat → Int32)) (x0_steps : (Nat → Int32)) (x0_nodes : (Nat → Int32)) (x0_stepCount : Int32) (x0_open : (Nat → Int32)) (x0_openCount : Int32) (x0_seen : Int64) (x0_edgeCount : Int32) (x0_aim : Int32) => (fX6_within p1 (1) (x0_stepCount - 1)).bind (fun v1 => if v1 = 0 then (some (-1)) else ((rd 36 x0_steps p1).bind fun v3 => if v3 < 3 then (some (-1)) else ((rd 36 x0_steps p1).bind fun v4 => some (v4 - 3))))) X0
set_option maxHeartbeats 4000000 in
set_option maxRecDepth 100000 in
theorem kX5_lineOn (l : Launch) (d : DT) (h0 : Nat → Nat) (x0_edgeA : (Nat → Int32)) (x0_edgeB : (Nat → Int32)) (x0_edgeCost : (Nat → Int32)) (x0_edgeLine : (Nat → Int32)) (x0_change : (Nat → Int32)) (x0_away : (Nat → Int32)) (x0_steps : (Nat → Int32)) (x0_nodes : (Nat → Int32)) (x0_stepCount : Int32) (x0_open : (Nat → Int32)) (x0_openCount : Int32) (x0_seen : Int64) (x0_edgeCount : Int32) (x0_aim : Int32) (p1 : Int32)  {out : Int32} (hf : fX5_lineOn (x0_edgeA, x0_edgeB, x0_edgeCost, x0_edgeLine, x0_change, x0_away, x0_steps, x0_nodes, x0_stepCount, x0_open, x0_openCount, x0_seen, x0_edgeCount, x0_aim) p1 = some out) : Ct l d yX5_lineOn cX5_lineOn 2 (some .int) { frames := 1, cells := 0, slots := 0, locals := 22 } [.ref (h0 0), .int p1] [gWy d h0 x0_edgeA x0_edgeB x0_edgeCost x0_edgeLine x0_change x0_away x0_steps x0_nodes x0_stepCount x0_open x0_openCount x0_seen x0_edgeCount x0_aim] (fun _ : Unit => (some (.int out), [gWy d h0 x0_edgeA x0_edgeB x0_edgeCost x0_edgeLine x0_change x0_away x0_steps x0_nodes x0_stepCount x0_open x0_openCount x0_seen x0_edgeCount x0_aim])) := by
  refine Ct.of (by decide) (Nat.le_of_ble_eq_true rfl) ?_
  intro Φ hl hK hR
  subst hl
  have hK : Ok d Φ RX5 "lineOn" cX5_lineOn 2 (some .int) { frames := 1, cells := 0, slots := 0, locals := 22 } := hK
  unfold fX5_lineOn at hf
  have hf := un14 hf
  show J d Φ 2 [gWy d h0 x0_edgeA x0_edgeB x0_edgeCost x0_edgeLine x0_change x0_away x0_steps x0_nodes x0_stepCount x0_open x0_openCount x0_seen x0_edgeCount x0_aim] 0 0 0 [(0, .ref (h0 0)), (1, .int p1)] []
  refine J_iload_n hK dX5_lineOn_0 rfl 1 rfl rfl ?_
  refine J_iconst (v := 1) hK dX5_lineOn_1 rfl (by decide) ?_
  refine J_aload_n hK dX5_lineOn_2 rfl 0 rfl rfl ?_
  refine J_get hK fo_RX5_79 dX5_lineOn_3 rfl 0 0 rfl rfl rfl ?_
  refine J_iconst (v := 1) hK dX5_lineOn_6 rfl (by decide) ?_
  refine J_isub hK dX5_lineOn_7 rfl ?_
  obtain ⟨v1, e2, hf⟩ := bs hf
  refine J_callN (m' := 1) (ce' := 0) (sl' := 0) (gr := [gWy d h0 x0_edgeA x0_edgeB x0_edgeCost x0_edgeLine x0_change x0_away x0_steps x0_nodes x0_stepCount x0_open x0_openCount x0_seen x0_edgeCount x0_aim]) (gs' := fun _ => [gWy d h0 x0_edgeA x0_edgeB x0_edgeCost x0_edgeLine x0_change x0_away x0_steps x0_nodes x0_stepCount x0_open x0_openCount x0_seen x0_edgeCount x0_aim]) (st' := fun _ => [.int v1]) (st := []) hK dX5_lineOn_8 cn_RX5_120 (As := [.int p1, .int (1), .int (x0_stepCount - 1)]) (kX6_within _ d p1 (1) (x0_stepCount - 1) e2) rfl rfl (Nat.le_of_ble_eq_true rfl) (by decide) [] [0] rfl rfl rfl rfl [0] rfl (fun _ => rfl) (fun _ => rfl) rfl rfl rfl (fun _ => rfl) (fun _ => ?_)
  refine J_if_eq (tg := 35) hK dX5_lineOn_11 rfl rfl (fun hc11 => ?_) (fun hc11 => ?_)
  · have hf := ip hc11 hf
    refine J_iconst (v := (-1)) hK dX5_lineOn_35 rfl (by decide) ?_
    obtain rfl := Option.some.inj hf
    exact J_iret hK hR dX5_lineOn_36 () rfl (by decide) (by decide)
  · have hf := iq hc11 hf
    refine J_aload_n hK dX5_lineOn_14 rfl 0 rfl rfl ?_
    refine J_get hK fo_RX5_30 dX5_lineOn_15 rfl 0 0 rfl rfl rfl ?_
    refine J_iload_n hK dX5_lineOn_18 rfl 1 rfl rfl ?_
    obtain ⟨v3, ev3, hf⟩ := bs hf
    refine J_iald hK dX5_lineOn_19 rfl 0 7 rfl rfl ev3 ?_
    refine J_iconst (v := 3) hK dX5_lineOn_20 rfl (by decide) ?_
    refine J_icmp_lt (tg := 35) hK dX5_lineOn_21 rfl rfl (fun hc21 => ?_) (fun hc21 => ?_)
    · have hf := ip hc21 hf
      refine J_iconst (v := (-1)) hK dX5_lineOn_35 rfl (by decide) ?_
      obtain rfl := Option.some.inj hf
      exact J_iret hK hR dX5_lineOn_36 () rfl (by decide) (by decide)
    · have hf := iq hc21 hf
      refine J_aload_n hK dX5_lineOn_24 rfl 0 rfl rfl ?_
      refine J_get hK fo_RX5_30 dX5_lineOn_25 rfl 0 0 rfl rfl rfl ?_
      refine J_iload_n hK dX5_lineOn_28 rfl 1 rfl rfl ?_
      obtain ⟨v4, ev4, hf⟩ := bs hf
      refine J_iald hK dX5_lineOn_29 rfl 0 7 rfl rfl ev4 ?_
      refine J_iconst (v := 3) hK dX5_lineOn_30 rfl (by decide) ?_
      refine J_isub hK dX5_lineOn_31 rfl ?_
      refine J_goto hK dX5_lineOn_32 (n := 36) rfl ?_
      obtain rfl := Option.some.inj hf
      exact J_iret hK hR dX5_lineOn_36 () rfl (by decide) (by decide)

def fX4_payOwners_s3 (p2 : Int32) (m3 : Nat) (x1_edgeA : (Nat → Int32)) (x1_edgeB : (Nat → Int32)) (x1_edgeCost : (Nat → Int32)) (x1_edgeLine : (Nat → Int32)) (x1_change : (Nat → Int32)) (x1_away : (Nat → Int32)) (x1_steps : (Nat → Int32)) (x1_nodes : (Nat → Int32)) (x1_stepCount : Int32) (x1_open : (Nat → Int32)) (x1_openCount : Int32) (x1_seen : Int64) (x1_edgeCount : Int32) (x1_aim : Int32) (x2_lineCount : Int32) (x2_goodsCount : Int32) (x2_workCount : Int32) (x2_years : Int32) (x2_lines : (Nat → Int32)) (x2_goods : (Nat → Int32)) (x2_works : (Nat → Int32)) (x2_change : (Nat → Int32)) (x2_coin : (Nat → Int32)) (x2_knownFree : (Nat → Int32)) (x2_isKnown : Int32) (z2 : Int32) (z3 : (Nat → Int32)) : Option ((Int32 × (Nat → Int32)) ⊕ ((Nat → Int32))) :=
  if x1_stepCount ≤ z2 then (some (.inr z3)) else ((fX5_lineOn (x1_edgeA, x1_edgeB, x1_edgeCost, x1_edgeLine, x1_change, x1_away, x1_steps, x1_nodes, x1_stepCount, x1_open, x1_openCount, x1_seen, x1_edgeCount, x1_aim) z2).bind (fun v6 => (fX1_hasLine (x2_lineCount, x2_goodsCount, x2_workCount, x2_years, x2_lines, x2_goods, x2_works, x2_change, x2_coin, x2_knownFree, x2_isKnown) v6).bind (fun v8 => if v8 = 0 then (some (.inl ((z2 + 1), z3))) else ((fX1_ofLine (x2_lineCount, x2_goodsCount, x2_workCount, x2_years, x2_lines, x2_goods, x2_works, x2_change, x2_coin, x2_knownFree, x2_isKnown) v6 (5)).bind (fun v10 => (rd m3 z3 v10).bind fun v12 => (fX1_ofLine (x2_lineCount, x2_goodsCount, x2_workCount, x2_years, x2_lines, x2_goods, x2_works, x2_change, x2_coin, x2_knownFree, x2_isKnown) v6 (3)).bind (fun v13 => (wr m3 z3 v10 (v12 + (p2 * v13))).bind fun f15 => some (.inl ((z2 + 1), f15))))))))
def fX4_payOwners (n : Nat) (X0 : TrT) (X1 : WyT) (X2 : LdT) (p2 : Int32) (m3 : Nat) (p3 : (Nat → Int32)) : Option ((Nat → Int32)) :=
  u4 (fun (x0_left : (Nat → Int32)) (x0_earned : (Nat → Int32)) (x0_turnCost : Int32) (x0_turnWayless : Int32) => u14 (fun (x1_edgeA : (Nat → Int32)) (x1_edgeB : (Nat → Int32)) (x1_edgeCost : (Nat → Int32)) (x1_edgeLine : (Nat → Int32)) (x1_change : (Nat → Int32)) (x1_away : (Nat → Int32)) (x1_steps : (Nat → Int32)) (x1_nodes : (Nat → Int32)) (x1_stepCount : Int32) (x1_open : (Nat → Int32)) (x1_openCount : Int32) (x1_seen : Int64) (x1_edgeCount : Int32) (x1_aim : Int32) => u11 (fun (x2_lineCount : Int32) (x2_goodsCount : Int32) (x2_workCount : Int32) (x2_years : Int32) (x2_lines : (Nat → Int32)) (x2_goods : (Nat → Int32)) (x2_works : (Nat → Int32)) (x2_change : (Nat → Int32)) (x2_coin : (Nat → Int32)) (x2_knownFree : (Nat → Int32)) (x2_isKnown : Int32) => (lp (u2 (fX4_payOwners_s3 p2 m3 x1_edgeA x1_edgeB x1_edgeCost x1_edgeLine x1_change x1_away x1_steps x1_nodes x1_stepCount x1_open x1_openCount x1_seen x1_edgeCount x1_aim x2_lineCount x2_goodsCount x2_workCount x2_years x2_lines x2_goods x2_works x2_change x2_coin x2_knownFree x2_isKnown)) n (1, p3)).bind (fun w5 => some w5)) X2) X1) X0
set_option maxHeartbeats 4000000 in
set_option maxRecDepth 100000 in
theorem kX4_payOwners (l : Launch) (d : DT) (h0 : Nat → Nat) (h1 : Nat → Nat) (h2 : Nat → Nat) (b3 : Nat) (n : Nat) (x0_left : (Nat → Int32)) (x0_earned : (Nat → Int32)) (x0_turnCost : Int32) (x0_turnWayless : Int32) (x1_edgeA : (Nat → Int32)) (x1_edgeB : (Nat → Int32)) (x1_edgeCost : (Nat → Int32)) (x1_edgeLine : (Nat → Int32)) (x1_change : (Nat → Int32)) (x1_away : (Nat → Int32)) (x1_steps : (Nat → Int32)) (x1_nodes : (Nat → Int32)) (x1_stepCount : Int32) (x1_open : (Nat → Int32)) (x1_openCount : Int32) (x1_seen : Int64) (x1_edgeCount : Int32) (x1_aim : Int32) (x2_lineCount : Int32) (x2_goodsCount : Int32) (x2_workCount : Int32) (x2_years : Int32) (x2_lines : (Nat → Int32)) (x2_goods : (Nat → Int32)) (x2_works : (Nat → Int32)) (x2_change : (Nat → Int32)) (x2_coin : (Nat → Int32)) (x2_knownFree : (Nat → Int32)) (x2_isKnown : Int32) (p2 : Int32) (m3 : Nat) (p3 : (Nat → Int32))  {out : (Nat → Int32)} (hf : fX4_payOwners n (x0_left, x0_earned, x0_turnCost, x0_turnWayless) (x1_edgeA, x1_edgeB, x1_edgeCost, x1_edgeLine, x1_change, x1_away, x1_steps, x1_nodes, x1_stepCount, x1_open, x1_openCount, x1_seen, x1_edgeCount, x1_aim) (x2_lineCount, x2_goodsCount, x2_workCount, x2_years, x2_lines, x2_goods, x2_works, x2_change, x2_coin, x2_knownFree, x2_isKnown) p2 m3 p3 = some out) : Ct l d yX4_payOwners cX4_payOwners 6 none { frames := 2, cells := 0, slots := 0, locals := 43 } [.ref (h0 0), .ref (h2 0), .int p2, .ref b3] [gTr d h0 (h1 0) x0_left x0_earned x0_turnCost x0_turnWayless, gWy d h1 x1_edgeA x1_edgeB x1_edgeCost x1_edgeLine x1_change x1_away x1_steps x1_nodes x1_stepCount x1_open x1_openCount x1_seen x1_edgeCount x1_aim, gLd d h2 x2_lineCount x2_goodsCount x2_workCount x2_years x2_lines x2_goods x2_works x2_change x2_coin x2_knownFree x2_isKnown, [cI d b3 m3 p3]] (fun _ : Unit => (none, [gTr d h0 (h1 0) x0_left x0_earned x0_turnCost x0_turnWayless, gWy d h1 x1_edgeA x1_edgeB x1_edgeCost x1_edgeLine x1_change x1_away x1_steps x1_nodes x1_stepCount x1_open x1_openCount x1_seen x1_edgeCount x1_aim, gLd d h2 x2_lineCount x2_goodsCount x2_workCount x2_years x2_lines x2_goods x2_works x2_change x2_coin x2_knownFree x2_isKnown, [cI d b3 m3 out]])) := by
  refine Ct.of (by decide) (Nat.le_of_ble_eq_true rfl) ?_
  intro Φ hl hK hR
  subst hl
  have hK : Ok d Φ RX4 "payOwners" cX4_payOwners 6 none { frames := 2, cells := 0, slots := 0, locals := 43 } := hK
  unfold fX4_payOwners at hf
  have hf := un4 hf
  have hf := un14 hf
  have hf := un11 hf
  show J d Φ 6 [gTr d h0 (h1 0) x0_left x0_earned x0_turnCost x0_turnWayless, gWy d h1 x1_edgeA x1_edgeB x1_edgeCost x1_edgeLine x1_change x1_away x1_steps x1_nodes x1_stepCount x1_open x1_openCount x1_seen x1_edgeCount x1_aim, gLd d h2 x2_lineCount x2_goodsCount x2_workCount x2_years x2_lines x2_goods x2_works x2_change x2_coin x2_knownFree x2_isKnown, [cI d b3 m3 p3]] 0 0 0 [(0, .ref (h0 0)), (1, .ref (h2 0)), (2, .int p2), (3, .ref b3)] []
  refine J_iconst (v := 1) hK dX4_payOwners_0 rfl (by decide) ?_
  refine J_istore (L' := [(4, .int (1)), (0, .ref (h0 0)), (1, .ref (h2 0)), (2, .int p2), (3, .ref b3)]) hK dX4_payOwners_1 rfl (by decide) rfl ?_
  obtain ⟨e4, hl1, hf⟩ := bs hf
  have hx1_62 : ∀ (w5 : (Nat → Int32)), w5 = e4 → J d Φ 6 [gTr d h0 (h1 0) x0_left x0_earned x0_turnCost x0_turnWayless, gWy d h1 x1_edgeA x1_edgeB x1_edgeCost x1_edgeLine x1_change x1_away x1_steps x1_nodes x1_stepCount x1_open x1_openCount x1_seen x1_edgeCount x1_aim, gLd d h2 x2_lineCount x2_goodsCount x2_workCount x2_years x2_lines x2_goods x2_works x2_change x2_coin x2_knownFree x2_isKnown, [cI d b3 m3 w5]] 0 0 62 [] [] := by
    intro w5 he
    rw [← he] at hf
    obtain rfl := Option.some.inj hf
    exact J_vret hK hR dX4_payOwners_62 () rfl (by decide) (by decide)
  have lo1 : ∀ (k : Nat) (z2 : Int32) (z3 : (Nat → Int32)), lp (u2 (fX4_payOwners_s3 p2 m3 x1_edgeA x1_edgeB x1_edgeCost x1_edgeLine x1_change x1_away x1_steps x1_nodes x1_stepCount x1_open x1_openCount x1_seen x1_edgeCount x1_aim x2_lineCount x2_goodsCount x2_workCount x2_years x2_lines x2_goods x2_works x2_change x2_coin x2_knownFree x2_isKnown)) k (z2, z3) = some e4 → J d Φ 6 [gTr d h0 (h1 0) x0_left x0_earned x0_turnCost x0_turnWayless, gWy d h1 x1_edgeA x1_edgeB x1_edgeCost x1_edgeLine x1_change x1_away x1_steps x1_nodes x1_stepCount x1_open x1_openCount x1_seen x1_edgeCount x1_aim, gLd d h2 x2_lineCount x2_goodsCount x2_workCount x2_years x2_lines x2_goods x2_works x2_change x2_coin x2_knownFree x2_isKnown, [cI d b3 m3 z3]] 0 0 3 [(0, .ref (h0 0)), (1, .ref (h2 0)), (2, .int p2), (3, .ref b3), (4, .int z2)] [] := by
    intro k
    induction k with
    | zero => intro z2 z3 h; cases h
    | succ k ih1 =>
      intro z2 z3 h
      obtain ⟨k2, rr1, hk2, hs1, hr1⟩ := lp_ok h
      cases hk2
      have hs1 : fX4_payOwners_s3 p2 m3 x1_edgeA x1_edgeB x1_edgeCost x1_edgeLine x1_change x1_away x1_steps x1_nodes x1_stepCount x1_open x1_openCount x1_seen x1_edgeCount x1_aim x2_lineCount x2_goodsCount x2_workCount x2_years x2_lines x2_goods x2_works x2_change x2_coin x2_knownFree x2_isKnown z2 z3 = some rr1 := hs1
      unfold fX4_payOwners_s3 at hs1
      refine J_iload hK dX4_payOwners_3 rfl 4 rfl ?_
      refine J_aload_n hK dX4_payOwners_5 rfl 0 rfl rfl ?_
      refine J_get hK fo_RX4_12 dX4_payOwners_6 rfl 0 0 rfl rfl rfl ?_
      refine J_get hK fo_RX4_74 dX4_payOwners_9 rfl 1 0 rfl rfl rfl ?_
      refine J_icmp_ge (tg := 62) hK dX4_payOwners_12 rfl rfl (fun hc12 => ?_) (fun hc12 => ?_)
      · have hs1 := ip hc12 hs1
        exact J_loc [] rfl (hx1_62 z3 (lpx hs1 hr1))
      · have hs1 := iq hc12 hs1
        refine J_aload_n hK dX4_payOwners_15 rfl 0 rfl rfl ?_
        refine J_get hK fo_RX4_12 dX4_payOwners_16 rfl 0 0 rfl rfl rfl ?_
        refine J_iload hK dX4_payOwners_19 rfl 4 rfl ?_
        obtain ⟨v6, e7, hs1⟩ := bs hs1
        refine J_callV (m' := 4) (ce' := 0) (sl' := 0) (gr := [gTr d h0 (h1 0) x0_left x0_earned x0_turnCost x0_turnWayless, gLd d h2 x2_lineCount x2_goodsCount x2_workCount x2_years x2_lines x2_goods x2_works x2_change x2_coin x2_knownFree x2_isKnown, [cI d b3 m3 z3]]) (gs' := fun _ => [gTr d h0 (h1 0) x0_left x0_earned x0_turnCost x0_turnWayless, gWy d h1 x1_edgeA x1_edgeB x1_edgeCost x1_edgeLine x1_change x1_away x1_steps x1_nodes x1_stepCount x1_open x1_openCount x1_seen x1_edgeCount x1_aim, gLd d h2 x2_lineCount x2_goodsCount x2_workCount x2_years x2_lines x2_goods x2_works x2_change x2_coin x2_knownFree x2_isKnown, [cI d b3 m3 z3]]) (st' := fun _ => [.int v6]) (st := []) hK dX4_payOwners_21 cv_RX4_77 iv_yX5_lineOn (As := [.int z2]) (kX5_lineOn _ d h1 x1_edgeA x1_edgeB x1_edgeCost x1_edgeLine x1_change x1_away x1_steps x1_nodes x1_stepCount x1_open x1_openCount x1_seen x1_edgeCount x1_aim z2 e7) rfl rfl (Nat.le_of_ble_eq_true rfl) (by decide) 1 0 rfl rfl rfl [1] [0, 2, 3] rfl rfl rfl rfl [0, 3, 1, 2] rfl (fun _ => rfl) (fun _ => rfl) rfl rfl rfl (fun _ => rfl) (fun _ => ?_)
        refine J_istore (L' := [(5, .int v6), (0, .ref (h0 0)), (1, .ref (h2 0)), (2, .int p2), (3, .ref b3), (4, .int z2)]) hK dX4_payOwners_24 rfl (by decide) rfl ?_
        refine J_aload_n hK dX4_payOwners_26 rfl 2 rfl rfl ?_
        refine J_iload hK dX4_payOwners_27 rfl 0 rfl ?_
        obtain ⟨v8, e9, hs1⟩ := bs hs1
        refine J_callV (m' := 4) (ce' := 0) (sl' := 0) (gr := [gTr d h0 (h1 0) x0_left x0_earned x0_turnCost x0_turnWayless, gWy d h1 x1_edgeA x1_edgeB x1_edgeCost x1_edgeLine x1_change x1_away x1_steps x1_nodes x1_stepCount x1_open x1_openCount x1_seen x1_edgeCount x1_aim, [cI d b3 m3 z3]]) (gs' := fun _ => [gTr d h0 (h1 0) x0_left x0_earned x0_turnCost x0_turnWayless, gWy d h1 x1_edgeA x1_edgeB x1_edgeCost x1_edgeLine x1_change x1_away x1_steps x1_nodes x1_stepCount x1_open x1_openCount x1_seen x1_edgeCount x1_aim, gLd d h2 x2_lineCount x2_goodsCount x2_workCount x2_years x2_lines x2_goods x2_works x2_change x2_coin x2_knownFree x2_isKnown, [cI d b3 m3 z3]]) (st' := fun _ => [.int v8]) (st := []) hK dX4_payOwners_29 cv_RX4_95 iv_yX1_hasLine (As := [.int v6]) (kX1_hasLine _ d h2 x2_lineCount x2_goodsCount x2_workCount x2_years x2_lines x2_goods x2_works x2_change x2_coin x2_knownFree x2_isKnown v6 e9) rfl rfl (Nat.le_of_ble_eq_true rfl) (by decide) 2 0 rfl rfl rfl [2] [0, 1, 3] rfl rfl rfl rfl [0, 1, 3, 2] rfl (fun _ => rfl) (fun _ => rfl) rfl rfl rfl (fun _ => rfl) (fun _ => ?_)
        refine J_if_eq (tg := 56) hK dX4_payOwners_32 rfl rfl (fun hc32 => ?_) (fun hc32 => ?_)
        · have hs1 := ip hc32 hs1
          refine J_iinc (L' := [(4, .int (z2 + 1)), (5, .int v6), (0, .ref (h0 0)), (1, .ref (h2 0)), (2, .int p2), (3, .ref b3)]) (v := (z2 + 1)) hK dX4_payOwners_56 rfl 5 rfl rfl (by decide) rfl ?_
          refine J_goto hK dX4_payOwners_59 (n := 3) rfl ?_
          exact J_loc [2, 3, 4, 5, 0] rfl (ih1 (z2 + 1) z3 (lpc hs1 hr1))
        · have hs1 := iq hc32 hs1
          refine J_aload_n hK dX4_payOwners_35 rfl 4 rfl rfl ?_
          refine J_aload_n hK dX4_payOwners_36 rfl 2 rfl rfl ?_
          refine J_iload hK dX4_payOwners_37 rfl 0 rfl ?_
          refine J_iconst (v := 5) hK dX4_payOwners_39 rfl (by decide) ?_
          obtain ⟨v10, e11, hs1⟩ := bs hs1
          refine J_callV (m' := 4) (ce' := 0) (sl' := 0) (gr := [gTr d h0 (h1 0) x0_left x0_earned x0_turnCost x0_turnWayless, gWy d h1 x1_edgeA x1_edgeB x1_edgeCost x1_edgeLine x1_change x1_away x1_steps x1_nodes x1_stepCount x1_open x1_openCount x1_seen x1_edgeCount x1_aim, [cI d b3 m3 z3]]) (gs' := fun _ => [gTr d h0 (h1 0) x0_left x0_earned x0_turnCost x0_turnWayless, gWy d h1 x1_edgeA x1_edgeB x1_edgeCost x1_edgeLine x1_change x1_away x1_steps x1_nodes x1_stepCount x1_open x1_openCount x1_seen x1_edgeCount x1_aim, gLd d h2 x2_lineCount x2_goodsCount x2_workCount x2_years x2_lines x2_goods x2_works x2_change x2_coin x2_knownFree x2_isKnown, [cI d b3 m3 z3]]) (st' := fun _ => [.int v10, .ref b3]) (st := [.ref b3]) hK dX4_payOwners_40 cv_RX4_60 iv_yX1_ofLine (As := [.int v6, .int (5)]) (kX1_ofLine _ d h2 x2_lineCount x2_goodsCount x2_workCount x2_years x2_lines x2_goods x2_works x2_change x2_coin x2_knownFree x2_isKnown v6 (5) e11) rfl rfl (Nat.le_of_ble_eq_true rfl) (by decide) 2 0 rfl rfl rfl [2] [0, 1, 3] rfl rfl rfl rfl [0, 1, 3, 2] rfl (fun _ => rfl) (fun _ => rfl) rfl rfl rfl (fun _ => rfl) (fun _ => ?_)
          refine J_dup2 hK dX4_payOwners_43 rfl rfl rfl ?_
          obtain ⟨v12, ev12, hs1⟩ := bs hs1
          refine J_iald hK dX4_payOwners_44 rfl 3 0 rfl rfl ev12 ?_
          refine J_iload_n hK dX4_payOwners_45 rfl 3 rfl rfl ?_
          refine J_aload_n hK dX4_payOwners_46 rfl 2 rfl rfl ?_
          refine J_iload hK dX4_payOwners_47 rfl 0 rfl ?_
          refine J_iconst (v := 3) hK dX4_payOwners_49 rfl (by decide) ?_
          obtain ⟨v13, e14, hs1⟩ := bs hs1
          refine J_callV (m' := 4) (ce' := 0) (sl' := 0) (gr := [gTr d h0 (h1 0) x0_left x0_earned x0_turnCost x0_turnWayless, gWy d h1 x1_edgeA x1_edgeB x1_edgeCost x1_edgeLine x1_change x1_away x1_steps x1_nodes x1_stepCount x1_open x1_openCount x1_seen x1_edgeCount x1_aim, [cI d b3 m3 z3]]) (gs' := fun _ => [gTr d h0 (h1 0) x0_left x0_earned x0_turnCost x0_turnWayless, gWy d h1 x1_edgeA x1_edgeB x1_edgeCost x1_edgeLine x1_change x1_away x1_steps x1_nodes x1_stepCount x1_open x1_openCount x1_seen x1_edgeCount x1_aim, gLd d h2 x2_lineCount x2_goodsCount x2_workCount x2_years x2_lines x2_goods x2_works x2_change x2_coin x2_knownFree x2_isKnown, [cI d b3 m3 z3]]) (st' := fun _ => [.int v13, .int p2, .int v12, .int v10, .ref b3]) (st := [.int p2, .int v12, .int v10, .ref b3]) hK dX4_payOwners_50 cv_RX4_60 iv_yX1_ofLine (As := [.int v6, .int (3)]) (kX1_ofLine _ d h2 x2_lineCount x2_goodsCount x2_workCount x2_years x2_lines x2_goods x2_works x2_change x2_coin x2_knownFree x2_isKnown v6 (3) e14) rfl rfl (Nat.le_of_ble_eq_true rfl) (by decide) 2 0 rfl rfl rfl [2] [0, 1, 3] rfl rfl rfl rfl [0, 1, 3, 2] rfl (fun _ => rfl) (fun _ => rfl) rfl rfl rfl (fun _ => rfl) (fun _ => ?_)
          refine J_imul hK dX4_payOwners_53 rfl ?_
          refine J_iadd hK dX4_payOwners_54 rfl ?_
          obtain ⟨f15, ef15, hs1⟩ := bs hs1
          refine J_iast (g' := [cI d b3 m3 f15]) (gs' := [gTr d h0 (h1 0) x0_left x0_earned x0_turnCost x0_turnWayless, gWy d h1 x1_edgeA x1_edgeB x1_edgeCost x1_edgeLine x1_change x1_away x1_steps x1_nodes x1_stepCount x1_open x1_openCount x1_seen x1_edgeCount x1_aim, gLd d h2 x2_lineCount x2_goodsCount x2_workCount x2_years x2_lines x2_goods x2_works x2_change x2_coin x2_knownFree x2_isKnown, [cI d b3 m3 f15]]) hK dX4_payOwners_55 rfl 3 0 rfl rfl ef15 rfl rfl ?_
          refine J_iinc (L' := [(4, .int (z2 + 1)), (5, .int v6), (0, .ref (h0 0)), (1, .ref (h2 0)), (2, .int p2), (3, .ref b3)]) (v := (z2 + 1)) hK dX4_payOwners_56 rfl 5 rfl rfl (by decide) rfl ?_
          refine J_goto hK dX4_payOwners_59 (n := 3) rfl ?_
          exact J_loc [2, 3, 4, 5, 0] rfl (ih1 (z2 + 1) f15 (lpc hs1 hr1))
  exact J_loc [1, 2, 3, 4, 0] rfl (lo1 n (1) p3 hl1)

def fX4_earn_s19 (n : Nat) (m2 : Nat) (x0_left : (Nat → Int32)) (x0_earned : (Nat → Int32)) (x0_turnCost : Int32) (x0_turnWayless : Int32) (x2_lineCount : Int32) (x2_goodsCount : Int32) (x2_workCount : Int32) (x2_years : Int32) (x2_lines : (Nat → Int32)) (x2_goods : (Nat → Int32)) (x2_works : (Nat → Int32)) (x2_change : (Nat → Int32)) (x2_coin : (Nat → Int32)) (x2_knownFree : (Nat → Int32)) (x2_isKnown : Int32) (g6 : (Nat → Int32)) (g7 : (Nat → Int32)) (g8 : (Nat → Int32)) (g9 : (Nat → Int32)) (g10 : (Nat → Int32)) (g11 : Int32) (z15 : Int32) (z16 : (Nat → Int32)) (z17 : (Nat → Int32)) (z18 : (Nat → Int32)) (z19 : Int32) (z20 : (Nat → Int32)) (z21 : Int32) (z22 : Int64) (z23 : Int32) (z24 : (Nat → Int32)) : Option ((Int32 × (Nat → Int32) × (Nat → Int32) × (Nat → Int32) × Int32 × (Nat → Int32) × Int32 × Int64 × Int32 × (Nat → Int32)) ⊕ ((Nat → Int32) × (Nat → Int32) × (Nat → Int32) × Int32 × (Nat → Int32) × Int32 × Int64 × Int32 × (Nat → Int32))) :=
  if x2_goodsCount ≤ z15 then (some (.inr (z16, z17, z18, z19, z20, z21, z22, z23, z24))) else ((fX1_ofGoods (x2_lineCount, x2_goodsCount, x2_workCount, x2_years, x2_lines, x2_goods, x2_works, x2_change, x2_coin, x2_knownFree, x2_isKnown) z15 (0)).bind (fun v35 => (fX1_ofGoods (x2_lineCount, x2_goodsCount, x2_workCount, x2_years, x2_lines, x2_goods, x2_works, x2_change, x2_coin, x2_knownFree, x2_isKnown) z15 (1)).bind (fun v37 => (fX5_trace n (g6, g7, g8, g9, g10, z16, z17, z18, z19, z20, z21, z22, g11, z23) v35 v37).bind (u2 fun v39 G40 => u8 (fun g41 g42 g43 g44 g45 g46 g47 g48 => if v39 = 0 then (some (.inl ((z15 + 1), g41, g42, g43, g44, g45, g46, g47, g48, z24))) else ((fX1_ofGoods (x2_lineCount, x2_goodsCount, x2_workCount, x2_years, x2_lines, x2_goods, x2_works, x2_change, x2_coin, x2_knownFree, x2_isKnown) z15 (2)).bind (fun v50 => (fX4_payOwners n (x0_left, x0_earned, x0_turnCost, x0_turnWayless) (g6, g7, g8, g9, g10, g41, g42, g43, g44, g45, g46, g47, g11, g48) (x2_lineCount, x2_goodsCount, x2_workCount, x2_years, x2_lines, x2_goods, x2_works, x2_change, x2_coin, x2_knownFree, x2_isKnown) v50 m2 z24).bind (fun g52 => some (.inl ((z15 + 1), g41, g42, g43, g44, g45, g46, g47, g48, g52)))))) G40))))
def fX4_earn (n : Nat) (X0 : TrT) (X1 : WyT) (X2 : LdT) (m2 : Nat) (p2 : (Nat → Int32)) : Option (((Nat → Int32) × (Nat → Int32) × (Nat → Int32) × (Nat → Int32) × (Nat → Int32) × (Nat → Int32) × (Nat → Int32) × (Nat → Int32) × Int32 × (Nat → Int32) × Int32 × Int64 × Int32 × Int32) × (Nat → Int32)) :=
  u4 (fun (x0_left : (Nat → Int32)) (x0_earned : (Nat → Int32)) (x0_turnCost : Int32) (x0_turnWayless : Int32) => u14 (fun (x1_edgeA : (Nat → Int32)) (x1_edgeB : (Nat → Int32)) (x1_edgeCost : (Nat → Int32)) (x1_edgeLine : (Nat → Int32)) (x1_change : (Nat → Int32)) (x1_away : (Nat → Int32)) (x1_steps : (Nat → Int32)) (x1_nodes : (Nat → Int32)) (x1_stepCount : Int32) (x1_open : (Nat → Int32)) (x1_openCount : Int32) (x1_seen : Int64) (x1_edgeCount : Int32) (x1_aim : Int32) => u11 (fun (x2_lineCount : Int32) (x2_goodsCount : Int32) (x2_workCount : Int32) (x2_years : Int32) (x2_lines : (Nat → Int32)) (x2_goods : (Nat → Int32)) (x2_works : (Nat → Int32)) (x2_change : (Nat → Int32)) (x2_coin : (Nat → Int32)) (x2_knownFree : (Nat → Int32)) (x2_isKnown : Int32) => (fJ7_fill_53178 n m2 p2 (0)).bind (fun g1 => (fX1_linesThere n (x2_lineCount, x2_goodsCount, x2_workCount, x2_years, x2_lines, x2_goods, x2_works, x2_change, x2_coin, x2_knownFree, x2_isKnown)).bind (fun v3 => (fX5_prepare n (x1_edgeA, x1_edgeB, x1_edgeCost, x1_edgeLine, x1_change, x1_away, x1_steps, x1_nodes, x1_stepCount, x1_open, x1_openCount, x1_seen, x1_edgeCount, x1_aim) (x2_lineCount, x2_goodsCount, x2_workCount, x2_years, x2_lines, x2_goods, x2_works, x2_change, x2_coin, x2_knownFree, x2_isKnown) v3).bind (fun G5 => u7 (fun g6 g7 g8 g9 g10 g11 g12 => (lp (u10 (fX4_earn_s19 n m2 x0_left x0_earned x0_turnCost x0_turnWayless x2_lineCount x2_goodsCount x2_workCount x2_years x2_lines x2_goods x2_works x2_change x2_coin x2_knownFree x2_isKnown g6 g7 g8 g9 g10 g11)) n (0, x1_away, x1_steps, x1_nodes, x1_stepCount, x1_open, x1_openCount, x1_seen, g12, g1)).bind (u9 fun w26 w27 w28 w29 w30 w31 w32 w33 w34 => some ((g6, g7, g8, g9, g10, w26, w27, w28, w29, w30, w31, w32, g11, w33), w34))) G5)))) X2) X1) X0
set_option maxHeartbeats 4000000 in
set_option maxRecDepth 100000 in
theorem kX4_earn (l : Launch) (d : DT) (h0 : Nat → Nat) (h1 : Nat → Nat) (h2 : Nat → Nat) (b2 : Nat) (n : Nat) (x0_left : (Nat → Int32)) (x0_earned : (Nat → Int32)) (x0_turnCost : Int32) (x0_turnWayless : Int32) (x1_edgeA : (Nat → Int32)) (x1_edgeB : (Nat → Int32)) (x1_edgeCost : (Nat → Int32)) (x1_edgeLine : (Nat → Int32)) (x1_change : (Nat → Int32)) (x1_away : (Nat → Int32)) (x1_steps : (Nat → Int32)) (x1_nodes : (Nat → Int32)) (x1_stepCount : Int32) (x1_open : (Nat → Int32)) (x1_openCount : Int32) (x1_seen : Int64) (x1_edgeCount : Int32) (x1_aim : Int32) (x2_lineCount : Int32) (x2_goodsCount : Int32) (x2_workCount : Int32) (x2_years : Int32) (x2_lines : (Nat → Int32)) (x2_goods : (Nat → Int32)) (x2_works : (Nat → Int32)) (x2_change : (Nat → Int32)) (x2_coin : (Nat → Int32)) (x2_knownFree : (Nat → Int32)) (x2_isKnown : Int32) (m2 : Nat) (p2 : (Nat → Int32))  {out : ((Nat → Int32) × (Nat → Int32) × (Nat → Int32) × (Nat → Int32) × (Nat → Int32) × (Nat → Int32) × (Nat → Int32) × (Nat → Int32) × Int32 × (Nat → Int32) × Int32 × Int64 × Int32 × Int32) × (Nat → Int32)} (hf : fX4_earn n (x0_left, x0_earned, x0_turnCost, x0_turnWayless) (x1_edgeA, x1_edgeB, x1_edgeCost, x1_edgeLine, x1_change, x1_away, x1_steps, x1_nodes, x1_stepCount, x1_open, x1_openCount, x1_seen, x1_edgeCount, x1_aim) (x2_lineCount, x2_goodsCount, x2_workCount, x2_years, x2_lines, x2_goods, x2_works, x2_change, x2_coin, x2_knownFree, x2_isKnown) m2 p2 = some out) : Ct l d yX4_earn cX4_earn 4 none { frames := 5, cells := 0, slots := 0, locals := 131 } [.ref (h0 0), .ref (h2 0), .ref b2] [gTr d h0 (h1 0) x0_left x0_earned x0_turnCost x0_turnWayless, gWy d h1 x1_edgeA x1_edgeB x1_edgeCost x1_edgeLine x1_change x1_away x1_steps x1_nodes x1_stepCount x1_open x1_openCount x1_seen x1_edgeCount x1_aim, gLd d h2 x2_lineCount x2_goodsCount x2_workCount x2_years x2_lines x2_goods x2_works x2_change x2_coin x2_knownFree x2_isKnown, [cI d b2 m2 p2]] (fun _ : Unit => (none, [gTr d h0 (h1 0) x0_left x0_earned x0_turnCost x0_turnWayless, gWy d h1 (out.1.1) (out.1.2.1) (out.1.2.2.1) (out.1.2.2.2.1) (out.1.2.2.2.2.1) (out.1.2.2.2.2.2.1) (out.1.2.2.2.2.2.2.1) (out.1.2.2.2.2.2.2.2.1) (out.1.2.2.2.2.2.2.2.2.1) (out.1.2.2.2.2.2.2.2.2.2.1) (out.1.2.2.2.2.2.2.2.2.2.2.1) (out.1.2.2.2.2.2.2.2.2.2.2.2.1) (out.1.2.2.2.2.2.2.2.2.2.2.2.2.1) (out.1.2.2.2.2.2.2.2.2.2.2.2.2.2), gLd d h2 x2_lineCount x2_goodsCount x2_workCount x2_years x2_lines x2_goods x2_works x2_change x2_coin x2_knownFree x2_isKnown, [cI d b2 m2 (out.2)]])) := by
  refine Ct.of (by decide) (Nat.le_of_ble_eq_true rfl) ?_
  intro Φ hl hK hR
  subst hl
  have hK : Ok d Φ RX4 "earn" cX4_earn 4 none { frames := 5, cells := 0, slots := 0, locals := 131 } := hK
  unfold fX4_earn at hf
  have hf := un4 hf
  have hf := un14 hf
  have hf := un11 hf
  show J d Φ 4 [gTr d h0 (h1 0) x0_left x0_earned x0_turnCost x0_turnWayless, gWy d h1 x1_edgeA x1_edgeB x1_edgeCost x1_edgeLine x1_change x1_away x1_steps x1_nodes x1_stepCount x1_open x1_openCount x1_seen x1_edgeCount x1_aim, gLd d h2 x2_lineCount x2_goodsCount x2_workCount x2_years x2_lines x2_goods x2_works x2_change x2_coin x2_knownFree x2_isKnown, [cI d b2 m2 p2]] 0 0 0 [(0, .ref (h0 0)), (1, .ref (h2 0)), (2, .ref b2)] []
  refine J_aload_n hK dX4_earn_0 rfl 2 rfl rfl ?_
  refine J_iconst (v := 0) hK dX4_earn_1 rfl (by decide) ?_
  obtain ⟨g1, e2, hf⟩ := bs hf
  refine J_callS (m' := 4) (ce' := 0) (sl' := 0) (gr := [gTr d h0 (h1 0) x0_left x0_earned x0_turnCost x0_turnWayless, gWy d h1 x1_edgeA x1_edgeB x1_edgeCost x1_edgeLine x1_change x1_away x1_steps x1_nodes x1_stepCount x1_open x1_openCount x1_seen x1_edgeCount x1_aim, gLd d h2 x2_lineCount x2_goodsCount x2_workCount x2_years x2_lines x2_goods x2_works x2_change x2_coin x2_knownFree x2_isKnown]) (gs' := fun _ => [gTr d h0 (h1 0) x0_left x0_earned x0_turnCost x0_turnWayless, gWy d h1 x1_edgeA x1_edgeB x1_edgeCost x1_edgeLine x1_change x1_away x1_steps x1_nodes x1_stepCount x1_open x1_openCount x1_seen x1_edgeCount x1_aim, gLd d h2 x2_lineCount x2_goodsCount x2_workCount x2_years x2_lines x2_goods x2_works x2_change x2_coin x2_knownFree x2_isKnown, [cI d b2 m2 g1]]) (st' := fun _ => []) (st := []) hK dX4_earn_2 cv_RX4_85 ws_yJ7_fill_53178 (As := [.ref b2, .int (0)]) (kJ7_fill_53178 _ d b2 n m2 p2 (0) e2) rfl rfl (Nat.le_of_ble_eq_true rfl) (by decide) [3] [0, 1, 2] rfl rfl rfl rfl [0, 1, 2, 3] rfl (fun _ => rfl) (fun _ => rfl) rfl rfl rfl (fun _ => rfl) (fun _ => ?_)
  refine J_aload_n hK dX4_earn_5 rfl 0 rfl rfl ?_
  refine J_get hK fo_RX4_12 dX4_earn_6 rfl 0 0 rfl rfl rfl ?_
  refine J_aload_n hK dX4_earn_9 rfl 1 rfl rfl ?_
  refine J_aload_n hK dX4_earn_10 rfl 1 rfl rfl ?_
  obtain ⟨v3, e4, hf⟩ := bs hf
  refine J_callV (m' := 4) (ce' := 0) (sl' := 0) (gr := [gTr d h0 (h1 0) x0_left x0_earned x0_turnCost x0_turnWayless, gWy d h1 x1_edgeA x1_edgeB x1_edgeCost x1_edgeLine x1_change x1_away x1_steps x1_nodes x1_stepCount x1_open x1_openCount x1_seen x1_edgeCount x1_aim, [cI d b2 m2 g1]]) (gs' := fun _ => [gTr d h0 (h1 0) x0_left x0_earned x0_turnCost x0_turnWayless, gWy d h1 x1_edgeA x1_edgeB x1_edgeCost x1_edgeLine x1_change x1_away x1_steps x1_nodes x1_stepCount x1_open x1_openCount x1_seen x1_edgeCount x1_aim, gLd d h2 x2_lineCount x2_goodsCount x2_workCount x2_years x2_lines x2_goods x2_works x2_change x2_coin x2_knownFree x2_isKnown, [cI d b2 m2 g1]]) (st' := fun _ => [.int v3, .ref (h2 0), .ref (h1 0)]) (st := [.ref (h2 0), .ref (h1 0)]) hK dX4_earn_11 cv_RX4_25 iv_yX1_linesThere (As := []) (kX1_linesThere _ d h2 n x2_lineCount x2_goodsCount x2_workCount x2_years x2_lines x2_goods x2_works x2_change x2_coin x2_knownFree x2_isKnown e4) rfl rfl (Nat.le_of_ble_eq_true rfl) (by decide) 2 0 rfl rfl rfl [2] [0, 1, 3] rfl rfl rfl rfl [0, 1, 3, 2] rfl (fun _ => rfl) (fun _ => rfl) rfl rfl rfl (fun _ => rfl) (fun _ => ?_)
  obtain ⟨⟨g6, g7, g8, g9, g10, g11, g12⟩, e13, hf⟩ := bs hf
  have hf := un7 hf
  refine J_callV (m' := 4) (ce' := 0) (sl' := 0) (gr := [gTr d h0 (h1 0) x0_left x0_earned x0_turnCost x0_turnWayless, [cI d b2 m2 g1]]) (gs' := fun _ => [gTr d h0 (h1 0) x0_left x0_earned x0_turnCost x0_turnWayless, gWy d h1 g6 g7 g8 g9 g10 x1_away x1_steps x1_nodes x1_stepCount x1_open x1_openCount x1_seen g11 g12, gLd d h2 x2_lineCount x2_goodsCount x2_workCount x2_years x2_lines x2_goods x2_works x2_change x2_coin x2_knownFree x2_isKnown, [cI d b2 m2 g1]]) (st' := fun _ => []) (st := []) hK dX4_earn_14 cv_RX4_31 iv_yX5_prepare (As := [.ref (h2 0), .int v3]) (kX5_prepare _ d h1 h2 n x1_edgeA x1_edgeB x1_edgeCost x1_edgeLine x1_change x1_away x1_steps x1_nodes x1_stepCount x1_open x1_openCount x1_seen x1_edgeCount x1_aim x2_lineCount x2_goodsCount x2_workCount x2_years x2_lines x2_goods x2_works x2_change x2_coin x2_knownFree x2_isKnown v3 e13) rfl rfl (Nat.le_of_ble_eq_true rfl) (by decide) 1 0 rfl rfl rfl [1, 2] [0, 3] rfl rfl rfl rfl [0, 2, 3, 1] rfl (fun _ => rfl) (fun _ => rfl) rfl rfl rfl (fun _ => rfl) (fun _ => ?_)
  refine J_iconst (v := 0) hK dX4_earn_17 rfl (by decide) ?_
  refine J_istore_n (L' := [(3, .int (0)), (0, .ref (h0 0)), (1, .ref (h2 0)), (2, .ref b2)]) hK dX4_earn_18 rfl rfl (by decide) rfl ?_
  obtain ⟨e25, hl14, hf⟩ := bs hf
  have hx14_67 : ∀ (w26 : (Nat → Int32)) (w27 : (Nat → Int32)) (w28 : (Nat → Int32)) (w29 : Int32) (w30 : (Nat → Int32)) (w31 : Int32) (w32 : Int64) (w33 : Int32) (w34 : (Nat → Int32)), (w26, w27, w28, w29, w30, w31, w32, w33, w34) = e25 → J d Φ 4 [gTr d h0 (h1 0) x0_left x0_earned x0_turnCost x0_turnWayless, gWy d h1 g6 g7 g8 g9 g10 w26 w27 w28 w29 w30 w31 w32 g11 w33, gLd d h2 x2_lineCount x2_goodsCount x2_workCount x2_years x2_lines x2_goods x2_works x2_change x2_coin x2_knownFree x2_isKnown, [cI d b2 m2 w34]] 0 0 67 [] [] := by
    intro w26 w27 w28 w29 w30 w31 w32 w33 w34 he
    rw [← he] at hf
    have hf := un9 hf
    obtain rfl := Option.some.inj hf
    exact J_vret hK hR dX4_earn_67 () rfl (by decide) (by decide)
  have lo14 : ∀ (k : Nat) (z15 : Int32) (z16 : (Nat → Int32)) (z17 : (Nat → Int32)) (z18 : (Nat → Int32)) (z19 : Int32) (z20 : (Nat → Int32)) (z21 : Int32) (z22 : Int64) (z23 : Int32) (z24 : (Nat → Int32)), lp (u10 (fX4_earn_s19 n m2 x0_left x0_earned x0_turnCost x0_turnWayless x2_lineCount x2_goodsCount x2_workCount x2_years x2_lines x2_goods x2_works x2_change x2_coin x2_knownFree x2_isKnown g6 g7 g8 g9 g10 g11)) k (z15, z16, z17, z18, z19, z20, z21, z22, z23, z24) = some e25 → J d Φ 4 [gTr d h0 (h1 0) x0_left x0_earned x0_turnCost x0_turnWayless, gWy d h1 g6 g7 g8 g9 g10 z16 z17 z18 z19 z20 z21 z22 g11 z23, gLd d h2 x2_lineCount x2_goodsCount x2_workCount x2_years x2_lines x2_goods x2_works x2_change x2_coin x2_knownFree x2_isKnown, [cI d b2 m2 z24]] 0 0 19 [(0, .ref (h0 0)), (1, .ref (h2 0)), (2, .ref b2), (3, .int z15)] [] := by
    intro k
    induction k with
    | zero => intro z15 z16 z17 z18 z19 z20 z21 z22 z23 z24 h; cases h
    | succ k ih14 =>
      intro z15 z16 z17 z18 z19 z20 z21 z22 z23 z24 h
      obtain ⟨k2, rr14, hk2, hs14, hr14⟩ := lp_ok h
      cases hk2
      have hs14 : fX4_earn_s19 n m2 x0_left x0_earned x0_turnCost x0_turnWayless x2_lineCount x2_goodsCount x2_workCount x2_years x2_lines x2_goods x2_works x2_change x2_coin x2_knownFree x2_isKnown g6 g7 g8 g9 g10 g11 z15 z16 z17 z18 z19 z20 z21 z22 z23 z24 = some rr14 := hs14
      unfold fX4_earn_s19 at hs14
      refine J_iload_n hK dX4_earn_19 rfl 3 rfl rfl ?_
      refine J_aload_n hK dX4_earn_20 rfl 1 rfl rfl ?_
      refine J_get hK fo_RX4_43 dX4_earn_21 rfl 2 0 rfl rfl rfl ?_
      refine J_icmp_ge (tg := 67) hK dX4_earn_24 rfl rfl (fun hc24 => ?_) (fun hc24 => ?_)
      · have hs14 := ip hc24 hs14
        exact J_loc [] rfl (hx14_67 z16 z17 z18 z19 z20 z21 z22 z23 z24 (lpx hs14 hr14))
      · have hs14 := iq hc24 hs14
        refine J_aload_n hK dX4_earn_27 rfl 0 rfl rfl ?_
        refine J_get hK fo_RX4_12 dX4_earn_28 rfl 0 0 rfl rfl rfl ?_
        refine J_aload_n hK dX4_earn_31 rfl 1 rfl rfl ?_
        refine J_iload_n hK dX4_earn_32 rfl 3 rfl rfl ?_
        refine J_iconst (v := 0) hK dX4_earn_33 rfl (by decide) ?_
        obtain ⟨v35, e36, hs14⟩ := bs hs14
        refine J_callV (m' := 4) (ce' := 0) (sl' := 0) (gr := [gTr d h0 (h1 0) x0_left x0_earned x0_turnCost x0_turnWayless, gWy d h1 g6 g7 g8 g9 g10 z16 z17 z18 z19 z20 z21 z22 g11 z23, [cI d b2 m2 z24]]) (gs' := fun _ => [gTr d h0 (h1 0) x0_left x0_earned x0_turnCost x0_turnWayless, gWy d h1 g6 g7 g8 g9 g10 z16 z17 z18 z19 z20 z21 z22 g11 z23, gLd d h2 x2_lineCount x2_goodsCount x2_workCount x2_years x2_lines x2_goods x2_works x2_change x2_coin x2_knownFree x2_isKnown, [cI d b2 m2 z24]]) (st' := fun _ => [.int v35, .ref (h1 0)]) (st := [.ref (h1 0)]) hK dX4_earn_34 cv_RX4_47 iv_yX1_ofGoods (As := [.int z15, .int (0)]) (kX1_ofGoods _ d h2 x2_lineCount x2_goodsCount x2_workCount x2_years x2_lines x2_goods x2_works x2_change x2_coin x2_knownFree x2_isKnown z15 (0) e36) rfl rfl (Nat.le_of_ble_eq_true rfl) (by decide) 2 0 rfl rfl rfl [2] [0, 1, 3] rfl rfl rfl rfl [0, 1, 3, 2] rfl (fun _ => rfl) (fun _ => rfl) rfl rfl rfl (fun _ => rfl) (fun _ => ?_)
        refine J_aload_n hK dX4_earn_37 rfl 1 rfl rfl ?_
        refine J_iload_n hK dX4_earn_38 rfl 3 rfl rfl ?_
        refine J_iconst (v := 1) hK dX4_earn_39 rfl (by decide) ?_
        obtain ⟨v37, e38, hs14⟩ := bs hs14
        refine J_callV (m' := 4) (ce' := 0) (sl' := 0) (gr := [gTr d h0 (h1 0) x0_left x0_earned x0_turnCost x0_turnWayless, gWy d h1 g6 g7 g8 g9 g10 z16 z17 z18 z19 z20 z21 z22 g11 z23, [cI d b2 m2 z24]]) (gs' := fun _ => [gTr d h0 (h1 0) x0_left x0_earned x0_turnCost x0_turnWayless, gWy d h1 g6 g7 g8 g9 g10 z16 z17 z18 z19 z20 z21 z22 g11 z23, gLd d h2 x2_lineCount x2_goodsCount x2_workCount x2_years x2_lines x2_goods x2_works x2_change x2_coin x2_knownFree x2_isKnown, [cI d b2 m2 z24]]) (st' := fun _ => [.int v37, .int v35, .ref (h1 0)]) (st := [.int v35, .ref (h1 0)]) hK dX4_earn_40 cv_RX4_47 iv_yX1_ofGoods (As := [.int z15, .int (1)]) (kX1_ofGoods _ d h2 x2_lineCount x2_goodsCount x2_workCount x2_years x2_lines x2_goods x2_works x2_change x2_coin x2_knownFree x2_isKnown z15 (1) e38) rfl rfl (Nat.le_of_ble_eq_true rfl) (by decide) 2 0 rfl rfl rfl [2] [0, 1, 3] rfl rfl rfl rfl [0, 1, 3, 2] rfl (fun _ => rfl) (fun _ => rfl) rfl rfl rfl (fun _ => rfl) (fun _ => ?_)
        obtain ⟨⟨v39, ⟨g41, g42, g43, g44, g45, g46, g47, g48⟩⟩, e49, hs14⟩ := bs hs14
        have hs14 := un2 hs14
        have hs14 := un8 hs14
        refine J_callV (m' := 4) (ce' := 0) (sl' := 0) (gr := [gTr d h0 (h1 0) x0_left x0_earned x0_turnCost x0_turnWayless, gLd d h2 x2_lineCount x2_goodsCount x2_workCount x2_years x2_lines x2_goods x2_works x2_change x2_coin x2_knownFree x2_isKnown, [cI d b2 m2 z24]]) (gs' := fun _ => [gTr d h0 (h1 0) x0_left x0_earned x0_turnCost x0_turnWayless, gWy d h1 g6 g7 g8 g9 g10 g41 g42 g43 g44 g45 g46 g47 g11 g48, gLd d h2 x2_lineCount x2_goodsCount x2_workCount x2_years x2_lines x2_goods x2_works x2_change x2_coin x2_knownFree x2_isKnown, [cI d b2 m2 z24]]) (st' := fun _ => [.int v39]) (st := []) hK dX4_earn_43 cv_RX4_67 iv_yX5_trace (As := [.int v35, .int v37]) (kX5_trace _ d h1 n g6 g7 g8 g9 g10 z16 z17 z18 z19 z20 z21 z22 g11 z23 v35 v37 e49) rfl rfl (Nat.le_of_ble_eq_true rfl) (by decide) 1 0 rfl rfl rfl [1] [0, 2, 3] rfl rfl rfl rfl [0, 3, 1, 2] rfl (fun _ => rfl) (fun _ => rfl) rfl rfl rfl (fun _ => rfl) (fun _ => ?_)
        refine J_if_eq (tg := 61) hK dX4_earn_46 rfl rfl (fun hc46 => ?_) (fun hc46 => ?_)
        · have hs14 := ip hc46 hs14
          refine J_iinc (L' := [(3, .int (z15 + 1)), (0, .ref (h0 0)), (1, .ref (h2 0)), (2, .ref b2)]) (v := (z15 + 1)) hK dX4_earn_61 rfl 3 rfl rfl (by decide) rfl ?_
          refine J_goto hK dX4_earn_64 (n := 19) rfl ?_
          exact J_loc [1, 2, 3, 0] rfl (ih14 (z15 + 1) g41 g42 g43 g44 g45 g46 g47 g48 z24 (lpc hs14 hr14))
        · have hs14 := iq hc46 hs14
          refine J_aload_n hK dX4_earn_49 rfl 0 rfl rfl ?_
          refine J_aload_n hK dX4_earn_50 rfl 1 rfl rfl ?_
          refine J_aload_n hK dX4_earn_51 rfl 1 rfl rfl ?_
          refine J_iload_n hK dX4_earn_52 rfl 3 rfl rfl ?_
          refine J_iconst (v := 2) hK dX4_earn_53 rfl (by decide) ?_
          obtain ⟨v50, e51, hs14⟩ := bs hs14
          refine J_callV (m' := 4) (ce' := 0) (sl' := 0) (gr := [gTr d h0 (h1 0) x0_left x0_earned x0_turnCost x0_turnWayless, gWy d h1 g6 g7 g8 g9 g10 g41 g42 g43 g44 g45 g46 g47 g11 g48, [cI d b2 m2 z24]]) (gs' := fun _ => [gTr d h0 (h1 0) x0_left x0_earned x0_turnCost x0_turnWayless, gWy d h1 g6 g7 g8 g9 g10 g41 g42 g43 g44 g45 g46 g47 g11 g48, gLd d h2 x2_lineCount x2_goodsCount x2_workCount x2_years x2_lines x2_goods x2_works x2_change x2_coin x2_knownFree x2_isKnown, [cI d b2 m2 z24]]) (st' := fun _ => [.int v50, .ref (h2 0), .ref (h0 0)]) (st := [.ref (h2 0), .ref (h0 0)]) hK dX4_earn_54 cv_RX4_47 iv_yX1_ofGoods (As := [.int z15, .int (2)]) (kX1_ofGoods _ d h2 x2_lineCount x2_goodsCount x2_workCount x2_years x2_lines x2_goods x2_works x2_change x2_coin x2_knownFree x2_isKnown z15 (2) e51) rfl rfl (Nat.le_of_ble_eq_true rfl) (by decide) 2 0 rfl rfl rfl [2] [0, 1, 3] rfl rfl rfl rfl [0, 1, 3, 2] rfl (fun _ => rfl) (fun _ => rfl) rfl rfl rfl (fun _ => rfl) (fun _ => ?_)
          refine J_aload_n hK dX4_earn_57 rfl 2 rfl rfl ?_
          obtain ⟨g52, e53, hs14⟩ := bs hs14
          refine J_callV (m' := 4) (ce' := 0) (sl' := 0) (gr := []) (gs' := fun _ => [gTr d h0 (h1 0) x0_left x0_earned x0_turnCost x0_turnWayless, gWy d h1 g6 g7 g8 g9 g10 g41 g42 g43 g44 g45 g46 g47 g11 g48, gLd d h2 x2_lineCount x2_goodsCount x2_workCount x2_years x2_lines x2_goods x2_works x2_change x2_coin x2_knownFree x2_isKnown, [cI d b2 m2 g52]]) (st' := fun _ => []) (st := []) hK dX4_earn_58 cv_RX4_91 iv_yX4_payOwners (As := [.ref (h2 0), .int v50, .ref b2]) (kX4_payOwners _ d h0 h1 h2 b2 n x0_left x0_earned x0_turnCost x0_turnWayless g6 g7 g8 g9 g10 g41 g42 g43 g44 g45 g46 g47 g11 g48 x2_lineCount x2_goodsCount x2_workCount x2_years x2_lines x2_goods x2_works x2_change x2_coin x2_knownFree x2_isKnown v50 m2 z24 e53) rfl rfl (Nat.le_of_ble_eq_true rfl) (by decide) 0 0 rfl rfl rfl [0, 1, 2, 3] [] rfl rfl rfl rfl [0, 1, 2, 3] rfl (fun _ => rfl) (fun _ => rfl) rfl rfl rfl (fun _ => rfl) (fun _ => ?_)
          refine J_iinc (L' := [(3, .int (z15 + 1)), (0, .ref (h0 0)), (1, .ref (h2 0)), (2, .ref b2)]) (v := (z15 + 1)) hK dX4_earn_61 rfl 3 rfl rfl (by decide) rfl ?_
          refine J_goto hK dX4_earn_64 (n := 19) rfl ?_
          exact J_loc [1, 2, 3, 0] rfl (ih14 (z15 + 1) g41 g42 g43 g44 g45 g46 g47 g48 g52 (lpc hs14 hr14))
  exact J_loc [1, 2, 3, 0] rfl (lo14 n (0) x1_away x1_steps x1_nodes x1_stepCount x1_open x1_openCount x1_seen g12 g1 hl14)

def fX4_payOwnersB_s3 (p2 : Int32) (x1_edgeA : (Nat → Int32)) (x1_edgeB : (Nat → Int32)) (x1_edgeCost : (Nat → Int32)) (x1_edgeLine : (Nat → Int32)) (x1_change : (Nat → Int32)) (x1_away : (Nat → Int32)) (x1_steps : (Nat → Int32)) (x1_nodes : (Nat → Int32)) (x1_stepCount : Int32) (x1_open : (Nat → Int32)) (x1_openCount : Int32) (x1_seen : Int64) (x1_edgeCount : Int32) (x1_aim : Int32) (x2_lineCount : Int32) (x2_goodsCount : Int32) (x2_workCount : Int32) (x2_years : Int32) (x2_lines : (Nat → Int32)) (x2_goods : (Nat → Int32)) (x2_works : (Nat → Int32)) (x2_change : (Nat → Int32)) (x2_coin : (Nat → Int32)) (x2_knownFree : (Nat → Int32)) (x2_isKnown : Int32) (z2 : Int32) (z3 : (Nat → Int32)) : Option ((Int32 × (Nat → Int32)) ⊕ ((Nat → Int32))) :=
  if x1_stepCount ≤ z2 then (some (.inr z3)) else ((fX5_lineOn (x1_edgeA, x1_edgeB, x1_edgeCost, x1_edgeLine, x1_change, x1_away, x1_steps, x1_nodes, x1_stepCount, x1_open, x1_openCount, x1_seen, x1_edgeCount, x1_aim) z2).bind (fun v6 => (fX1_hasLine (x2_lineCount, x2_goodsCount, x2_workCount, x2_years, x2_lines, x2_goods, x2_works, x2_change, x2_coin, x2_knownFree, x2_isKnown) v6).bind (fun v8 => if v8 = 0 then (some (.inl ((z2 + 1), z3))) else ((fX1_ofLine (x2_lineCount, x2_goodsCount, x2_workCount, x2_years, x2_lines, x2_goods, x2_works, x2_change, x2_coin, x2_knownFree, x2_isKnown) v6 (5)).bind (fun v10 => (rd 6 z3 v10).bind fun v12 => (fX1_ofLine (x2_lineCount, x2_goodsCount, x2_workCount, x2_years, x2_lines, x2_goods, x2_works, x2_change, x2_coin, x2_knownFree, x2_isKnown) v6 (3)).bind (fun v13 => (wr 6 z3 v10 (v12 + (p2 * v13))).bind fun f15 => some (.inl ((z2 + 1), f15))))))))
def fX4_payOwnersB (n : Nat) (X0 : TrT) (X1 : WyT) (X2 : LdT) (p2 : Int32) : Option ((Nat → Int32)) :=
  u4 (fun (x0_left : (Nat → Int32)) (x0_earned : (Nat → Int32)) (x0_turnCost : Int32) (x0_turnWayless : Int32) => u14 (fun (x1_edgeA : (Nat → Int32)) (x1_edgeB : (Nat → Int32)) (x1_edgeCost : (Nat → Int32)) (x1_edgeLine : (Nat → Int32)) (x1_change : (Nat → Int32)) (x1_away : (Nat → Int32)) (x1_steps : (Nat → Int32)) (x1_nodes : (Nat → Int32)) (x1_stepCount : Int32) (x1_open : (Nat → Int32)) (x1_openCount : Int32) (x1_seen : Int64) (x1_edgeCount : Int32) (x1_aim : Int32) => u11 (fun (x2_lineCount : Int32) (x2_goodsCount : Int32) (x2_workCount : Int32) (x2_years : Int32) (x2_lines : (Nat → Int32)) (x2_goods : (Nat → Int32)) (x2_works : (Nat → Int32)) (x2_change : (Nat → Int32)) (x2_coin : (Nat → Int32)) (x2_knownFree : (Nat → Int32)) (x2_isKnown : Int32) => (lp (u2 (fX4_payOwnersB_s3 p2 x1_edgeA x1_edgeB x1_edgeCost x1_edgeLine x1_change x1_away x1_steps x1_nodes x1_stepCount x1_open x1_openCount x1_seen x1_edgeCount x1_aim x2_lineCount x2_goodsCount x2_workCount x2_years x2_lines x2_goods x2_works x2_change x2_coin x2_knownFree x2_isKnown)) n (1, x0_earned)).bind (fun w5 => some w5)) X2) X1) X0
set_option maxHeartbeats 4000000 in
set_option maxRecDepth 100000 in
theorem kX4_payOwnersB (l : Launch) (d : DT) (h0 : Nat → Nat) (h1 : Nat → Nat) (h2 : Nat → Nat) (n : Nat) (x0_left : (Nat → Int32)) (x0_earned : (Nat → Int32)) (x0_turnCost : Int32) (x0_turnWayless : Int32) (x1_edgeA : (Nat → Int32)) (x1_edgeB : (Nat → Int32)) (x1_edgeCost : (Nat → Int32)) (x1_edgeLine : (Nat → Int32)) (x1_change : (Nat → Int32)) (x1_away : (Nat → Int32)) (x1_steps : (Nat → Int32)) (x1_nodes : (Nat → Int32)) (x1_stepCount : Int32) (x1_open : (Nat → Int32)) (x1_openCount : Int32) (x1_seen : Int64) (x1_edgeCount : Int32) (x1_aim : Int32) (x2_lineCount : Int32) (x2_goodsCount : Int32) (x2_workCount : Int32) (x2_years : Int32) (x2_lines : (Nat → Int32)) (x2_goods : (Nat → Int32)) (x2_works : (Nat → Int32)) (x2_change : (Nat → Int32)) (x2_coin : (Nat → Int32)) (x2_knownFree : (Nat → Int32)) (x2_isKnown : Int32) (p2 : Int32)  {out : (Nat → Int32)} (hf : fX4_payOwnersB n (x0_left, x0_earned, x0_turnCost, x0_turnWayless) (x1_edgeA, x1_edgeB, x1_edgeCost, x1_edgeLine, x1_change, x1_away, x1_steps, x1_nodes, x1_stepCount, x1_open, x1_openCount, x1_seen, x1_edgeCount, x1_aim) (x2_lineCount, x2_goodsCount, x2_workCount, x2_years, x2_lines, x2_goods, x2_works, x2_change, x2_coin, x2_knownFree, x2_isKnown) p2 = some out) : Ct l d yX4_payOwners cX4_payOwners 6 none { frames := 2, cells := 0, slots := 0, locals := 43 } [.ref (h0 0), .ref (h2 0), .int p2, .ref (h0 2)] [gTr d h0 (h1 0) x0_left x0_earned x0_turnCost x0_turnWayless, gWy d h1 x1_edgeA x1_edgeB x1_edgeCost x1_edgeLine x1_change x1_away x1_steps x1_nodes x1_stepCount x1_open x1_openCount x1_seen x1_edgeCount x1_aim, gLd d h2 x2_lineCount x2_goodsCount x2_workCount x2_years x2_lines x2_goods x2_works x2_change x2_coin x2_knownFree x2_isKnown] (fun _ : Unit => (none, [gTr d h0 (h1 0) x0_left out x0_turnCost x0_turnWayless, gWy d h1 x1_edgeA x1_edgeB x1_edgeCost x1_edgeLine x1_change x1_away x1_steps x1_nodes x1_stepCount x1_open x1_openCount x1_seen x1_edgeCount x1_aim, gLd d h2 x2_lineCount x2_goodsCount x2_workCount x2_years x2_lines x2_goods x2_works x2_change x2_coin x2_knownFree x2_isKnown])) := by
  refine Ct.of (by decide) (Nat.le_of_ble_eq_true rfl) ?_
  intro Φ hl hK hR
  subst hl
  have hK : Ok d Φ RX4 "payOwners" cX4_payOwners 6 none { frames := 2, cells := 0, slots := 0, locals := 43 } := hK
  unfold fX4_payOwnersB at hf
  have hf := un4 hf
  have hf := un14 hf
  have hf := un11 hf
  show J d Φ 6 [gTr d h0 (h1 0) x0_left x0_earned x0_turnCost x0_turnWayless, gWy d h1 x1_edgeA x1_edgeB x1_edgeCost x1_edgeLine x1_change x1_away x1_steps x1_nodes x1_stepCount x1_open x1_openCount x1_seen x1_edgeCount x1_aim, gLd d h2 x2_lineCount x2_goodsCount x2_workCount x2_years x2_lines x2_goods x2_works x2_change x2_coin x2_knownFree x2_isKnown] 0 0 0 [(0, .ref (h0 0)), (1, .ref (h2 0)), (2, .int p2), (3, .ref (h0 2))] []
  refine J_iconst (v := 1) hK dX4_payOwners_0 rfl (by decide) ?_
  refine J_istore (L' := [(4, .int (1)), (0, .ref (h0 0)), (1, .ref (h2 0)), (2, .int p2), (3, .ref (h0 2))]) hK dX4_payOwners_1 rfl (by decide) rfl ?_
  obtain ⟨e4, hl1, hf⟩ := bs hf
  have hx1_62 : ∀ (w5 : (Nat → Int32)), w5 = e4 → J d Φ 6 [gTr d h0 (h1 0) x0_left w5 x0_turnCost x0_turnWayless, gWy d h1 x1_edgeA x1_edgeB x1_edgeCost x1_edgeLine x1_change x1_away x1_steps x1_nodes x1_stepCount x1_open x1_openCount x1_seen x1_edgeCount x1_aim, gLd d h2 x2_lineCount x2_goodsCount x2_workCount x2_years x2_lines x2_goods x2_works x2_change x2_coin x2_knownFree x2_isKnown] 0 0 62 [] [] := by
    intro w5 he
    rw [← he] at hf
    obtain rfl := Option.some.inj hf
    exact J_vret hK hR dX4_payOwners_62 () rfl (by decide) (by decide)
  have lo1 : ∀ (k : Nat) (z2 : Int32) (z3 : (Nat → Int32)), lp (u2 (fX4_payOwnersB_s3 p2 x1_edgeA x1_edgeB x1_edgeCost x1_edgeLine x1_change x1_away x1_steps x1_nodes x1_stepCount x1_open x1_openCount x1_seen x1_edgeCount x1_aim x2_lineCount x2_goodsCount x2_workCount x2_years x2_lines x2_goods x2_works x2_change x2_coin x2_knownFree x2_isKnown)) k (z2, z3) = some e4 → J d Φ 6 [gTr d h0 (h1 0) x0_left z3 x0_turnCost x0_turnWayless, gWy d h1 x1_edgeA x1_edgeB x1_edgeCost x1_edgeLine x1_change x1_away x1_steps x1_nodes x1_stepCount x1_open x1_openCount x1_seen x1_edgeCount x1_aim, gLd d h2 x2_lineCount x2_goodsCount x2_workCount x2_years x2_lines x2_goods x2_works x2_change x2_coin x2_knownFree x2_isKnown] 0 0 3 [(0, .ref (h0 0)), (1, .ref (h2 0)), (2, .int p2), (3, .ref (h0 2)), (4, .int z2)] [] := by
    intro k
    induction k with
    | zero => intro z2 z3 h; cases h
    | succ k ih1 =>
      intro z2 z3 h
      obtain ⟨k2, rr1, hk2, hs1, hr1⟩ := lp_ok h
      cases hk2
      have hs1 : fX4_payOwnersB_s3 p2 x1_edgeA x1_edgeB x1_edgeCost x1_edgeLine x1_change x1_away x1_steps x1_nodes x1_stepCount x1_open x1_openCount x1_seen x1_edgeCount x1_aim x2_lineCount x2_goodsCount x2_workCount x2_years x2_lines x2_goods x2_works x2_change x2_coin x2_knownFree x2_isKnown z2 z3 = some rr1 := hs1
      unfold fX4_payOwnersB_s3 at hs1
      refine J_iload hK dX4_payOwners_3 rfl 4 rfl ?_
      refine J_aload_n hK dX4_payOwners_5 rfl 0 rfl rfl ?_
      refine J_get hK fo_RX4_12 dX4_payOwners_6 rfl 0 0 rfl rfl rfl ?_
      refine J_get hK fo_RX4_74 dX4_payOwners_9 rfl 1 0 rfl rfl rfl ?_
      refine J_icmp_ge (tg := 62) hK dX4_payOwners_12 rfl rfl (fun hc12 => ?_) (fun hc12 => ?_)
      · have hs1 := ip hc12 hs1
        exact J_loc [] rfl (hx1_62 z3 (lpx hs1 hr1))
      · have hs1 := iq hc12 hs1
        refine J_aload_n hK dX4_payOwners_15 rfl 0 rfl rfl ?_
        refine J_get hK fo_RX4_12 dX4_payOwners_16 rfl 0 0 rfl rfl rfl ?_
        refine J_iload hK dX4_payOwners_19 rfl 4 rfl ?_
        obtain ⟨v6, e7, hs1⟩ := bs hs1
        refine J_callV (m' := 3) (ce' := 0) (sl' := 0) (gr := [gTr d h0 (h1 0) x0_left z3 x0_turnCost x0_turnWayless, gLd d h2 x2_lineCount x2_goodsCount x2_workCount x2_years x2_lines x2_goods x2_works x2_change x2_coin x2_knownFree x2_isKnown]) (gs' := fun _ => [gTr d h0 (h1 0) x0_left z3 x0_turnCost x0_turnWayless, gWy d h1 x1_edgeA x1_edgeB x1_edgeCost x1_edgeLine x1_change x1_away x1_steps x1_nodes x1_stepCount x1_open x1_openCount x1_seen x1_edgeCount x1_aim, gLd d h2 x2_lineCount x2_goodsCount x2_workCount x2_years x2_lines x2_goods x2_works x2_change x2_coin x2_knownFree x2_isKnown]) (st' := fun _ => [.int v6]) (st := []) hK dX4_payOwners_21 cv_RX4_77 iv_yX5_lineOn (As := [.int z2]) (kX5_lineOn _ d h1 x1_edgeA x1_edgeB x1_edgeCost x1_edgeLine x1_change x1_away x1_steps x1_nodes x1_stepCount x1_open x1_openCount x1_seen x1_edgeCount x1_aim z2 e7) rfl rfl (Nat.le_of_ble_eq_true rfl) (by decide) 1 0 rfl rfl rfl [1] [0, 2] rfl rfl rfl rfl [0, 2, 1] rfl (fun _ => rfl) (fun _ => rfl) rfl rfl rfl (fun _ => rfl) (fun _ => ?_)
        refine J_istore (L' := [(5, .int v6), (0, .ref (h0 0)), (1, .ref (h2 0)), (2, .int p2), (3, .ref (h0 2)), (4, .int z2)]) hK dX4_payOwners_24 rfl (by decide) rfl ?_
        refine J_aload_n hK dX4_payOwners_26 rfl 2 rfl rfl ?_
        refine J_iload hK dX4_payOwners_27 rfl 0 rfl ?_
        obtain ⟨v8, e9, hs1⟩ := bs hs1
        refine J_callV (m' := 3) (ce' := 0) (sl' := 0) (gr := [gTr d h0 (h1 0) x0_left z3 x0_turnCost x0_turnWayless, gWy d h1 x1_edgeA x1_edgeB x1_edgeCost x1_edgeLine x1_change x1_away x1_steps x1_nodes x1_stepCount x1_open x1_openCount x1_seen x1_edgeCount x1_aim]) (gs' := fun _ => [gTr d h0 (h1 0) x0_left z3 x0_turnCost x0_turnWayless, gWy d h1 x1_edgeA x1_edgeB x1_edgeCost x1_edgeLine x1_change x1_away x1_steps x1_nodes x1_stepCount x1_open x1_openCount x1_seen x1_edgeCount x1_aim, gLd d h2 x2_lineCount x2_goodsCount x2_workCount x2_years x2_lines x2_goods x2_works x2_change x2_coin x2_knownFree x2_isKnown]) (st' := fun _ => [.int v8]) (st := []) hK dX4_payOwners_29 cv_RX4_95 iv_yX1_hasLine (As := [.int v6]) (kX1_hasLine _ d h2 x2_lineCount x2_goodsCount x2_workCount x2_years x2_lines x2_goods x2_works x2_change x2_coin x2_knownFree x2_isKnown v6 e9) rfl rfl (Nat.le_of_ble_eq_true rfl) (by decide) 2 0 rfl rfl rfl [2] [0, 1] rfl rfl rfl rfl [0, 1, 2] rfl (fun _ => rfl) (fun _ => rfl) rfl rfl rfl (fun _ => rfl) (fun _ => ?_)
        refine J_if_eq (tg := 56) hK dX4_payOwners_32 rfl rfl (fun hc32 => ?_) (fun hc32 => ?_)
        · have hs1 := ip hc32 hs1
          refine J_iinc (L' := [(4, .int (z2 + 1)), (5, .int v6), (0, .ref (h0 0)), (1, .ref (h2 0)), (2, .int p2), (3, .ref (h0 2))]) (v := (z2 + 1)) hK dX4_payOwners_56 rfl 5 rfl rfl (by decide) rfl ?_
          refine J_goto hK dX4_payOwners_59 (n := 3) rfl ?_
          exact J_loc [2, 3, 4, 5, 0] rfl (ih1 (z2 + 1) z3 (lpc hs1 hr1))
        · have hs1 := iq hc32 hs1
          refine J_aload_n hK dX4_payOwners_35 rfl 4 rfl rfl ?_
          refine J_aload_n hK dX4_payOwners_36 rfl 2 rfl rfl ?_
          refine J_iload hK dX4_payOwners_37 rfl 0 rfl ?_
          refine J_iconst (v := 5) hK dX4_payOwners_39 rfl (by decide) ?_
          obtain ⟨v10, e11, hs1⟩ := bs hs1
          refine J_callV (m' := 3) (ce' := 0) (sl' := 0) (gr := [gTr d h0 (h1 0) x0_left z3 x0_turnCost x0_turnWayless, gWy d h1 x1_edgeA x1_edgeB x1_edgeCost x1_edgeLine x1_change x1_away x1_steps x1_nodes x1_stepCount x1_open x1_openCount x1_seen x1_edgeCount x1_aim]) (gs' := fun _ => [gTr d h0 (h1 0) x0_left z3 x0_turnCost x0_turnWayless, gWy d h1 x1_edgeA x1_edgeB x1_edgeCost x1_edgeLine x1_change x1_away x1_steps x1_nodes x1_stepCount x1_open x1_openCount x1_seen x1_edgeCount x1_aim, gLd d h2 x2_lineCount x2_goodsCount x2_workCount x2_years x2_lines x2_goods x2_works x2_change x2_coin x2_knownFree x2_isKnown]) (st' := fun _ => [.int v10, .ref (h0 2)]) (st := [.ref (h0 2)]) hK dX4_payOwners_40 cv_RX4_60 iv_yX1_ofLine (As := [.int v6, .int (5)]) (kX1_ofLine _ d h2 x2_lineCount x2_goodsCount x2_workCount x2_years x2_lines x2_goods x2_works x2_change x2_coin x2_knownFree x2_isKnown v6 (5) e11) rfl rfl (Nat.le_of_ble_eq_true rfl) (by decide) 2 0 rfl rfl rfl [2] [0, 1] rfl rfl rfl rfl [0, 1, 2] rfl (fun _ => rfl) (fun _ => rfl) rfl rfl rfl (fun _ => rfl) (fun _ => ?_)
          refine J_dup2 hK dX4_payOwners_43 rfl rfl rfl ?_
          obtain ⟨v12, ev12, hs1⟩ := bs hs1
          refine J_iald hK dX4_payOwners_44 rfl 0 2 rfl rfl ev12 ?_
          refine J_iload_n hK dX4_payOwners_45 rfl 3 rfl rfl ?_
          refine J_aload_n hK dX4_payOwners_46 rfl 2 rfl rfl ?_
          refine J_iload hK dX4_payOwners_47 rfl 0 rfl ?_
          refine J_iconst (v := 3) hK dX4_payOwners_49 rfl (by decide) ?_
          obtain ⟨v13, e14, hs1⟩ := bs hs1
          refine J_callV (m' := 3) (ce' := 0) (sl' := 0) (gr := [gTr d h0 (h1 0) x0_left z3 x0_turnCost x0_turnWayless, gWy d h1 x1_edgeA x1_edgeB x1_edgeCost x1_edgeLine x1_change x1_away x1_steps x1_nodes x1_stepCount x1_open x1_openCount x1_seen x1_edgeCount x1_aim]) (gs' := fun _ => [gTr d h0 (h1 0) x0_left z3 x0_turnCost x0_turnWayless, gWy d h1 x1_edgeA x1_edgeB x1_edgeCost x1_edgeLine x1_change x1_away x1_steps x1_nodes x1_stepCount x1_open x1_openCount x1_seen x1_edgeCount x1_aim, gLd d h2 x2_lineCount x2_goodsCount x2_workCount x2_years x2_lines x2_goods x2_works x2_change x2_coin x2_knownFree x2_isKnown]) (st' := fun _ => [.int v13, .int p2, .int v12, .int v10, .ref (h0 2)]) (st := [.int p2, .int v12, .int v10, .ref (h0 2)]) hK dX4_payOwners_50 cv_RX4_60 iv_yX1_ofLine (As := [.int v6, .int (3)]) (kX1_ofLine _ d h2 x2_lineCount x2_goodsCount x2_workCount x2_years x2_lines x2_goods x2_works x2_change x2_coin x2_knownFree x2_isKnown v6 (3) e14) rfl rfl (Nat.le_of_ble_eq_true rfl) (by decide) 2 0 rfl rfl rfl [2] [0, 1] rfl rfl rfl rfl [0, 1, 2] rfl (fun _ => rfl) (fun _ => rfl) rfl rfl rfl (fun _ => rfl) (fun _ => ?_)
          refine J_imul hK dX4_payOwners_53 rfl ?_
          refine J_iadd hK dX4_payOwners_54 rfl ?_
          obtain ⟨f15, ef15, hs1⟩ := bs hs1
          refine J_iast (g' := gTr d h0 (h1 0) x0_left f15 x0_turnCost x0_turnWayless) (gs' := [gTr d h0 (h1 0) x0_left f15 x0_turnCost x0_turnWayless, gWy d h1 x1_edgeA x1_edgeB x1_edgeCost x1_edgeLine x1_change x1_away x1_steps x1_nodes x1_stepCount x1_open x1_openCount x1_seen x1_edgeCount x1_aim, gLd d h2 x2_lineCount x2_goodsCount x2_workCount x2_years x2_lines x2_goods x2_works x2_change x2_coin x2_knownFree x2_isKnown]) hK dX4_payOwners_55 rfl 0 2 rfl rfl ef15 rfl rfl ?_
          refine J_iinc (L' := [(4, .int (z2 + 1)), (5, .int v6), (0, .ref (h0 0)), (1, .ref (h2 0)), (2, .int p2), (3, .ref (h0 2))]) (v := (z2 + 1)) hK dX4_payOwners_56 rfl 5 rfl rfl (by decide) rfl ?_
          refine J_goto hK dX4_payOwners_59 (n := 3) rfl ?_
          exact J_loc [2, 3, 4, 5, 0] rfl (ih1 (z2 + 1) f15 (lpc hs1 hr1))
  exact J_loc [1, 2, 3, 4, 0] rfl (lo1 n (1) x0_earned hl1)

def fX4_earnB_s19 (n : Nat) (x0_left : (Nat → Int32)) (x0_turnCost : Int32) (x0_turnWayless : Int32) (x2_lineCount : Int32) (x2_goodsCount : Int32) (x2_workCount : Int32) (x2_years : Int32) (x2_lines : (Nat → Int32)) (x2_goods : (Nat → Int32)) (x2_works : (Nat → Int32)) (x2_change : (Nat → Int32)) (x2_coin : (Nat → Int32)) (x2_knownFree : (Nat → Int32)) (x2_isKnown : Int32) (g6 : (Nat → Int32)) (g7 : (Nat → Int32)) (g8 : (Nat → Int32)) (g9 : (Nat → Int32)) (g10 : (Nat → Int32)) (g11 : Int32) (z15 : Int32) (z16 : (Nat → Int32)) (z17 : (Nat → Int32)) (z18 : (Nat → Int32)) (z19 : (Nat → Int32)) (z20 : Int32) (z21 : (Nat → Int32)) (z22 : Int32) (z23 : Int64) (z24 : Int32) : Option ((Int32 × (Nat → Int32) × (Nat → Int32) × (Nat → Int32) × (Nat → Int32) × Int32 × (Nat → Int32) × Int32 × Int64 × Int32) ⊕ ((Nat → Int32) × (Nat → Int32) × (Nat → Int32) × (Nat → Int32) × Int32 × (Nat → Int32) × Int32 × Int64 × Int32)) :=
  if x2_goodsCount ≤ z15 then (some (.inr (z16, z17, z18, z19, z20, z21, z22, z23, z24))) else ((fX1_ofGoods (x2_lineCount, x2_goodsCount, x2_workCount, x2_years, x2_lines, x2_goods, x2_works, x2_change, x2_coin, x2_knownFree, x2_isKnown) z15 (0)).bind (fun v35 => (fX1_ofGoods (x2_lineCount, x2_goodsCount, x2_workCount, x2_years, x2_lines, x2_goods, x2_works, x2_change, x2_coin, x2_knownFree, x2_isKnown) z15 (1)).bind (fun v37 => (fX5_trace n (g6, g7, g8, g9, g10, z17, z18, z19, z20, z21, z22, z23, g11, z24) v35 v37).bind (u2 fun v39 G40 => u8 (fun g41 g42 g43 g44 g45 g46 g47 g48 => if v39 = 0 then (some (.inl ((z15 + 1), z16, g41, g42, g43, g44, g45, g46, g47, g48))) else ((fX1_ofGoods (x2_lineCount, x2_goodsCount, x2_workCount, x2_years, x2_lines, x2_goods, x2_works, x2_change, x2_coin, x2_knownFree, x2_isKnown) z15 (2)).bind (fun v50 => (fX4_payOwnersB n (x0_left, z16, x0_turnCost, x0_turnWayless) (g6, g7, g8, g9, g10, g41, g42, g43, g44, g45, g46, g47, g11, g48) (x2_lineCount, x2_goodsCount, x2_workCount, x2_years, x2_lines, x2_goods, x2_works, x2_change, x2_coin, x2_knownFree, x2_isKnown) v50).bind (fun g52 => some (.inl ((z15 + 1), g52, g41, g42, g43, g44, g45, g46, g47, g48)))))) G40))))
def fX4_earnB (n : Nat) (X0 : TrT) (X1 : WyT) (X2 : LdT) : Option ((Nat → Int32) × ((Nat → Int32) × (Nat → Int32) × (Nat → Int32) × (Nat → Int32) × (Nat → Int32) × (Nat → Int32) × (Nat → Int32) × (Nat → Int32) × Int32 × (Nat → Int32) × Int32 × Int64 × Int32 × Int32)) :=
  u4 (fun (x0_left : (Nat → Int32)) (x0_earned : (Nat → Int32)) (x0_turnCost : Int32) (x0_turnWayless : Int32) => u14 (fun (x1_edgeA : (Nat → Int32)) (x1_edgeB : (Nat → Int32)) (x1_edgeCost : (Nat → Int32)) (x1_edgeLine : (Nat → Int32)) (x1_change : (Nat → Int32)) (x1_away : (Nat → Int32)) (x1_steps : (Nat → Int32)) (x1_nodes : (Nat → Int32)) (x1_stepCount : Int32) (x1_open : (Nat → Int32)) (x1_openCount : Int32) (x1_seen : Int64) (x1_edgeCount : Int32) (x1_aim : Int32) => u11 (fun (x2_lineCount : Int32) (x2_goodsCount : Int32) (x2_workCount : Int32) (x2_years : Int32) (x2_lines : (Nat → Int32)) (x2_goods : (Nat → Int32)) (x2_works : (Nat → Int32)) (x2_change : (Nat → Int32)) (x2_coin : (Nat → Int32)) (x2_knownFree : (Nat → Int32)) (x2_isKnown : Int32) => (fJ7_fill_53178 n 6 x0_earned (0)).bind (fun g1 => (fX1_linesThere n (x2_lineCount, x2_goodsCount, x2_workCount, x2_years, x2_lines, x2_goods, x2_works, x2_change, x2_coin, x2_knownFree, x2_isKnown)).bind (fun v3 => (fX5_prepare n (x1_edgeA, x1_edgeB, x1_edgeCost, x1_edgeLine, x1_change, x1_away, x1_steps, x1_nodes, x1_stepCount, x1_open, x1_openCount, x1_seen, x1_edgeCount, x1_aim) (x2_lineCount, x2_goodsCount, x2_workCount, x2_years, x2_lines, x2_goods, x2_works, x2_change, x2_coin, x2_knownFree, x2_isKnown) v3).bind (fun G5 => u7 (fun g6 g7 g8 g9 g10 g11 g12 => (lp (u10 (fX4_earnB_s19 n x0_left x0_turnCost x0_turnWayless x2_lineCount x2_goodsCount x2_workCount x2_years x2_lines x2_goods x2_works x2_change x2_coin x2_knownFree x2_isKnown g6 g7 g8 g9 g10 g11)) n (0, g1, x1_away, x1_steps, x1_nodes, x1_stepCount, x1_open, x1_openCount, x1_seen, g12)).bind (u9 fun w26 w27 w28 w29 w30 w31 w32 w33 w34 => some (w26, (g6, g7, g8, g9, g10, w27, w28, w29, w30, w31, w32, w33, g11, w34)))) G5)))) X2) X1) X0
set_option maxHeartbeats 4000000 in
set_option maxRecDepth 100000 in
theorem kX4_earnB (l : Launch) (d : DT) (h0 : Nat → Nat) (h1 : Nat → Nat) (h2 : Nat → Nat) (n : Nat) (x0_left : (Nat → Int32)) (x0_earned : (Nat → Int32)) (x0_turnCost : Int32) (x0_turnWayless : Int32) (x1_edgeA : (Nat → Int32)) (x1_edgeB : (Nat → Int32)) (x1_edgeCost : (Nat → Int32)) (x1_edgeLine : (Nat → Int32)) (x1_change : (Nat → Int32)) (x1_away : (Nat → Int32)) (x1_steps : (Nat → Int32)) (x1_nodes : (Nat → Int32)) (x1_stepCount : Int32) (x1_open : (Nat → Int32)) (x1_openCount : Int32) (x1_seen : Int64) (x1_edgeCount : Int32) (x1_aim : Int32) (x2_lineCount : Int32) (x2_goodsCount : Int32) (x2_workCount : Int32) (x2_years : Int32) (x2_lines : (Nat → Int32)) (x2_goods : (Nat → Int32)) (x2_works : (Nat → Int32)) (x2_change : (Nat → Int32)) (x2_coin : (Nat → Int32)) (x2_knownFree : (Nat → Int32)) (x2_isKnown : Int32)  {out : (Nat → Int32) × ((Nat → Int32) × (Nat → Int32) × (Nat → Int32) × (Nat → Int32) × (Nat → Int32) × (Nat → Int32) × (Nat → Int32) × (Nat → Int32) × Int32 × (Nat → Int32) × Int32 × Int64 × Int32 × Int32)} (hf : fX4_earnB n (x0_left, x0_earned, x0_turnCost, x0_turnWayless) (x1_edgeA, x1_edgeB, x1_edgeCost, x1_edgeLine, x1_change, x1_away, x1_steps, x1_nodes, x1_stepCount, x1_open, x1_openCount, x1_seen, x1_edgeCount, x1_aim) (x2_lineCount, x2_goodsCount, x2_workCount, x2_years, x2_lines, x2_goods, x2_works, x2_change, x2_coin, x2_knownFree, x2_isKnown) = some out) : Ct l d yX4_earn cX4_earn 4 none { frames := 5, cells := 0, slots := 0, locals := 131 } [.ref (h0 0), .ref (h2 0), .ref (h0 2)] [gTr d h0 (h1 0) x0_left x0_earned x0_turnCost x0_turnWayless, gWy d h1 x1_edgeA x1_edgeB x1_edgeCost x1_edgeLine x1_change x1_away x1_steps x1_nodes x1_stepCount x1_open x1_openCount x1_seen x1_edgeCount x1_aim, gLd d h2 x2_lineCount x2_goodsCount x2_workCount x2_years x2_lines x2_goods x2_works x2_change x2_coin x2_knownFree x2_isKnown] (fun _ : Unit => (none, [gTr d h0 (h1 0) x0_left (out.1) x0_turnCost x0_turnWayless, gWy d h1 (out.2.1) (out.2.2.1) (out.2.2.2.1) (out.2.2.2.2.1) (out.2.2.2.2.2.1) (out.2.2.2.2.2.2.1) (out.2.2.2.2.2.2.2.1) (out.2.2.2.2.2.2.2.2.1) (out.2.2.2.2.2.2.2.2.2.1) (out.2.2.2.2.2.2.2.2.2.2.1) (out.2.2.2.2.2.2.2.2.2.2.2.1) (out.2.2.2.2.2.2.2.2.2.2.2.2.1) (out.2.2.2.2.2.2.2.2.2.2.2.2.2.1) (out.2.2.2.2.2.2.2.2.2.2.2.2.2.2), gLd d h2 x2_lineCount x2_goodsCount x2_workCount x2_years x2_lines x2_goods x2_works x2_change x2_coin x2_knownFree x2_isKnown])) := by
  refine Ct.of (by decide) (Nat.le_of_ble_eq_true rfl) ?_
  intro Φ hl hK hR
  subst hl
  have hK : Ok d Φ RX4 "earn" cX4_earn 4 none { frames := 5, cells := 0, slots := 0, locals := 131 } := hK
  unfold fX4_earnB at hf
  have hf := un4 hf
  have hf := un14 hf
  have hf := un11 hf
  show J d Φ 4 [gTr d h0 (h1 0) x0_left x0_earned x0_turnCost x0_turnWayless, gWy d h1 x1_edgeA x1_edgeB x1_edgeCost x1_edgeLine x1_change x1_away x1_steps x1_nodes x1_stepCount x1_open x1_openCount x1_seen x1_edgeCount x1_aim, gLd d h2 x2_lineCount x2_goodsCount x2_workCount x2_years x2_lines x2_goods x2_works x2_change x2_coin x2_knownFree x2_isKnown] 0 0 0 [(0, .ref (h0 0)), (1, .ref (h2 0)), (2, .ref (h0 2))] []
  refine J_aload_n hK dX4_earn_0 rfl 2 rfl rfl ?_
  refine J_iconst (v := 0) hK dX4_earn_1 rfl (by decide) ?_
  refine J_fl (gs2 := [(gTr d h0 (h1 0) x0_left x0_earned x0_turnCost x0_turnWayless).take 2, [cI d (h0 2) 6 x0_earned], (gTr d h0 (h1 0) x0_left x0_earned x0_turnCost x0_turnWayless).drop 3, gWy d h1 x1_edgeA x1_edgeB x1_edgeCost x1_edgeLine x1_change x1_away x1_steps x1_nodes x1_stepCount x1_open x1_openCount x1_seen x1_edgeCount x1_aim, gLd d h2 x2_lineCount x2_goodsCount x2_workCount x2_years x2_lines x2_goods x2_works x2_change x2_coin x2_knownFree x2_isKnown]) rfl ?_
  obtain ⟨g1, e2, hf⟩ := bs hf
  refine J_callS (m' := 5) (ce' := 0) (sl' := 0) (gr := [(gTr d h0 (h1 0) x0_left x0_earned x0_turnCost x0_turnWayless).take 2, (gTr d h0 (h1 0) x0_left x0_earned x0_turnCost x0_turnWayless).drop 3, gWy d h1 x1_edgeA x1_edgeB x1_edgeCost x1_edgeLine x1_change x1_away x1_steps x1_nodes x1_stepCount x1_open x1_openCount x1_seen x1_edgeCount x1_aim, gLd d h2 x2_lineCount x2_goodsCount x2_workCount x2_years x2_lines x2_goods x2_works x2_change x2_coin x2_knownFree x2_isKnown]) (gs' := fun _ => [(gTr d h0 (h1 0) x0_left x0_earned x0_turnCost x0_turnWayless).take 2, [cI d (h0 2) 6 g1], (gTr d h0 (h1 0) x0_left x0_earned x0_turnCost x0_turnWayless).drop 3, gWy d h1 x1_edgeA x1_edgeB x1_edgeCost x1_edgeLine x1_change x1_away x1_steps x1_nodes x1_stepCount x1_open x1_openCount x1_seen x1_edgeCount x1_aim, gLd d h2 x2_lineCount x2_goodsCount x2_workCount x2_years x2_lines x2_goods x2_works x2_change x2_coin x2_knownFree x2_isKnown]) (st' := fun _ => []) (st := []) hK dX4_earn_2 cv_RX4_85 ws_yJ7_fill_53178 (As := [.ref (h0 2), .int (0)]) (kJ7_fill_53178 _ d (h0 2) n 6 x0_earned (0) e2) rfl rfl (Nat.le_of_ble_eq_true rfl) (by decide) [1] [0, 2, 3, 4] rfl rfl rfl rfl [0, 4, 1, 2, 3] rfl (fun _ => rfl) (fun _ => rfl) rfl rfl rfl (fun _ => rfl) (fun _ => ?_)
  refine J_fl (gs2 := [gTr d h0 (h1 0) x0_left g1 x0_turnCost x0_turnWayless, gWy d h1 x1_edgeA x1_edgeB x1_edgeCost x1_edgeLine x1_change x1_away x1_steps x1_nodes x1_stepCount x1_open x1_openCount x1_seen x1_edgeCount x1_aim, gLd d h2 x2_lineCount x2_goodsCount x2_workCount x2_years x2_lines x2_goods x2_works x2_change x2_coin x2_knownFree x2_isKnown]) rfl ?_
  refine J_aload_n hK dX4_earn_5 rfl 0 rfl rfl ?_
  refine J_get hK fo_RX4_12 dX4_earn_6 rfl 0 0 rfl rfl rfl ?_
  refine J_aload_n hK dX4_earn_9 rfl 1 rfl rfl ?_
  refine J_aload_n hK dX4_earn_10 rfl 1 rfl rfl ?_
  obtain ⟨v3, e4, hf⟩ := bs hf
  refine J_callV (m' := 3) (ce' := 0) (sl' := 0) (gr := [gTr d h0 (h1 0) x0_left g1 x0_turnCost x0_turnWayless, gWy d h1 x1_edgeA x1_edgeB x1_edgeCost x1_edgeLine x1_change x1_away x1_steps x1_nodes x1_stepCount x1_open x1_openCount x1_seen x1_edgeCount x1_aim]) (gs' := fun _ => [gTr d h0 (h1 0) x0_left g1 x0_turnCost x0_turnWayless, gWy d h1 x1_edgeA x1_edgeB x1_edgeCost x1_edgeLine x1_change x1_away x1_steps x1_nodes x1_stepCount x1_open x1_openCount x1_seen x1_edgeCount x1_aim, gLd d h2 x2_lineCount x2_goodsCount x2_workCount x2_years x2_lines x2_goods x2_works x2_change x2_coin x2_knownFree x2_isKnown]) (st' := fun _ => [.int v3, .ref (h2 0), .ref (h1 0)]) (st := [.ref (h2 0), .ref (h1 0)]) hK dX4_earn_11 cv_RX4_25 iv_yX1_linesThere (As := []) (kX1_linesThere _ d h2 n x2_lineCount x2_goodsCount x2_workCount x2_years x2_lines x2_goods x2_works x2_change x2_coin x2_knownFree x2_isKnown e4) rfl rfl (Nat.le_of_ble_eq_true rfl) (by decide) 2 0 rfl rfl rfl [2] [0, 1] rfl rfl rfl rfl [0, 1, 2] rfl (fun _ => rfl) (fun _ => rfl) rfl rfl rfl (fun _ => rfl) (fun _ => ?_)
  obtain ⟨⟨g6, g7, g8, g9, g10, g11, g12⟩, e13, hf⟩ := bs hf
  have hf := un7 hf
  refine J_callV (m' := 3) (ce' := 0) (sl' := 0) (gr := [gTr d h0 (h1 0) x0_left g1 x0_turnCost x0_turnWayless]) (gs' := fun _ => [gTr d h0 (h1 0) x0_left g1 x0_turnCost x0_turnWayless, gWy d h1 g6 g7 g8 g9 g10 x1_away x1_steps x1_nodes x1_stepCount x1_open x1_openCount x1_seen g11 g12, gLd d h2 x2_lineCount x2_goodsCount x2_workCount x2_years x2_lines x2_goods x2_works x2_change x2_coin x2_knownFree x2_isKnown]) (st' := fun _ => []) (st := []) hK dX4_earn_14 cv_RX4_31 iv_yX5_prepare (As := [.ref (h2 0), .int v3]) (kX5_prepare _ d h1 h2 n x1_edgeA x1_edgeB x1_edgeCost x1_edgeLine x1_change x1_away x1_steps x1_nodes x1_stepCount x1_open x1_openCount x1_seen x1_edgeCount x1_aim x2_lineCount x2_goodsCount x2_workCount x2_years x2_lines x2_goods x2_works x2_change x2_coin x2_knownFree x2_isKnown v3 e13) rfl rfl (Nat.le_of_ble_eq_true rfl) (by decide) 1 0 rfl rfl rfl [1, 2] [0] rfl rfl rfl rfl [0, 1, 2] rfl (fun _ => rfl) (fun _ => rfl) rfl rfl rfl (fun _ => rfl) (fun _ => ?_)
  refine J_iconst (v := 0) hK dX4_earn_17 rfl (by decide) ?_
  refine J_istore_n (L' := [(3, .int (0)), (0, .ref (h0 0)), (1, .ref (h2 0)), (2, .ref (h0 2))]) hK dX4_earn_18 rfl rfl (by decide) rfl ?_
  obtain ⟨e25, hl14, hf⟩ := bs hf
  have hx14_67 : ∀ (w26 : (Nat → Int32)) (w27 : (Nat → Int32)) (w28 : (Nat → Int32)) (w29 : (Nat → Int32)) (w30 : Int32) (w31 : (Nat → Int32)) (w32 : Int32) (w33 : Int64) (w34 : Int32), (w26, w27, w28, w29, w30, w31, w32, w33, w34) = e25 → J d Φ 4 [gTr d h0 (h1 0) x0_left w26 x0_turnCost x0_turnWayless, gWy d h1 g6 g7 g8 g9 g10 w27 w28 w29 w30 w31 w32 w33 g11 w34, gLd d h2 x2_lineCount x2_goodsCount x2_workCount x2_years x2_lines x2_goods x2_works x2_change x2_coin x2_knownFree x2_isKnown] 0 0 67 [] [] := by
    intro w26 w27 w28 w29 w30 w31 w32 w33 w34 he
    rw [← he] at hf
    have hf := un9 hf
    obtain rfl := Option.some.inj hf
    exact J_vret hK hR dX4_earn_67 () rfl (by decide) (by decide)
  have lo14 : ∀ (k : Nat) (z15 : Int32) (z16 : (Nat → Int32)) (z17 : (Nat → Int32)) (z18 : (Nat → Int32)) (z19 : (Nat → Int32)) (z20 : Int32) (z21 : (Nat → Int32)) (z22 : Int32) (z23 : Int64) (z24 : Int32), lp (u10 (fX4_earnB_s19 n x0_left x0_turnCost x0_turnWayless x2_lineCount x2_goodsCount x2_workCount x2_years x2_lines x2_goods x2_works x2_change x2_coin x2_knownFree x2_isKnown g6 g7 g8 g9 g10 g11)) k (z15, z16, z17, z18, z19, z20, z21, z22, z23, z24) = some e25 → J d Φ 4 [gTr d h0 (h1 0) x0_left z16 x0_turnCost x0_turnWayless, gWy d h1 g6 g7 g8 g9 g10 z17 z18 z19 z20 z21 z22 z23 g11 z24, gLd d h2 x2_lineCount x2_goodsCount x2_workCount x2_years x2_lines x2_goods x2_works x2_change x2_coin x2_knownFree x2_isKnown] 0 0 19 [(0, .ref (h0 0)), (1, .ref (h2 0)), (2, .ref (h0 2)), (3, .int z15)] [] := by
    intro k
    induction k with
    | zero => intro z15 z16 z17 z18 z19 z20 z21 z22 z23 z24 h; cases h
    | succ k ih14 =>
      intro z15 z16 z17 z18 z19 z20 z21 z22 z23 z24 h
      obtain ⟨k2, rr14, hk2, hs14, hr14⟩ := lp_ok h
      cases hk2
      have hs14 : fX4_earnB_s19 n x0_left x0_turnCost x0_turnWayless x2_lineCount x2_goodsCount x2_workCount x2_years x2_lines x2_goods x2_works x2_change x2_coin x2_knownFree x2_isKnown g6 g7 g8 g9 g10 g11 z15 z16 z17 z18 z19 z20 z21 z22 z23 z24 = some rr14 := hs14
      unfold fX4_earnB_s19 at hs14
      refine J_iload_n hK dX4_earn_19 rfl 3 rfl rfl ?_
      refine J_aload_n hK dX4_earn_20 rfl 1 rfl rfl ?_
      refine J_get hK fo_RX4_43 dX4_earn_21 rfl 2 0 rfl rfl rfl ?_
      refine J_icmp_ge (tg := 67) hK dX4_earn_24 rfl rfl (fun hc24 => ?_) (fun hc24 => ?_)
      · have hs14 := ip hc24 hs14
        exact J_loc [] rfl (hx14_67 z16 z17 z18 z19 z20 z21 z22 z23 z24 (lpx hs14 hr14))
      · have hs14 := iq hc24 hs14
        refine J_aload_n hK dX4_earn_27 rfl 0 rfl rfl ?_
        refine J_get hK fo_RX4_12 dX4_earn_28 rfl 0 0 rfl rfl rfl ?_
        refine J_aload_n hK dX4_earn_31 rfl 1 rfl rfl ?_
        refine J_iload_n hK dX4_earn_32 rfl 3 rfl rfl ?_
        refine J_iconst (v := 0) hK dX4_earn_33 rfl (by decide) ?_
        obtain ⟨v35, e36, hs14⟩ := bs hs14
        refine J_callV (m' := 3) (ce' := 0) (sl' := 0) (gr := [gTr d h0 (h1 0) x0_left z16 x0_turnCost x0_turnWayless, gWy d h1 g6 g7 g8 g9 g10 z17 z18 z19 z20 z21 z22 z23 g11 z24]) (gs' := fun _ => [gTr d h0 (h1 0) x0_left z16 x0_turnCost x0_turnWayless, gWy d h1 g6 g7 g8 g9 g10 z17 z18 z19 z20 z21 z22 z23 g11 z24, gLd d h2 x2_lineCount x2_goodsCount x2_workCount x2_years x2_lines x2_goods x2_works x2_change x2_coin x2_knownFree x2_isKnown]) (st' := fun _ => [.int v35, .ref (h1 0)]) (st := [.ref (h1 0)]) hK dX4_earn_34 cv_RX4_47 iv_yX1_ofGoods (As := [.int z15, .int (0)]) (kX1_ofGoods _ d h2 x2_lineCount x2_goodsCount x2_workCount x2_years x2_lines x2_goods x2_works x2_change x2_coin x2_knownFree x2_isKnown z15 (0) e36) rfl rfl (Nat.le_of_ble_eq_true rfl) (by decide) 2 0 rfl rfl rfl [2] [0, 1] rfl rfl rfl rfl [0, 1, 2] rfl (fun _ => rfl) (fun _ => rfl) rfl rfl rfl (fun _ => rfl) (fun _ => ?_)
        refine J_aload_n hK dX4_earn_37 rfl 1 rfl rfl ?_
        refine J_iload_n hK dX4_earn_38 rfl 3 rfl rfl ?_
        refine J_iconst (v := 1) hK dX4_earn_39 rfl (by decide) ?_
        obtain ⟨v37, e38, hs14⟩ := bs hs14
        refine J_callV (m' := 3) (ce' := 0) (sl' := 0) (gr := [gTr d h0 (h1 0) x0_left z16 x0_turnCost x0_turnWayless, gWy d h1 g6 g7 g8 g9 g10 z17 z18 z19 z20 z21 z22 z23 g11 z24]) (gs' := fun _ => [gTr d h0 (h1 0) x0_left z16 x0_turnCost x0_turnWayless, gWy d h1 g6 g7 g8 g9 g10 z17 z18 z19 z20 z21 z22 z23 g11 z24, gLd d h2 x2_lineCount x2_goodsCount x2_workCount x2_years x2_lines x2_goods x2_works x2_change x2_coin x2_knownFree x2_isKnown]) (st' := fun _ => [.int v37, .int v35, .ref (h1 0)]) (st := [.int v35, .ref (h1 0)]) hK dX4_earn_40 cv_RX4_47 iv_yX1_ofGoods (As := [.int z15, .int (1)]) (kX1_ofGoods _ d h2 x2_lineCount x2_goodsCount x2_workCount x2_years x2_lines x2_goods x2_works x2_change x2_coin x2_knownFree x2_isKnown z15 (1) e38) rfl rfl (Nat.le_of_ble_eq_true rfl) (by decide) 2 0 rfl rfl rfl [2] [0, 1] rfl rfl rfl rfl [0, 1, 2] rfl (fun _ => rfl) (fun _ => rfl) rfl rfl rfl (fun _ => rfl) (fun _ => ?_)
        obtain ⟨⟨v39, ⟨g41, g42, g43, g44, g45, g46, g47, g48⟩⟩, e49, hs14⟩ := bs hs14
        have hs14 := un2 hs14
        have hs14 := un8 hs14
        refine J_callV (m' := 3) (ce' := 0) (sl' := 0) (gr := [gTr d h0 (h1 0) x0_left z16 x0_turnCost x0_turnWayless, gLd d h2 x2_lineCount x2_goodsCount x2_workCount x2_years x2_lines x2_goods x2_works x2_change x2_coin x2_knownFree x2_isKnown]) (gs' := fun _ => [gTr d h0 (h1 0) x0_left z16 x0_turnCost x0_turnWayless, gWy d h1 g6 g7 g8 g9 g10 g41 g42 g43 g44 g45 g46 g47 g11 g48, gLd d h2 x2_lineCount x2_goodsCount x2_workCount x2_years x2_lines x2_goods x2_works x2_change x2_coin x2_knownFree x2_isKnown]) (st' := fun _ => [.int v39]) (st := []) hK dX4_earn_43 cv_RX4_67 iv_yX5_trace (As := [.int v35, .int v37]) (kX5_trace _ d h1 n g6 g7 g8 g9 g10 z17 z18 z19 z20 z21 z22 z23 g11 z24 v35 v37 e49) rfl rfl (Nat.le_of_ble_eq_true rfl) (by decide) 1 0 rfl rfl rfl [1] [0, 2] rfl rfl rfl rfl [0, 2, 1] rfl (fun _ => rfl) (fun _ => rfl) rfl rfl rfl (fun _ => rfl) (fun _ => ?_)
        refine J_if_eq (tg := 61) hK dX4_earn_46 rfl rfl (fun hc46 => ?_) (fun hc46 => ?_)
        · have hs14 := ip hc46 hs14
          refine J_iinc (L' := [(3, .int (z15 + 1)), (0, .ref (h0 0)), (1, .ref (h2 0)), (2, .ref (h0 2))]) (v := (z15 + 1)) hK dX4_earn_61 rfl 3 rfl rfl (by decide) rfl ?_
          refine J_goto hK dX4_earn_64 (n := 19) rfl ?_
          exact J_loc [1, 2, 3, 0] rfl (ih14 (z15 + 1) z16 g41 g42 g43 g44 g45 g46 g47 g48 (lpc hs14 hr14))
        · have hs14 := iq hc46 hs14
          refine J_aload_n hK dX4_earn_49 rfl 0 rfl rfl ?_
          refine J_aload_n hK dX4_earn_50 rfl 1 rfl rfl ?_
          refine J_aload_n hK dX4_earn_51 rfl 1 rfl rfl ?_
          refine J_iload_n hK dX4_earn_52 rfl 3 rfl rfl ?_
          refine J_iconst (v := 2) hK dX4_earn_53 rfl (by decide) ?_
          obtain ⟨v50, e51, hs14⟩ := bs hs14
          refine J_callV (m' := 3) (ce' := 0) (sl' := 0) (gr := [gTr d h0 (h1 0) x0_left z16 x0_turnCost x0_turnWayless, gWy d h1 g6 g7 g8 g9 g10 g41 g42 g43 g44 g45 g46 g47 g11 g48]) (gs' := fun _ => [gTr d h0 (h1 0) x0_left z16 x0_turnCost x0_turnWayless, gWy d h1 g6 g7 g8 g9 g10 g41 g42 g43 g44 g45 g46 g47 g11 g48, gLd d h2 x2_lineCount x2_goodsCount x2_workCount x2_years x2_lines x2_goods x2_works x2_change x2_coin x2_knownFree x2_isKnown]) (st' := fun _ => [.int v50, .ref (h2 0), .ref (h0 0)]) (st := [.ref (h2 0), .ref (h0 0)]) hK dX4_earn_54 cv_RX4_47 iv_yX1_ofGoods (As := [.int z15, .int (2)]) (kX1_ofGoods _ d h2 x2_lineCount x2_goodsCount x2_workCount x2_years x2_lines x2_goods x2_works x2_change x2_coin x2_knownFree x2_isKnown z15 (2) e51) rfl rfl (Nat.le_of_ble_eq_true rfl) (by decide) 2 0 rfl rfl rfl [2] [0, 1] rfl rfl rfl rfl [0, 1, 2] rfl (fun _ => rfl) (fun _ => rfl) rfl rfl rfl (fun _ => rfl) (fun _ => ?_)
          refine J_aload_n hK dX4_earn_57 rfl 2 rfl rfl ?_
          obtain ⟨g52, e53, hs14⟩ := bs hs14
          refine J_callV (m' := 3) (ce' := 0) (sl' := 0) (gr := []) (gs' := fun _ => [gTr d h0 (h1 0) x0_left g52 x0_turnCost x0_turnWayless, gWy d h1 g6 g7 g8 g9 g10 g41 g42 g43 g44 g45 g46 g47 g11 g48, gLd d h2 x2_lineCount x2_goodsCount x2_workCount x2_years x2_lines x2_goods x2_works x2_change x2_coin x2_knownFree x2_isKnown]) (st' := fun _ => []) (st := []) hK dX4_earn_58 cv_RX4_91 iv_yX4_payOwners (As := [.ref (h2 0), .int v50, .ref (h0 2)]) (kX4_payOwnersB _ d h0 h1 h2 n x0_left z16 x0_turnCost x0_turnWayless g6 g7 g8 g9 g10 g41 g42 g43 g44 g45 g46 g47 g11 g48 x2_lineCount x2_goodsCount x2_workCount x2_years x2_lines x2_goods x2_works x2_change x2_coin x2_knownFree x2_isKnown v50 e53) rfl rfl (Nat.le_of_ble_eq_true rfl) (by decide) 0 0 rfl rfl rfl [0, 1, 2] [] rfl rfl rfl rfl [0, 1, 2] rfl (fun _ => rfl) (fun _ => rfl) rfl rfl rfl (fun _ => rfl) (fun _ => ?_)
          refine J_iinc (L' := [(3, .int (z15 + 1)), (0, .ref (h0 0)), (1, .ref (h2 0)), (2, .ref (h0 2))]) (v := (z15 + 1)) hK dX4_earn_61 rfl 3 rfl rfl (by decide) rfl ?_
          refine J_goto hK dX4_earn_64 (n := 19) rfl ?_
          exact J_loc [1, 2, 3, 0] rfl (ih14 (z15 + 1) g52 g41 g42 g43 g44 g45 g46 g47 g48 (lpc hs14 hr14))
  exact J_loc [1, 2, 3, 0] rfl (lo14 n (0) g1 x1_away x1_steps x1_nodes x1_stepCount x1_open x1_openCount x1_seen g12 hl14)

def fX0_gainBy_s48 (g35 : (Nat → Int32)) (z53 : Int32) (z54 : (Nat → Int32)) : Option ((Int32 × (Nat → Int32)) ⊕ ((Nat → Int32))) :=
  if 6 ≤ z53 then (some (.inr z54)) else ((rd 6 z54 z53).bind fun v57 => (rd 6 g35 z53).bind fun v58 => (wr 6 z54 z53 (v57 - v58)).bind fun f59 => some (.inl ((z53 + 1), f59)))
def fX0_gainBy (n : Nat) (X0 : ChT) (X1 : TrT) (X2 : WyT) (X3 : LdT) (X4 : LdT) (p2 : Int32) : Option ((Nat → Int32) × (Nat → Int32) × ((Nat → Int32) × (Nat → Int32) × (Nat → Int32) × (Nat → Int32) × (Nat → Int32) × (Nat → Int32) × (Nat → Int32) × (Nat → Int32) × Int32 × (Nat → Int32) × Int32 × Int64 × Int32 × Int32) × (Int32 × Int32 × Int32 × Int32 × (Nat → Int32) × (Nat → Int32) × (Nat → Int32) × (Nat → Int32) × (Nat → Int32) × Int32)) :=
  (fun (x0_gained : (Nat → Int32)) => u4 (fun (x1_left : (Nat → Int32)) (x1_earned : (Nat → Int32)) (x1_turnCost : Int32) (x1_turnWayless : Int32) => u14 (fun (x2_edgeA : (Nat → Int32)) (x2_edgeB : (Nat → Int32)) (x2_edgeCost : (Nat → Int32)) (x2_edgeLine : (Nat → Int32)) (x2_change : (Nat → Int32)) (x2_away : (Nat → Int32)) (x2_steps : (Nat → Int32)) (x2_nodes : (Nat → Int32)) (x2_stepCount : Int32) (x2_open : (Nat → Int32)) (x2_openCount : Int32) (x2_seen : Int64) (x2_edgeCount : Int32) (x2_aim : Int32) => u11 (fun (x3_lineCount : Int32) (x3_goodsCount : Int32) (x3_workCount : Int32) (x3_years : Int32) (x3_lines : (Nat → Int32)) (x3_goods : (Nat → Int32)) (x3_works : (Nat → Int32)) (x3_change : (Nat → Int32)) (x3_coin : (Nat → Int32)) (x3_knownFree : (Nat → Int32)) (x3_isKnown : Int32) => u11 (fun (x4_lineCount : Int32) (x4_goodsCount : Int32) (x4_workCount : Int32) (x4_years : Int32) (x4_lines : (Nat → Int32)) (x4_goods : (Nat → Int32)) (x4_works : (Nat → Int32)) (x4_change : (Nat → Int32)) (x4_coin : (Nat → Int32)) (x4_knownFree : (Nat → Int32)) (x4_isKnown : Int32) => (fX1_take (x3_lineCount, x3_goodsCount, x3_workCount, x3_years, x3_lines, x3_goods, x3_works, x3_change, x3_coin, x3_knownFree, x3_isKnown) (x4_lineCount, x4_goodsCount, x4_workCount, x4_years, x4_lines, x4_goods, x4_works, x4_change, x4_coin, x4_knownFree, x4_isKnown)).bind (fun G1 => u10 (fun g2 g3 g4 g5 g6 g7 g8 g9 g10 g11 => (fX1_perform (g2, g3, g4, g5, g6, g7, g8, g9, g10, x3_knownFree, g11) p2).bind (u4 fun g13 g14 g15 g16 => (fX4_earn n (x1_left, x1_earned, x1_turnCost, x1_turnWayless) (x2_edgeA, x2_edgeB, x2_edgeCost, x2_edgeLine, x2_change, x2_away, x2_steps, x2_nodes, x2_stepCount, x2_open, x2_openCount, x2_seen, x2_edgeCount, x2_aim) (g13, g3, g4, g5, g14, g7, g8, g15, g10, x3_knownFree, g16) 6 x0_gained).bind (u2 fun G18 g33 => u14 (fun g19 g20 g21 g22 g23 g24 g25 g26 g27 g28 g29 g30 g31 g32 => (fX4_earnB n (x1_left, x1_earned, x1_turnCost, x1_turnWayless) (g19, g20, g21, g22, g23, g24, g25, g26, g27, g28, g29, g30, g31, g32) (x4_lineCount, x4_goodsCount, x4_workCount, x4_years, x4_lines, x4_goods, x4_works, x4_change, x4_coin, x4_knownFree, x4_isKnown)).bind (u2 fun g35 G36 => u14 (fun g37 g38 g39 g40 g41 g42 g43 g44 g45 g46 g47 g48 g49 g50 => (lp (u2 (fX0_gainBy_s48 g35)) n (0, g33)).bind (fun w56 => some (w56, g35, (g37, g38, g39, g40, g41, g42, g43, g44, g45, g46, g47, g48, g49, g50), (g13, g3, g4, g5, g14, g7, g8, g15, g10, g16)))) G36)) G18))) G1)) X4) X3) X2) X1) X0
set_option maxHeartbeats 4000000 in
set_option maxRecDepth 100000 in
theorem kX0_gainBy (l : Launch) (d : DT) (h0 : Nat → Nat) (a0_after : Nat) (h1 : Nat → Nat) (h2 : Nat → Nat) (h3 : Nat → Nat) (h4 : Nat → Nat) (n : Nat) (x0_gained : (Nat → Int32)) (x1_left : (Nat → Int32)) (x1_earned : (Nat → Int32)) (x1_turnCost : Int32) (x1_turnWayless : Int32) (x2_edgeA : (Nat → Int32)) (x2_edgeB : (Nat → Int32)) (x2_edgeCost : (Nat → Int32)) (x2_edgeLine : (Nat → Int32)) (x2_change : (Nat → Int32)) (x2_away : (Nat → Int32)) (x2_steps : (Nat → Int32)) (x2_nodes : (Nat → Int32)) (x2_stepCount : Int32) (x2_open : (Nat → Int32)) (x2_openCount : Int32) (x2_seen : Int64) (x2_edgeCount : Int32) (x2_aim : Int32) (x3_lineCount : Int32) (x3_goodsCount : Int32) (x3_workCount : Int32) (x3_years : Int32) (x3_lines : (Nat → Int32)) (x3_goods : (Nat → Int32)) (x3_works : (Nat → Int32)) (x3_change : (Nat → Int32)) (x3_coin : (Nat → Int32)) (x3_knownFree : (Nat → Int32)) (x3_isKnown : Int32) (x4_lineCount : Int32) (x4_goodsCount : Int32) (x4_workCount : Int32) (x4_years : Int32) (x4_lines : (Nat → Int32)) (x4_goods : (Nat → Int32)) (x4_works : (Nat → Int32)) (x4_change : (Nat → Int32)) (x4_coin : (Nat → Int32)) (x4_knownFree : (Nat → Int32)) (x4_isKnown : Int32) (p2 : Int32)  {out : (Nat → Int32) × (Nat → Int32) × ((Nat → Int32) × (Nat → Int32) × (Nat → Int32) × (Nat → Int32) × (Nat → Int32) × (Nat → Int32) × (Nat → Int32) × (Nat → Int32) × Int32 × (Nat → Int32) × Int32 × Int64 × Int32 × Int32) × (Int32 × Int32 × Int32 × Int32 × (Nat → Int32) × (Nat → Int32) × (Nat → Int32) × (Nat → Int32) × (Nat → Int32) × Int32)} (hf : fX0_gainBy n x0_gained (x1_left, x1_earned, x1_turnCost, x1_turnWayless) (x2_edgeA, x2_edgeB, x2_edgeCost, x2_edgeLine, x2_change, x2_away, x2_steps, x2_nodes, x2_stepCount, x2_open, x2_openCount, x2_seen, x2_edgeCount, x2_aim) (x3_lineCount, x3_goodsCount, x3_workCount, x3_years, x3_lines, x3_goods, x3_works, x3_change, x3_coin, x3_knownFree, x3_isKnown) (x4_lineCount, x4_goodsCount, x4_workCount, x4_years, x4_lines, x4_goods, x4_works, x4_change, x4_coin, x4_knownFree, x4_isKnown) p2 = some out) : Ct l d yX0_gainBy cX0_gainBy 4 none { frames := 6, cells := 0, slots := 0, locals := 154 } [.ref (h0 0), .ref (h4 0), .int p2] [gCh d h0 (h1 0) a0_after (h3 0) x0_gained, gTr d h1 (h2 0) x1_left x1_earned x1_turnCost x1_turnWayless, gWy d h2 x2_edgeA x2_edgeB x2_edgeCost x2_edgeLine x2_change x2_away x2_steps x2_nodes x2_stepCount x2_open x2_openCount x2_seen x2_edgeCount x2_aim, gLd d h3 x3_lineCount x3_goodsCount x3_workCount x3_years x3_lines x3_goods x3_works x3_change x3_coin x3_knownFree x3_isKnown, gLd d h4 x4_lineCount x4_goodsCount x4_workCount x4_years x4_lines x4_goods x4_works x4_change x4_coin x4_knownFree x4_isKnown] (fun _ : Unit => (none, [gCh d h0 (h1 0) a0_after (h3 0) (out.1), gTr d h1 (h2 0) x1_left (out.2.1) x1_turnCost x1_turnWayless, gWy d h2 (out.2.2.1.1) (out.2.2.1.2.1) (out.2.2.1.2.2.1) (out.2.2.1.2.2.2.1) (out.2.2.1.2.2.2.2.1) (out.2.2.1.2.2.2.2.2.1) (out.2.2.1.2.2.2.2.2.2.1) (out.2.2.1.2.2.2.2.2.2.2.1) (out.2.2.1.2.2.2.2.2.2.2.2.1) (out.2.2.1.2.2.2.2.2.2.2.2.2.1) (out.2.2.1.2.2.2.2.2.2.2.2.2.2.1) (out.2.2.1.2.2.2.2.2.2.2.2.2.2.2.1) (out.2.2.1.2.2.2.2.2.2.2.2.2.2.2.2.1) (out.2.2.1.2.2.2.2.2.2.2.2.2.2.2.2.2), gLd d h3 (out.2.2.2.1) (out.2.2.2.2.1) (out.2.2.2.2.2.1) (out.2.2.2.2.2.2.1) (out.2.2.2.2.2.2.2.1) (out.2.2.2.2.2.2.2.2.1) (out.2.2.2.2.2.2.2.2.2.1) (out.2.2.2.2.2.2.2.2.2.2.1) (out.2.2.2.2.2.2.2.2.2.2.2.1) x3_knownFree (out.2.2.2.2.2.2.2.2.2.2.2.2), gLd d h4 x4_lineCount x4_goodsCount x4_workCount x4_years x4_lines x4_goods x4_works x4_change x4_coin x4_knownFree x4_isKnown])) := by
  refine Ct.of (by decide) (Nat.le_of_ble_eq_true rfl) ?_
  intro Φ hl hK hR
  subst hl
  have hK : Ok d Φ RX0 "gainBy" cX0_gainBy 4 none { frames := 6, cells := 0, slots := 0, locals := 154 } := hK
  unfold fX0_gainBy at hf
  have hf := un4 hf
  have hf := un14 hf
  have hf := un11 hf
  have hf := un11 hf
  show J d Φ 4 [gCh d h0 (h1 0) a0_after (h3 0) x0_gained, gTr d h1 (h2 0) x1_left x1_earned x1_turnCost x1_turnWayless, gWy d h2 x2_edgeA x2_edgeB x2_edgeCost x2_edgeLine x2_change x2_away x2_steps x2_nodes x2_stepCount x2_open x2_openCount x2_seen x2_edgeCount x2_aim, gLd d h3 x3_lineCount x3_goodsCount x3_workCount x3_years x3_lines x3_goods x3_works x3_change x3_coin x3_knownFree x3_isKnown, gLd d h4 x4_lineCount x4_goodsCount x4_workCount x4_years x4_lines x4_goods x4_works x4_change x4_coin x4_knownFree x4_isKnown] 0 0 0 [(0, .ref (h0 0)), (1, .ref (h4 0)), (2, .int p2)] []
  refine J_aload_n hK dX0_gainBy_0 rfl 0 rfl rfl ?_
  refine J_get hK fo_RX0_29 dX0_gainBy_1 rfl 0 0 rfl rfl rfl ?_
  refine J_aload_n hK dX0_gainBy_4 rfl 1 rfl rfl ?_
  obtain ⟨⟨g2, g3, g4, g5, g6, g7, g8, g9, g10, g11⟩, e12, hf⟩ := bs hf
  have hf := un10 hf
  refine J_callV (m' := 5) (ce' := 0) (sl' := 0) (gr := [gCh d h0 (h1 0) a0_after (h3 0) x0_gained, gTr d h1 (h2 0) x1_left x1_earned x1_turnCost x1_turnWayless, gWy d h2 x2_edgeA x2_edgeB x2_edgeCost x2_edgeLine x2_change x2_away x2_steps x2_nodes x2_stepCount x2_open x2_openCount x2_seen x2_edgeCount x2_aim]) (gs' := fun _ => [gCh d h0 (h1 0) a0_after (h3 0) x0_gained, gTr d h1 (h2 0) x1_left x1_earned x1_turnCost x1_turnWayless, gWy d h2 x2_edgeA x2_edgeB x2_edgeCost x2_edgeLine x2_change x2_away x2_steps x2_nodes x2_stepCount x2_open x2_openCount x2_seen x2_edgeCount x2_aim, gLd d h3 g2 g3 g4 g5 g6 g7 g8 g9 g10 x3_knownFree g11, gLd d h4 x4_lineCount x4_goodsCount x4_workCount x4_years x4_lines x4_goods x4_works x4_change x4_coin x4_knownFree x4_isKnown]) (st' := fun _ => []) (st := []) hK dX0_gainBy_5 cv_RX0_40 iv_yX1_take (As := [.ref (h4 0)]) (kX1_take _ d h3 h4 x3_lineCount x3_goodsCount x3_workCount x3_years x3_lines x3_goods x3_works x3_change x3_coin x3_knownFree x3_isKnown x4_lineCount x4_goodsCount x4_workCount x4_years x4_lines x4_goods x4_works x4_change x4_coin x4_knownFree x4_isKnown e12) rfl rfl (Nat.le_of_ble_eq_true rfl) (by decide) 3 0 rfl rfl rfl [3, 4] [0, 1, 2] rfl rfl rfl rfl [0, 1, 2, 3, 4] rfl (fun _ => rfl) (fun _ => rfl) rfl rfl rfl (fun _ => rfl) (fun _ => ?_)
  refine J_aload_n hK dX0_gainBy_8 rfl 0 rfl rfl ?_
  refine J_get hK fo_RX0_29 dX0_gainBy_9 rfl 0 0 rfl rfl rfl ?_
  refine J_iload_n hK dX0_gainBy_12 rfl 2 rfl rfl ?_
  obtain ⟨⟨g13, g14, g15, g16⟩, e17, hf⟩ := bs hf
  have hf := un4 hf
  refine J_callV (m' := 5) (ce' := 0) (sl' := 0) (gr := [gCh d h0 (h1 0) a0_after (h3 0) x0_gained, gTr d h1 (h2 0) x1_left x1_earned x1_turnCost x1_turnWayless, gWy d h2 x2_edgeA x2_edgeB x2_edgeCost x2_edgeLine x2_change x2_away x2_steps x2_nodes x2_stepCount x2_open x2_openCount x2_seen x2_edgeCount x2_aim, gLd d h4 x4_lineCount x4_goodsCount x4_workCount x4_years x4_lines x4_goods x4_works x4_change x4_coin x4_knownFree x4_isKnown]) (gs' := fun _ => [gCh d h0 (h1 0) a0_after (h3 0) x0_gained, gTr d h1 (h2 0) x1_left x1_earned x1_turnCost x1_turnWayless, gWy d h2 x2_edgeA x2_edgeB x2_edgeCost x2_edgeLine x2_change x2_away x2_steps x2_nodes x2_stepCount x2_open x2_openCount x2_seen x2_edgeCount x2_aim, gLd d h3 g13 g3 g4 g5 g14 g7 g8 g15 g10 x3_knownFree g16, gLd d h4 x4_lineCount x4_goodsCount x4_workCount x4_years x4_lines x4_goods x4_works x4_change x4_coin x4_knownFree x4_isKnown]) (st' := fun _ => []) (st := []) hK dX0_gainBy_13 cv_RX0_48 iv_yX1_perform (As := [.int p2]) (kX1_perform _ d h3 g2 g3 g4 g5 g6 g7 g8 g9 g10 x3_knownFree g11 p2 e17) rfl rfl (Nat.le_of_ble_eq_true rfl) (by decide) 3 0 rfl rfl rfl [3] [0, 1, 2, 4] rfl rfl rfl rfl [0, 1, 2, 4, 3] rfl (fun _ => rfl) (fun _ => rfl) rfl rfl rfl (fun _ => rfl) (fun _ => ?_)
  refine J_aload_n hK dX0_gainBy_16 rfl 0 rfl rfl ?_
  refine J_get hK fo_RX0_12 dX0_gainBy_17 rfl 0 0 rfl rfl rfl ?_
  refine J_aload_n hK dX0_gainBy_20 rfl 0 rfl rfl ?_
  refine J_get hK fo_RX0_29 dX0_gainBy_21 rfl 0 0 rfl rfl rfl ?_
  refine J_aload_n hK dX0_gainBy_24 rfl 0 rfl rfl ?_
  refine J_get hK fo_RX0_25 dX0_gainBy_25 rfl 0 0 rfl rfl rfl ?_
  refine J_fl (gs2 := [(gCh d h0 (h1 0) a0_after (h3 0) x0_gained).take 1, [cI d (h0 1) 6 x0_gained], (gCh d h0 (h1 0) a0_after (h3 0) x0_gained).drop 2, gTr d h1 (h2 0) x1_left x1_earned x1_turnCost x1_turnWayless, gWy d h2 x2_edgeA x2_edgeB x2_edgeCost x2_edgeLine x2_change x2_away x2_steps x2_nodes x2_stepCount x2_open x2_openCount x2_seen x2_edgeCount x2_aim, gLd d h3 g13 g3 g4 g5 g14 g7 g8 g15 g10 x3_knownFree g16, gLd d h4 x4_lineCount x4_goodsCount x4_workCount x4_years x4_lines x4_goods x4_works x4_change x4_coin x4_knownFree x4_isKnown]) rfl ?_
  obtain ⟨⟨⟨g19, g20, g21, g22, g23, g24, g25, g26, g27, g28, g29, g30, g31, g32⟩, g33⟩, e34, hf⟩ := bs hf
  have hf := un2 hf
  have hf := un14 hf
  refine J_callV (m' := 7) (ce' := 0) (sl' := 0) (gr := [(gCh d h0 (h1 0) a0_after (h3 0) x0_gained).take 1, (gCh d h0 (h1 0) a0_after (h3 0) x0_gained).drop 2, gLd d h4 x4_lineCount x4_goodsCount x4_workCount x4_years x4_lines x4_goods x4_works x4_change x4_coin x4_knownFree x4_isKnown]) (gs' := fun _ => [(gCh d h0 (h1 0) a0_after (h3 0) x0_gained).take 1, [cI d (h0 1) 6 g33], (gCh d h0 (h1 0) a0_after (h3 0) x0_gained).drop 2, gTr d h1 (h2 0) x1_left x1_earned x1_turnCost x1_turnWayless, gWy d h2 g19 g20 g21 g22 g23 g24 g25 g26 g27 g28 g29 g30 g31 g32, gLd d h3 g13 g3 g4 g5 g14 g7 g8 g15 g10 x3_knownFree g16, gLd d h4 x4_lineCount x4_goodsCount x4_workCount x4_years x4_lines x4_goods x4_works x4_change x4_coin x4_knownFree x4_isKnown]) (st' := fun _ => []) (st := []) hK dX0_gainBy_28 cv_RX0_104 iv_yX4_earn (As := [.ref (h3 0), .ref (h0 1)]) (kX4_earn _ d h1 h2 h3 (h0 1) n x1_left x1_earned x1_turnCost x1_turnWayless x2_edgeA x2_edgeB x2_edgeCost x2_edgeLine x2_change x2_away x2_steps x2_nodes x2_stepCount x2_open x2_openCount x2_seen x2_edgeCount x2_aim g13 g3 g4 g5 g14 g7 g8 g15 g10 x3_knownFree g16 6 x0_gained e34) rfl rfl (Nat.le_of_ble_eq_true rfl) (by decide) 3 0 rfl rfl rfl [3, 4, 5, 1] [0, 2, 6] rfl rfl rfl rfl [0, 6, 1, 3, 4, 5, 2] rfl (fun _ => rfl) (fun _ => rfl) rfl rfl rfl (fun _ => rfl) (fun _ => ?_)
  refine J_fl (gs2 := [gCh d h0 (h1 0) a0_after (h3 0) g33, gTr d h1 (h2 0) x1_left x1_earned x1_turnCost x1_turnWayless, gWy d h2 g19 g20 g21 g22 g23 g24 g25 g26 g27 g28 g29 g30 g31 g32, gLd d h3 g13 g3 g4 g5 g14 g7 g8 g15 g10 x3_knownFree g16, gLd d h4 x4_lineCount x4_goodsCount x4_workCount x4_years x4_lines x4_goods x4_works x4_change x4_coin x4_knownFree x4_isKnown]) rfl ?_
  refine J_aload_n hK dX0_gainBy_31 rfl 0 rfl rfl ?_
  refine J_get hK fo_RX0_12 dX0_gainBy_32 rfl 0 0 rfl rfl rfl ?_
  refine J_aload_n hK dX0_gainBy_35 rfl 1 rfl rfl ?_
  refine J_aload_n hK dX0_gainBy_36 rfl 0 rfl rfl ?_
  refine J_get hK fo_RX0_12 dX0_gainBy_37 rfl 0 0 rfl rfl rfl ?_
  refine J_get hK fo_RX0_108 dX0_gainBy_40 rfl 1 0 rfl rfl rfl ?_
  obtain ⟨⟨g35, ⟨g37, g38, g39, g40, g41, g42, g43, g44, g45, g46, g47, g48, g49, g50⟩⟩, e51, hf⟩ := bs hf
  have hf := un2 hf
  have hf := un14 hf
  refine J_callV (m' := 5) (ce' := 0) (sl' := 0) (gr := [gCh d h0 (h1 0) a0_after (h3 0) g33, gLd d h3 g13 g3 g4 g5 g14 g7 g8 g15 g10 x3_knownFree g16]) (gs' := fun _ => [gCh d h0 (h1 0) a0_after (h3 0) g33, gTr d h1 (h2 0) x1_left g35 x1_turnCost x1_turnWayless, gWy d h2 g37 g38 g39 g40 g41 g42 g43 g44 g45 g46 g47 g48 g49 g50, gLd d h3 g13 g3 g4 g5 g14 g7 g8 g15 g10 x3_knownFree g16, gLd d h4 x4_lineCount x4_goodsCount x4_workCount x4_years x4_lines x4_goods x4_works x4_change x4_coin x4_knownFree x4_isKnown]) (st' := fun _ => []) (st := []) hK dX0_gainBy_43 cv_RX0_104 iv_yX4_earn (As := [.ref (h4 0), .ref (h1 2)]) (kX4_earnB _ d h1 h2 h4 n x1_left x1_earned x1_turnCost x1_turnWayless g19 g20 g21 g22 g23 g24 g25 g26 g27 g28 g29 g30 g31 g32 x4_lineCount x4_goodsCount x4_workCount x4_years x4_lines x4_goods x4_works x4_change x4_coin x4_knownFree x4_isKnown e51) rfl rfl (Nat.le_of_ble_eq_true rfl) (by decide) 1 0 rfl rfl rfl [1, 2, 4] [0, 3] rfl rfl rfl rfl [0, 2, 3, 1, 4] rfl (fun _ => rfl) (fun _ => rfl) rfl rfl rfl (fun _ => rfl) (fun _ => ?_)
  refine J_iconst (v := 0) hK dX0_gainBy_46 rfl (by decide) ?_
  refine J_istore_n (L' := [(3, .int (0)), (0, .ref (h0 0)), (1, .ref (h4 0)), (2, .int p2)]) hK dX0_gainBy_47 rfl rfl (by decide) rfl ?_
  obtain ⟨e55, hl52, hf⟩ := bs hf
  have hx52_78 : ∀ (w56 : (Nat → Int32)), w56 = e55 → J d Φ 4 [gCh d h0 (h1 0) a0_after (h3 0) w56, gTr d h1 (h2 0) x1_left g35 x1_turnCost x1_turnWayless, gWy d h2 g37 g38 g39 g40 g41 g42 g43 g44 g45 g46 g47 g48 g49 g50, gLd d h3 g13 g3 g4 g5 g14 g7 g8 g15 g10 x3_knownFree g16, gLd d h4 x4_lineCount x4_goodsCount x4_workCount x4_years x4_lines x4_goods x4_works x4_change x4_coin x4_knownFree x4_isKnown] 0 0 78 [] [] := by
    intro w56 he
    rw [← he] at hf
    obtain rfl := Option.some.inj hf
    exact J_vret hK hR dX0_gainBy_78 () rfl (by decide) (by decide)
  have lo52 : ∀ (k : Nat) (z53 : Int32) (z54 : (Nat → Int32)), lp (u2 (fX0_gainBy_s48 g35)) k (z53, z54) = some e55 → J d Φ 4 [gCh d h0 (h1 0) a0_after (h3 0) z54, gTr d h1 (h2 0) x1_left g35 x1_turnCost x1_turnWayless, gWy d h2 g37 g38 g39 g40 g41 g42 g43 g44 g45 g46 g47 g48 g49 g50, gLd d h3 g13 g3 g4 g5 g14 g7 g8 g15 g10 x3_knownFree g16, gLd d h4 x4_lineCount x4_goodsCount x4_workCount x4_years x4_lines x4_goods x4_works x4_change x4_coin x4_knownFree x4_isKnown] 0 0 48 [(0, .ref (h0 0)), (3, .int z53)] [] := by
    intro k
    induction k with
    | zero => intro z53 z54 h; cases h
    | succ k ih52 =>
      intro z53 z54 h
      obtain ⟨k2, rr52, hk2, hs52, hr52⟩ := lp_ok h
      cases hk2
      have hs52 : fX0_gainBy_s48 g35 z53 z54 = some rr52 := hs52
      unfold fX0_gainBy_s48 at hs52
      refine J_iload_n hK dX0_gainBy_48 rfl 1 rfl rfl ?_
      refine J_bipush (v := 6) hK dX0_gainBy_49 rfl (by decide) ?_
      refine J_icmp_ge (tg := 78) hK dX0_gainBy_51 rfl rfl (fun hc51 => ?_) (fun hc51 => ?_)
      · have hs52 := ip hc51 hs52
        exact J_loc [] rfl (hx52_78 z54 (lpx hs52 hr52))
      · have hs52 := iq hc51 hs52
        refine J_aload_n hK dX0_gainBy_54 rfl 0 rfl rfl ?_
        refine J_get hK fo_RX0_25 dX0_gainBy_55 rfl 0 0 rfl rfl rfl ?_
        refine J_iload_n hK dX0_gainBy_58 rfl 1 rfl rfl ?_
        refine J_dup2 hK dX0_gainBy_59 rfl rfl rfl ?_
        obtain ⟨v57, ev57, hs52⟩ := bs hs52
        refine J_iald hK dX0_gainBy_60 rfl 0 1 rfl rfl ev57 ?_
        refine J_aload_n hK dX0_gainBy_61 rfl 0 rfl rfl ?_
        refine J_get hK fo_RX0_12 dX0_gainBy_62 rfl 0 0 rfl rfl rfl ?_
        refine J_get hK fo_RX0_108 dX0_gainBy_65 rfl 1 0 rfl rfl rfl ?_
        refine J_iload_n hK dX0_gainBy_68 rfl 1 rfl rfl ?_
        obtain ⟨v58, ev58, hs52⟩ := bs hs52
        refine J_iald hK dX0_gainBy_69 rfl 1 2 rfl rfl ev58 ?_
        refine J_isub hK dX0_gainBy_70 rfl ?_
        obtain ⟨f59, ef59, hs52⟩ := bs hs52
        refine J_iast (g' := gCh d h0 (h1 0) a0_after (h3 0) f59) (gs' := [gCh d h0 (h1 0) a0_after (h3 0) f59, gTr d h1 (h2 0) x1_left g35 x1_turnCost x1_turnWayless, gWy d h2 g37 g38 g39 g40 g41 g42 g43 g44 g45 g46 g47 g48 g49 g50, gLd d h3 g13 g3 g4 g5 g14 g7 g8 g15 g10 x3_knownFree g16, gLd d h4 x4_lineCount x4_goodsCount x4_workCount x4_years x4_lines x4_goods x4_works x4_change x4_coin x4_knownFree x4_isKnown]) hK dX0_gainBy_71 rfl 0 1 rfl rfl ef59 rfl rfl ?_
        refine J_iinc (L' := [(3, .int (z53 + 1)), (0, .ref (h0 0))]) (v := (z53 + 1)) hK dX0_gainBy_72 rfl 1 rfl rfl (by decide) rfl ?_
        refine J_goto hK dX0_gainBy_75 (n := 48) rfl ?_
        exact J_loc [1, 0] rfl (ih52 (z53 + 1) f59 (lpc hs52 hr52))
  exact J_loc [1, 0] rfl (lo52 n (0) g33 hl52)

def fX0_workTold (X0 : LdT) (p1 : Int64) : Option (Int32) :=
  u11 (fun (x0_lineCount : Int32) (x0_goodsCount : Int32) (x0_workCount : Int32) (x0_years : Int32) (x0_lines : (Nat → Int32)) (x0_goods : (Nat → Int32)) (x0_works : (Nat → Int32)) (x0_change : (Nat → Int32)) (x0_coin : (Nat → Int32)) (x0_knownFree : (Nat → Int32)) (x0_isKnown : Int32) => if (lg_cmp p1 (0 : Int64)) < 0 then (some (-1)) else (if 0 ≤ (lg_cmp p1 ((x0_workCount).toInt64)) then (some (-1)) else ((fX1_isDone (x0_lineCount, x0_goodsCount, x0_workCount, x0_years, x0_lines, x0_goods, x0_works, x0_change, x0_coin, x0_knownFree, x0_isKnown) ((p1).toInt32)).bind (fun v1 => if v1 = 0 then (some ((p1).toInt32)) else (some (-1)))))) X0
set_option maxHeartbeats 4000000 in
set_option maxRecDepth 100000 in
theorem kX0_workTold (l : Launch) (d : DT) (h0 : Nat → Nat) (x0_lineCount : Int32) (x0_goodsCount : Int32) (x0_workCount : Int32) (x0_years : Int32) (x0_lines : (Nat → Int32)) (x0_goods : (Nat → Int32)) (x0_works : (Nat → Int32)) (x0_change : (Nat → Int32)) (x0_coin : (Nat → Int32)) (x0_knownFree : (Nat → Int32)) (x0_isKnown : Int32) (p1 : Int64)  {out : Int32} (hf : fX0_workTold (x0_lineCount, x0_goodsCount, x0_workCount, x0_years, x0_lines, x0_goods, x0_works, x0_change, x0_coin, x0_knownFree, x0_isKnown) p1 = some out) : Ct l d yX0_workTold cX0_workTold 3 (some .int) { frames := 2, cells := 0, slots := 0, locals := 43 } [.ref (h0 0), .long p1] [gLd d h0 x0_lineCount x0_goodsCount x0_workCount x0_years x0_lines x0_goods x0_works x0_change x0_coin x0_knownFree x0_isKnown] (fun _ : Unit => (some (.int out), [gLd d h0 x0_lineCount x0_goodsCount x0_workCount x0_years x0_lines x0_goods x0_works x0_change x0_coin x0_knownFree x0_isKnown])) := by
  refine Ct.of (by decide) (Nat.le_of_ble_eq_true rfl) ?_
  intro Φ hl hK hR
  subst hl
  have hK : Ok d Φ RX0 "workTold" cX0_workTold 3 (some .int) { frames := 2, cells := 0, slots := 0, locals := 43 } := hK
  unfold fX0_workTold at hf
  have hf := un11 hf
  show J d Φ 3 [gLd d h0 x0_lineCount x0_goodsCount x0_workCount x0_years x0_lines x0_goods x0_works x0_change x0_coin x0_knownFree x0_isKnown] 0 0 0 [(0, .ref (h0 0)), (1, .long p1)] []
  refine J_lload_n hK dX0_workTold_0 rfl 1 rfl rfl ?_
  refine J_lconst (v := 0) hK dX0_workTold_1 rfl (by decide) ?_
  refine J_lcmp hK dX0_workTold_2 rfl ?_
  refine J_if_lt (tg := 25) hK dX0_workTold_3 rfl rfl (fun hc3 => ?_) (fun hc3 => ?_)
  · have hf := ip hc3 hf
    refine J_iconst (v := (-1)) hK dX0_workTold_25 rfl (by decide) ?_
    obtain rfl := Option.some.inj hf
    exact J_iret hK hR dX0_workTold_26 () rfl (by decide) (by decide)
  · have hf := iq hc3 hf
    refine J_lload_n hK dX0_workTold_6 rfl 1 rfl rfl ?_
    refine J_aload_n hK dX0_workTold_7 rfl 0 rfl rfl ?_
    refine J_get hK fo_RX0_44 dX0_workTold_8 rfl 0 0 rfl rfl rfl ?_
    refine J_i2l hK dX0_workTold_11 rfl ?_
    refine J_lcmp hK dX0_workTold_12 rfl ?_
    refine J_if_ge (tg := 25) hK dX0_workTold_13 rfl rfl (fun hc13 => ?_) (fun hc13 => ?_)
    · have hf := ip hc13 hf
      refine J_iconst (v := (-1)) hK dX0_workTold_25 rfl (by decide) ?_
      obtain rfl := Option.some.inj hf
      exact J_iret hK hR dX0_workTold_26 () rfl (by decide) (by decide)
    · have hf := iq hc13 hf
      refine J_aload_n hK dX0_workTold_16 rfl 0 rfl rfl ?_
      refine J_lload_n hK dX0_workTold_17 rfl 1 rfl rfl ?_
      refine J_l2i hK dX0_workTold_18 rfl ?_
      obtain ⟨v1, e2, hf⟩ := bs hf
      refine J_callV (m' := 1) (ce' := 0) (sl' := 0) (gr := []) (gs' := fun _ => [gLd d h0 x0_lineCount x0_goodsCount x0_workCount x0_years x0_lines x0_goods x0_works x0_change x0_coin x0_knownFree x0_isKnown]) (st' := fun _ => [.int v1]) (st := []) hK dX0_workTold_19 cv_RX0_69 iv_yX1_isDone (As := [.int ((p1).toInt32)]) (kX1_isDone _ d h0 x0_lineCount x0_goodsCount x0_workCount x0_years x0_lines x0_goods x0_works x0_change x0_coin x0_knownFree x0_isKnown ((p1).toInt32) e2) rfl rfl (Nat.le_of_ble_eq_true rfl) (by decide) 0 0 rfl rfl rfl [0] [] rfl rfl rfl rfl [0] rfl (fun _ => rfl) (fun _ => rfl) rfl rfl rfl (fun _ => rfl) (fun _ => ?_)
      refine J_if_eq (tg := 27) hK dX0_workTold_22 rfl rfl (fun hc22 => ?_) (fun hc22 => ?_)
      · have hf := ip hc22 hf
        refine J_lload_n hK dX0_workTold_27 rfl 1 rfl rfl ?_
        refine J_l2i hK dX0_workTold_28 rfl ?_
        obtain rfl := Option.some.inj hf
        exact J_iret hK hR dX0_workTold_29 () rfl (by decide) (by decide)
      · have hf := iq hc22 hf
        refine J_iconst (v := (-1)) hK dX0_workTold_25 rfl (by decide) ?_
        obtain rfl := Option.some.inj hf
        exact J_iret hK hR dX0_workTold_26 () rfl (by decide) (by decide)

def fX6_within (p0 : Int32) (p1 : Int32) (p2 : Int32) : Option (Int32) :=
  if p0 < p1 then (some (0)) else (if p2 < p0 then (some (0)) else (some (1)))
set_option maxHeartbeats 4000000 in
set_option maxRecDepth 100000 in
theorem kX6_within (l : Launch) (d : DT)  (p0 : Int32) (p1 : Int32) (p2 : Int32)  {out : Int32} (hf : fX6_within p0 p1 p2 = some out) : Ct l d yX6_within cX6_within 3 (some .boolean) { frames := 0, cells := 0, slots := 0, locals := 0 } [.int p0, .int p1, .int p2] [] (fun _ : Unit => (some (.int out), [])) := by
  refine Ct.of (by decide) (Nat.le_of_ble_eq_true rfl) ?_
  intro Φ hl hK hR
  subst hl
  have hK : Ok d Φ RX6 "within" cX6_within 3 (some .boolean) { frames := 0, cells := 0, slots := 0, locals := 0 } := hK
  unfold fX6_within at hf
  show J d Φ 3 [] 0 0 0 [(0, .int p0), (1, .int p1), (2, .int p2)] []
  refine J_iload_n hK dX6_within_0 rfl 0 rfl rfl ?_
  refine J_iload_n hK dX6_within_1 rfl 1 rfl rfl ?_
  refine J_icmp_lt (tg := 14) hK dX6_within_2 rfl rfl (fun hc2 => ?_) (fun hc2 => ?_)
  · have hf := ip hc2 hf
    refine J_iconst (v := 0) hK dX6_within_14 rfl (by decide) ?_
    cases hf
    exact J_zret hK hR dX6_within_15 () rfl rfl (by decide) (by decide)
  · have hf := iq hc2 hf
    refine J_iload_n hK dX6_within_5 rfl 0 rfl rfl ?_
    refine J_iload_n hK dX6_within_6 rfl 2 rfl rfl ?_
    refine J_icmp_gt (tg := 14) hK dX6_within_7 rfl rfl (fun hc7 => ?_) (fun hc7 => ?_)
    · have hf := ip hc7 hf
      refine J_iconst (v := 0) hK dX6_within_14 rfl (by decide) ?_
      cases hf
      exact J_zret hK hR dX6_within_15 () rfl rfl (by decide) (by decide)
    · have hf := iq hc7 hf
      refine J_iconst (v := 1) hK dX6_within_10 rfl (by decide) ?_
      refine J_goto hK dX6_within_11 (n := 15) rfl ?_
      cases hf
      exact J_zret hK hR dX6_within_15 () rfl rfl (by decide) (by decide)

def fX1_hasLine (X0 : LdT) (p1 : Int32) : Option (Int32) :=
  (fX6_within p1 (0) ((ld_lineCount X0) - 1)).bind (fun v1 => (zb v1).bind fun v3 => some v3)
set_option maxHeartbeats 4000000 in
set_option maxRecDepth 100000 in
theorem kX1_hasLine (l : Launch) (d : DT) (h0 : Nat → Nat) (X0 : LdT) (p1 : Int32)  {out : Int32} (hf : fX1_hasLine X0 p1 = some out) : Ct l d yX1_hasLine cX1_hasLine 2 (some .boolean) { frames := 1, cells := 0, slots := 0, locals := 22 } [.ref (h0 0), .int p1] [gLd d h0 X0] (fun _ : Unit => (some (.int out), [gLd d h0 X0])) := by
  refine Ct.of (by decide) (Nat.le_of_ble_eq_true rfl) ?_
  intro Φ hl hK hR
  subst hl
  have hK : Ok d Φ RX1 "hasLine" cX1_hasLine 2 (some .boolean) { frames := 1, cells := 0, slots := 0, locals := 22 } := hK
  unfold fX1_hasLine at hf
  show J d Φ 2 [gLd d h0 X0] 0 0 0 [(0, .ref (h0 0)), (1, .int p1)] []
  refine J_iload_n hK dX1_hasLine_0 rfl 1 rfl rfl ?_
  refine J_iconst (v := 0) hK dX1_hasLine_1 rfl (by decide) ?_
  refine J_aload_n hK dX1_hasLine_2 rfl 0 rfl rfl ?_
  refine J_get hK fo_RX1_30 dX1_hasLine_3 rfl 0 0 rfl rfl rfl ?_
  refine J_iconst (v := 1) hK dX1_hasLine_6 rfl (by decide) ?_
  refine J_isub hK dX1_hasLine_7 rfl ?_
  obtain ⟨v1, e2, hf⟩ := bs hf
  refine J_callN (gr := [gLd d h0 X0]) (gs' := fun _ => [gLd d h0 X0]) (st' := fun _ => [.int v1]) (st := []) hK dX1_hasLine_8 cn_RX1_59 (As := [.int p1, .int (0), .int ((ld_lineCount X0) - 1)]) (kX6_within _ d p1 (0) ((ld_lineCount X0) - 1) e2) rfl rfl (Nat.le_of_ble_eq_true rfl) (by decide) [] [0] rfl rfl rfl rfl [0] rfl (fun _ => rfl) (fun _ => rfl) rfl rfl rfl (fun _ => rfl) (fun _ => ?_)
  obtain ⟨v3, ev3, hf⟩ := bs hf
  cases hf
  exact J_zret hK hR dX1_hasLine_11 () (zb_ok ev3).2 (by rw [(zb_ok ev3).1]) (by decide) (by decide)

def fX1_ofLine (X0 : LdT) (p1 : Int32) (p2 : Int32) : Option (Int32) :=
  (rd 140 (ld_lines X0) ((p1 * 7) + p2)).bind fun v1 => some v1
set_option maxHeartbeats 4000000 in
set_option maxRecDepth 100000 in
theorem kX1_ofLine (l : Launch) (d : DT) (h0 : Nat → Nat) (X0 : LdT) (p1 : Int32) (p2 : Int32)  {out : Int32} (hf : fX1_ofLine X0 p1 p2 = some out) : Ct l d yX1_ofLine cX1_ofLine 3 (some .int) { frames := 0, cells := 0, slots := 0, locals := 0 } [.ref (h0 0), .int p1, .int p2] [gLd d h0 X0] (fun _ : Unit => (some (.int out), [gLd d h0 X0])) := by
  refine Ct.of (by decide) (Nat.le_of_ble_eq_true rfl) ?_
  intro Φ hl hK hR
  subst hl
  have hK : Ok d Φ RX1 "ofLine" cX1_ofLine 3 (some .int) { frames := 0, cells := 0, slots := 0, locals := 0 } := hK
  unfold fX1_ofLine at hf
  show J d Φ 3 [gLd d h0 X0] 0 0 0 [(0, .ref (h0 0)), (1, .int p1), (2, .int p2)] []
  refine J_aload_n hK dX1_ofLine_0 rfl 0 rfl rfl ?_
  refine J_get hK fo_RX1_9 dX1_ofLine_1 rfl 0 0 rfl rfl rfl ?_
  refine J_iload_n hK dX1_ofLine_4 rfl 1 rfl rfl ?_
  refine J_bipush (v := 7) hK dX1_ofLine_5 rfl (by decide) ?_
  refine J_imul hK dX1_ofLine_7 rfl ?_
  refine J_iload_n hK dX1_ofLine_8 rfl 2 rfl rfl ?_
  refine J_iadd hK dX1_ofLine_9 rfl ?_
  obtain ⟨v1, ev1, hf⟩ := bs hf
  refine J_iald hK dX1_ofLine_10 rfl 0 1 rfl rfl ev1 ?_
  cases hf
  exact J_iret hK hR dX1_ofLine_11 () rfl (by decide) (by decide)

def fX1_addLine (X0 : LdT) (p1 : Int32) (p2 : Int32) (p3 : Int32) (p4 : Int32) (p5 : Int32) (p6 : Int32) : Option (Int32 × (Nat → Int32) × Int32) :=
  if (ld_lineCount X0) < 20 then ((wr 140 (ld_lines X0) (((ld_lineCount X0) * 7) + 0) p1).bind fun f1 => (wr 140 f1 (((ld_lineCount X0) * 7) + 1) p2).bind fun f2 => (wr 140 f2 (((ld_lineCount X0) * 7) + 2) p3).bind fun f3 => (wr 140 f3 (((ld_lineCount X0) * 7) + 3) p4).bind fun f4 => (wr 140 f4 (((ld_lineCount X0) * 7) + 4) p5).bind fun f5 => (wr 140 f5 (((ld_lineCount X0) * 7) + 5) p6).bind fun f6 => (wr 140 f6 (((ld_lineCount X0) * 7) + 6) (0)).bind fun f7 => some (((ld_lineCount X0) + 1), f7, 0)) else (some ((ld_lineCount X0), (ld_lines X0), (ld_isKnown X0)))
set_option maxHeartbeats 4000000 in
set_option maxRecDepth 100000 in
theorem kX1_addLine (l : Launch) (d : DT) (h0 : Nat → Nat) (X0 : LdT) (p1 : Int32) (p2 : Int32) (p3 : Int32) (p4 : Int32) (p5 : Int32) (p6 : Int32)  {out : Int32 × (Nat → Int32) × Int32} (hf : fX1_addLine X0 p1 p2 p3 p4 p5 p6 = some out) : Ct l d yX1_addLine cX1_addLine 8 none { frames := 0, cells := 0, slots := 0, locals := 0 } [.ref (h0 0), .int p1, .int p2, .int p3, .int p4, .int p5, .int p6] [gLd d h0 X0] (fun _ : Unit => (none, [gLd d h0 (ldS_isKnown (ldS_lines (ldS_lineCount X0 out.1) out.2.1) out.2.2)])) := by
  refine Ct.of (by decide) (Nat.le_of_ble_eq_true rfl) ?_
  intro Φ hl hK hR
  subst hl
  have hK : Ok d Φ RX1 "addLine" cX1_addLine 8 none { frames := 0, cells := 0, slots := 0, locals := 0 } := hK
  unfold fX1_addLine at hf
  show J d Φ 8 [gLd d h0 X0] 0 0 0 [(0, .ref (h0 0)), (1, .int p1), (2, .int p2), (3, .int p3), (4, .int p4), (5, .int p5), (6, .int p6)] []
  refine J_aload_n hK dX1_addLine_0 rfl 0 rfl rfl ?_
  refine J_get hK fo_RX1_30 dX1_addLine_1 rfl 0 0 rfl rfl rfl ?_
  refine J_bipush (v := 20) hK dX1_addLine_4 rfl (by decide) ?_
  refine J_icmp_lt (tg := 10) hK dX1_addLine_6 rfl rfl (fun hc6 => ?_) (fun hc6 => ?_)
  · have hf := ip hc6 hf
    refine J_aload_n hK dX1_addLine_10 rfl 0 rfl rfl ?_
    refine J_get hK fo_RX1_30 dX1_addLine_11 rfl 0 0 rfl rfl rfl ?_
    refine J_bipush (v := 7) hK dX1_addLine_14 rfl (by decide) ?_
    refine J_imul hK dX1_addLine_16 rfl ?_
    refine J_istore (L' := [(7, .int ((ld_lineCount X0) * 7)), (0, .ref (h0 0)), (1, .int p1), (2, .int p2), (3, .int p3), (4, .int p4), (5, .int p5), (6, .int p6)]) hK dX1_addLine_17 rfl (by decide) rfl ?_
    refine J_aload_n hK dX1_addLine_19 rfl 1 rfl rfl ?_
    refine J_get hK fo_RX1_9 dX1_addLine_20 rfl 0 0 rfl rfl rfl ?_
    refine J_iload hK dX1_addLine_23 rfl 0 rfl ?_
    refine J_iconst (v := 0) hK dX1_addLine_25 rfl (by decide) ?_
    refine J_iadd hK dX1_addLine_26 rfl ?_
    refine J_iload_n hK dX1_addLine_27 rfl 2 rfl rfl ?_
    obtain ⟨f1, ef1, hf⟩ := bs hf
    refine J_iast (g' := gLd d h0 (ldS_lines X0 f1)) (gs' := [gLd d h0 (ldS_lines X0 f1)]) hK dX1_addLine_28 rfl 0 1 rfl rfl ef1 rfl rfl ?_
    refine J_aload_n hK dX1_addLine_29 rfl 1 rfl rfl ?_
    refine J_get hK fo_RX1_9 dX1_addLine_30 rfl 0 0 rfl rfl rfl ?_
    refine J_iload hK dX1_addLine_33 rfl 0 rfl ?_
    refine J_iconst (v := 1) hK dX1_addLine_35 rfl (by decide) ?_
    refine J_iadd hK dX1_addLine_36 rfl ?_
    refine J_iload_n hK dX1_addLine_37 rfl 3 rfl rfl ?_
    obtain ⟨f2, ef2, hf⟩ := bs hf
    refine J_iast (g' := gLd d h0 (ldS_lines X0 f2)) (gs' := [gLd d h0 (ldS_lines X0 f2)]) hK dX1_addLine_38 rfl 0 1 rfl rfl ef2 rfl rfl ?_
    refine J_aload_n hK dX1_addLine_39 rfl 1 rfl rfl ?_
    refine J_get hK fo_RX1_9 dX1_addLine_40 rfl 0 0 rfl rfl rfl ?_
    refine J_iload hK dX1_addLine_43 rfl 0 rfl ?_
    refine J_iconst (v := 2) hK dX1_addLine_45 rfl (by decide) ?_
    refine J_iadd hK dX1_addLine_46 rfl ?_
    refine J_iload_n hK dX1_addLine_47 rfl 4 rfl rfl ?_
    obtain ⟨f3, ef3, hf⟩ := bs hf
    refine J_iast (g' := gLd d h0 (ldS_lines X0 f3)) (gs' := [gLd d h0 (ldS_lines X0 f3)]) hK dX1_addLine_48 rfl 0 1 rfl rfl ef3 rfl rfl ?_
    refine J_aload_n hK dX1_addLine_49 rfl 1 rfl rfl ?_
    refine J_get hK fo_RX1_9 dX1_addLine_50 rfl 0 0 rfl rfl rfl ?_
    refine J_iload hK dX1_addLine_53 rfl 0 rfl ?_
    refine J_iconst (v := 3) hK dX1_addLine_55 rfl (by decide) ?_
    refine J_iadd hK dX1_addLine_56 rfl ?_
    refine J_iload hK dX1_addLine_57 rfl 5 rfl ?_
    obtain ⟨f4, ef4, hf⟩ := bs hf
    refine J_iast (g' := gLd d h0 (ldS_lines X0 f4)) (gs' := [gLd d h0 (ldS_lines X0 f4)]) hK dX1_addLine_59 rfl 0 1 rfl rfl ef4 rfl rfl ?_
    refine J_aload_n hK dX1_addLine_60 rfl 1 rfl rfl ?_
    refine J_get hK fo_RX1_9 dX1_addLine_61 rfl 0 0 rfl rfl rfl ?_
    refine J_iload hK dX1_addLine_64 rfl 0 rfl ?_
    refine J_iconst (v := 4) hK dX1_addLine_66 rfl (by decide) ?_
    refine J_iadd hK dX1_addLine_67 rfl ?_
    refine J_iload hK dX1_addLine_68 rfl 6 rfl ?_
    obtain ⟨f5, ef5, hf⟩ := bs hf
    refine J_iast (g' := gLd d h0 (ldS_lines X0 f5)) (gs' := [gLd d h0 (ldS_lines X0 f5)]) hK dX1_addLine_70 rfl 0 1 rfl rfl ef5 rfl rfl ?_
    refine J_aload_n hK dX1_addLine_71 rfl 1 rfl rfl ?_
    refine J_get hK fo_RX1_9 dX1_addLine_72 rfl 0 0 rfl rfl rfl ?_
    refine J_iload hK dX1_addLine_75 rfl 0 rfl ?_
    refine J_iconst (v := 5) hK dX1_addLine_77 rfl (by decide) ?_
    refine J_iadd hK dX1_addLine_78 rfl ?_
    refine J_iload hK dX1_addLine_79 rfl 7 rfl ?_
    obtain ⟨f6, ef6, hf⟩ := bs hf
    refine J_iast (g' := gLd d h0 (ldS_lines X0 f6)) (gs' := [gLd d h0 (ldS_lines X0 f6)]) hK dX1_addLine_81 rfl 0 1 rfl rfl ef6 rfl rfl ?_
    refine J_aload_n hK dX1_addLine_82 rfl 1 rfl rfl ?_
    refine J_get hK fo_RX1_9 dX1_addLine_83 rfl 0 0 rfl rfl rfl ?_
    refine J_iload hK dX1_addLine_86 rfl 0 rfl ?_
    refine J_bipush (v := 6) hK dX1_addLine_88 rfl (by decide) ?_
    refine J_iadd hK dX1_addLine_90 rfl ?_
    refine J_iconst (v := 0) hK dX1_addLine_91 rfl (by decide) ?_
    obtain ⟨f7, ef7, hf⟩ := bs hf
    refine J_iast (g' := gLd d h0 (ldS_lines X0 f7)) (gs' := [gLd d h0 (ldS_lines X0 f7)]) hK dX1_addLine_92 rfl 0 1 rfl rfl ef7 rfl rfl ?_
    refine J_aload_n hK dX1_addLine_93 rfl 1 rfl rfl ?_
    refine J_dup hK dX1_addLine_94 rfl rfl ?_
    refine J_get hK fo_RX1_30 dX1_addLine_95 rfl 0 0 rfl rfl rfl ?_
    refine J_iconst (v := 1) hK dX1_addLine_98 rfl (by decide) ?_
    refine J_iadd hK dX1_addLine_99 rfl ?_
    refine J_put (g' := gLd d h0 (ldS_lines (ldS_lineCount X0 ((ld_lineCount X0) + 1)) f7)) (gs' := [gLd d h0 (ldS_lines (ldS_lineCount X0 ((ld_lineCount X0) + 1)) f7)]) hK fp_RX1_30 dX1_addLine_100 rfl 0 0 rfl rfl rfl rfl (Nat.le_of_ble_eq_true rfl) rfl rfl ?_
    refine J_aload_n hK dX1_addLine_103 rfl 1 rfl rfl ?_
    refine J_iconst (v := 0) hK dX1_addLine_104 rfl (by decide) ?_
    refine J_put (g' := gLd d h0 (ldS_isKnown (ldS_lines (ldS_lineCount X0 ((ld_lineCount X0) + 1)) f7) 0)) (gs' := [gLd d h0 (ldS_isKnown (ldS_lines (ldS_lineCount X0 ((ld_lineCount X0) + 1)) f7) 0)]) hK fp_RX1_43 dX1_addLine_105 rfl 0 0 rfl rfl rfl rfl (Nat.le_of_ble_eq_true rfl) rfl rfl ?_
    cases hf
    exact J_vret hK hR dX1_addLine_108 () rfl (by decide) (by decide)
  · have hf := iq hc6 hf
    cases hf
    exact J_vret hK hR dX1_addLine_9 () rfl (by decide) (by decide)

def fX1_ofWork (X0 : LdT) (p1 : Int32) (p2 : Int32) : Option (Int32) :=
  (rd 35 (ld_works X0) ((p1 * 5) + p2)).bind fun v1 => some v1
set_option maxHeartbeats 4000000 in
set_option maxRecDepth 100000 in
theorem kX1_ofWork (l : Launch) (d : DT) (h0 : Nat → Nat) (X0 : LdT) (p1 : Int32) (p2 : Int32)  {out : Int32} (hf : fX1_ofWork X0 p1 p2 = some out) : Ct l d yX1_ofWork cX1_ofWork 3 (some .int) { frames := 0, cells := 0, slots := 0, locals := 0 } [.ref (h0 0), .int p1, .int p2] [gLd d h0 X0] (fun _ : Unit => (some (.int out), [gLd d h0 X0])) := by
  refine Ct.of (by decide) (Nat.le_of_ble_eq_true rfl) ?_
  intro Φ hl hK hR
  subst hl
  have hK : Ok d Φ RX1 "ofWork" cX1_ofWork 3 (some .int) { frames := 0, cells := 0, slots := 0, locals := 0 } := hK
  unfold fX1_ofWork at hf
  show J d Φ 3 [gLd d h0 X0] 0 0 0 [(0, .ref (h0 0)), (1, .int p1), (2, .int p2)] []
  refine J_aload_n hK dX1_ofWork_0 rfl 0 rfl rfl ?_
  refine J_get hK fo_RX1_18 dX1_ofWork_1 rfl 0 0 rfl rfl rfl ?_
  refine J_iload_n hK dX1_ofWork_4 rfl 1 rfl rfl ?_
  refine J_iconst (v := 5) hK dX1_ofWork_5 rfl (by decide) ?_
  refine J_imul hK dX1_ofWork_6 rfl ?_
  refine J_iload_n hK dX1_ofWork_7 rfl 2 rfl rfl ?_
  refine J_iadd hK dX1_ofWork_8 rfl ?_
  obtain ⟨v1, ev1, hf⟩ := bs hf
  refine J_iald hK dX1_ofWork_9 rfl 0 3 rfl rfl ev1 ?_
  cases hf
  exact J_iret hK hR dX1_ofWork_10 () rfl (by decide) (by decide)

def fX1_isDone (X0 : LdT) (p1 : Int32) : Option (Int32) :=
  (fX1_ofWork X0 p1 (4)).bind (fun v1 => if v1 = 0 then (some (0)) else (some (1)))
set_option maxHeartbeats 4000000 in
set_option maxRecDepth 100000 in
theorem kX1_isDone (l : Launch) (d : DT) (h0 : Nat → Nat) (X0 : LdT) (p1 : Int32)  {out : Int32} (hf : fX1_isDone X0 p1 = some out) : Ct l d yX1_isDone cX1_isDone 2 (some .boolean) { frames := 1, cells := 0, slots := 0, locals := 22 } [.ref (h0 0), .int p1] [gLd d h0 X0] (fun _ : Unit => (some (.int out), [gLd d h0 X0])) := by
  refine Ct.of (by decide) (Nat.le_of_ble_eq_true rfl) ?_
  intro Φ hl hK hR
  subst hl
  have hK : Ok d Φ RX1 "isDone" cX1_isDone 2 (some .boolean) { frames := 1, cells := 0, slots := 0, locals := 22 } := hK
  unfold fX1_isDone at hf
  show J d Φ 2 [gLd d h0 X0] 0 0 0 [(0, .ref (h0 0)), (1, .int p1)] []
  refine J_aload_n hK dX1_isDone_0 rfl 0 rfl rfl ?_
  refine J_iload_n hK dX1_isDone_1 rfl 1 rfl rfl ?_
  refine J_iconst (v := 4) hK dX1_isDone_2 rfl (by decide) ?_
  obtain ⟨v1, e2, hf⟩ := bs hf
  refine J_callV (gr := []) (gs' := fun _ => [gLd d h0 X0]) (st' := fun _ => [.int v1]) (st := []) hK dX1_isDone_3 cv_RX1_63 iv_yX1_ofWork (As := [.int p1, .int (4)]) (kX1_ofWork _ d h0 X0 p1 (4) e2) rfl rfl (Nat.le_of_ble_eq_true rfl) (by decide) 0 0 rfl rfl rfl [0] [] rfl rfl rfl rfl [0] rfl (fun _ => rfl) (fun _ => rfl) rfl rfl rfl (fun _ => rfl) (fun _ => ?_)
  refine J_if_eq (tg := 13) hK dX1_isDone_6 rfl rfl (fun hc6 => ?_) (fun hc6 => ?_)
  · have hf := ip hc6 hf
    refine J_iconst (v := 0) hK dX1_isDone_13 rfl (by decide) ?_
    cases hf
    exact J_zret hK hR dX1_isDone_14 () rfl rfl (by decide) (by decide)
  · have hf := iq hc6 hf
    refine J_iconst (v := 1) hK dX1_isDone_9 rfl (by decide) ?_
    refine J_goto hK dX1_isDone_10 (n := 14) rfl ?_
    cases hf
    exact J_zret hK hR dX1_isDone_14 () rfl rfl (by decide) (by decide)

def fX1_doneWorks_s4 (X0 : LdT) (z2 : Int32) (z3 : Int32) : Option ((Int32 × Int32) ⊕ (Int32)) :=
  if (ld_workCount X0) ≤ z3 then (some (.inr z2)) else ((fX1_isDone X0 z3).bind (fun v6 => if v6 = 0 then (some (.inl (z2, (z3 + 1)))) else ((some (z2 ||| (1 <<< (z3 &&& 31)))).bind fun t8 => some (.inl (t8, (z3 + 1))))))
def fX1_doneWorks (n : Nat) (X0 : LdT) : Option (Int32) :=
  (lp (u2 (fX1_doneWorks_s4 X0)) n (0, 0)).bind (fun w5 => some w5)
set_option maxHeartbeats 4000000 in
set_option maxRecDepth 100000 in
theorem kX1_doneWorks (l : Launch) (d : DT) (h0 : Nat → Nat) (n : Nat) (X0 : LdT)  {out : Int32} (hf : fX1_doneWorks n X0 = some out) : Ct l d yX1_doneWorks cX1_doneWorks 3 (some .int) { frames := 2, cells := 0, slots := 0, locals := 43 } [.ref (h0 0)] [gLd d h0 X0] (fun _ : Unit => (some (.int out), [gLd d h0 X0])) := by
  refine Ct.of (by decide) (Nat.le_of_ble_eq_true rfl) ?_
  intro Φ hl hK hR
  subst hl
  have hK : Ok d Φ RX1 "doneWorks" cX1_doneWorks 3 (some .int) { frames := 2, cells := 0, slots := 0, locals := 43 } := hK
  unfold fX1_doneWorks at hf
  show J d Φ 3 [gLd d h0 X0] 0 0 0 [(0, .ref (h0 0))] []
  refine J_iconst (v := 0) hK dX1_doneWorks_0 rfl (by decide) ?_
  refine J_istore_n (L' := [(1, .int (0)), (0, .ref (h0 0))]) hK dX1_doneWorks_1 rfl rfl (by decide) rfl ?_
  refine J_iconst (v := 0) hK dX1_doneWorks_2 rfl (by decide) ?_
  refine J_istore_n (L' := [(2, .int (0)), (1, .int (0)), (0, .ref (h0 0))]) hK dX1_doneWorks_3 rfl rfl (by decide) rfl ?_
  obtain ⟨e4, hl1, hf⟩ := bs hf
  have hx1_32 : ∀ (w5 : Int32), w5 = e4 → J d Φ 3 [gLd d h0 X0] 0 0 32 [(1, .int w5)] [] := by
    intro w5 he
    rw [← he] at hf
    refine J_iload_n hK dX1_doneWorks_32 rfl 0 rfl rfl ?_
    cases hf
    exact J_iret hK hR dX1_doneWorks_33 () rfl (by decide) (by decide)
  have lo1 : ∀ (k : Nat) (z2 : Int32) (z3 : Int32), lp (u2 (fX1_doneWorks_s4 X0)) k (z2, z3) = some e4 → J d Φ 3 [gLd d h0 X0] 0 0 4 [(0, .ref (h0 0)), (1, .int z2), (2, .int z3)] [] := by
    intro k
    induction k with
    | zero => intro z2 z3 h; cases h
    | succ k ih1 =>
      intro z2 z3 h
      obtain ⟨k2, rr1, hk2, hs1, hr1⟩ := lp_ok h
      cases hk2
      have hs1 : fX1_doneWorks_s4 X0 z2 z3 = some rr1 := hs1
      unfold fX1_doneWorks_s4 at hs1
      refine J_iload_n hK dX1_doneWorks_4 rfl 2 rfl rfl ?_
      refine J_aload_n hK dX1_doneWorks_5 rfl 0 rfl rfl ?_
      refine J_get hK fo_RX1_37 dX1_doneWorks_6 rfl 0 0 rfl rfl rfl ?_
      refine J_icmp_ge (tg := 32) hK dX1_doneWorks_9 rfl rfl (fun hc9 => ?_) (fun hc9 => ?_)
      · have hs1 := ip hc9 hs1
        exact J_loc [1] rfl (hx1_32 z2 (lpx hs1 hr1))
      · have hs1 := iq hc9 hs1
        refine J_aload_n hK dX1_doneWorks_12 rfl 0 rfl rfl ?_
        refine J_iload_n hK dX1_doneWorks_13 rfl 2 rfl rfl ?_
        obtain ⟨v6, e7, hs1⟩ := bs hs1
        refine J_callV (gr := []) (gs' := fun _ => [gLd d h0 X0]) (st' := fun _ => [.int v6]) (st := []) hK dX1_doneWorks_14 cv_RX1_67 iv_yX1_isDone (As := [.int z3]) (kX1_isDone _ d h0 X0 z3 e7) rfl rfl (Nat.le_of_ble_eq_true rfl) (by decide) 0 0 rfl rfl rfl [0] [] rfl rfl rfl rfl [0] rfl (fun _ => rfl) (fun _ => rfl) rfl rfl rfl (fun _ => rfl) (fun _ => ?_)
        refine J_if_eq (tg := 26) hK dX1_doneWorks_17 rfl rfl (fun hc17 => ?_) (fun hc17 => ?_)
        · have hs1 := ip hc17 hs1
          refine J_iinc (L' := [(2, .int (z3 + 1)), (0, .ref (h0 0)), (1, .int z2)]) (v := (z3 + 1)) hK dX1_doneWorks_26 rfl 2 rfl rfl (by decide) rfl ?_
          refine J_goto hK dX1_doneWorks_29 (n := 4) rfl ?_
          exact J_loc [1, 2, 0] rfl (ih1 z2 (z3 + 1) (lpc hs1 hr1))
        · have hs1 := iq hc17 hs1
          refine J_iload_n hK dX1_doneWorks_20 rfl 1 rfl rfl ?_
          refine J_iconst (v := 1) hK dX1_doneWorks_21 rfl (by decide) ?_
          refine J_iload_n hK dX1_doneWorks_22 rfl 2 rfl rfl ?_
          refine J_ishl hK dX1_doneWorks_23 rfl ?_
          refine J_ior hK dX1_doneWorks_24 rfl ?_
          obtain ⟨t8, et8, hs1⟩ := bs hs1
          refine J_nmi et8 ?_
          refine J_istore_n (L' := [(1, .int t8), (0, .ref (h0 0)), (2, .int z3)]) hK dX1_doneWorks_25 rfl rfl (by decide) rfl ?_
          refine J_iinc (L' := [(2, .int (z3 + 1)), (1, .int t8), (0, .ref (h0 0))]) (v := (z3 + 1)) hK dX1_doneWorks_26 rfl 2 rfl rfl (by decide) rfl ?_
          refine J_goto hK dX1_doneWorks_29 (n := 4) rfl ?_
          exact J_loc [2, 1, 0] rfl (ih1 t8 (z3 + 1) (lpc hs1 hr1))
  exact J_loc [2, 1, 0] rfl (lo1 n (0) (0) hl1)

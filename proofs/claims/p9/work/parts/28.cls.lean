def fX6_element (X0 : TwT) (X1 : ShT) (p1 : Int32) (p2 : Int32) : Option (Int64) :=
  u4 (fun (x0_refused : (Nat → Int32)) (x0_isKept : Int32) (x0_gone : Int32) (x0_spent : Int32) => u3 (fun (x1_elements : (Nat → Nat → Int64)) (x1_held : (Nat → Int32)) (x1_sizes : (Nat → Int32)) => (fX2_has p1).bind (fun v1 => if v1 = 0 then (some (0 : Int64)) else ((fX2_hasRow (x1_elements, x1_held, x1_sizes) p1).bind (fun v3 => if v3 = 0 then (some (0 : Int64)) else ((rd 8 x1_sizes p1).bind fun v5 => (fX6_within p2 (0) (v5 - 1)).bind (fun v6 => if v6 = 0 then (some (0 : Int64)) else ((ck p1 8).bind fun q8 => (rd 40 (x1_elements q8) p2).bind fun v9 => some v9))))))) X1) X0
set_option maxHeartbeats 4000000 in
set_option maxRecDepth 100000 in
theorem kX6_element (l : Launch) (d : DT) (h0 : Nat → Nat) (a0_state : Nat) (a0_kept : Nat) (a0_tape : Nat) (a0_choice : Nat) (a0_traffic : Nat) (h1 : Nat → Nat) (r1_elements : Nat → Nat) (x0_refused : (Nat → Int32)) (x0_isKept : Int32) (x0_gone : Int32) (x0_spent : Int32) (x1_elements : (Nat → Nat → Int64)) (x1_held : (Nat → Int32)) (x1_sizes : (Nat → Int32)) (p1 : Int32) (p2 : Int32)  {out : Int64} (hf : fX6_element (x0_refused, x0_isKept, x0_gone, x0_spent) (x1_elements, x1_held, x1_sizes) p1 p2 = some out) : Ct l d yX6_element cX6_element 3 (some .long) { frames := 2, cells := 0, slots := 0, locals := 43 } [.ref (h0 0), .int p1, .int p2] [gTw d h0 a0_state a0_kept a0_tape (h1 0) a0_choice a0_traffic x0_refused x0_isKept x0_gone x0_spent, gSh d h1 r1_elements x1_held x1_sizes, gridJ d r1_elements 8 40 x1_elements] (fun _ : Unit => (some (.long out), [gTw d h0 a0_state a0_kept a0_tape (h1 0) a0_choice a0_traffic x0_refused x0_isKept x0_gone x0_spent, gSh d h1 r1_elements x1_held x1_sizes, gridJ d r1_elements 8 40 x1_elements])) := by
  refine Ct.of (by decide) (Nat.le_of_ble_eq_true rfl) ?_
  intro Φ hl hK hR
  subst hl
  have hK : Ok d Φ RX6 "element" cX6_element 3 (some .long) { frames := 2, cells := 0, slots := 0, locals := 43 } := hK
  unfold fX6_element at hf
  have hf := un4 hf
  have hf := un3 hf
  show J d Φ 3 [gTw d h0 a0_state a0_kept a0_tape (h1 0) a0_choice a0_traffic x0_refused x0_isKept x0_gone x0_spent, gSh d h1 r1_elements x1_held x1_sizes, gridJ d r1_elements 8 40 x1_elements] 0 0 0 [(0, .ref (h0 0)), (1, .int p1), (2, .int p2)] []
  refine J_iload_n hK dX6_element_0 rfl 1 rfl rfl ?_
  obtain ⟨v1, e2, hf⟩ := bs hf
  refine J_callS (m' := 3) (ce' := 0) (sl' := 0) (gr := [gTw d h0 a0_state a0_kept a0_tape (h1 0) a0_choice a0_traffic x0_refused x0_isKept x0_gone x0_spent, gSh d h1 r1_elements x1_held x1_sizes, gridJ d r1_elements 8 40 x1_elements]) (gs' := fun _ => [gTw d h0 a0_state a0_kept a0_tape (h1 0) a0_choice a0_traffic x0_refused x0_isKept x0_gone x0_spent, gSh d h1 r1_elements x1_held x1_sizes, gridJ d r1_elements 8 40 x1_elements]) (st' := fun _ => [.int v1]) (st := []) hK dX6_element_1 cv_RX6_60 ws_yX2_has (As := [.int p1]) (kX2_has _ d p1 e2) rfl rfl (Nat.le_of_ble_eq_true rfl) (by decide) [] [0, 1, 2] rfl rfl rfl rfl [0, 1, 2] rfl (fun _ => rfl) (fun _ => rfl) rfl rfl rfl (fun _ => rfl) (fun _ => ?_)
  refine J_if_eq (tg := 37) hK dX6_element_4 rfl rfl (fun hc4 => ?_) (fun hc4 => ?_)
  · have hf := ip hc4 hf
    refine J_lconst (v := 0) hK dX6_element_37 rfl (by decide) ?_
    obtain rfl := Option.some.inj hf
    exact J_lret hK hR dX6_element_38 () rfl (by decide) (by decide)
  · have hf := iq hc4 hf
    refine J_aload_n hK dX6_element_7 rfl 0 rfl rfl ?_
    refine J_get hK fo_RX6_29 dX6_element_8 rfl 0 0 rfl rfl rfl ?_
    refine J_iload_n hK dX6_element_11 rfl 1 rfl rfl ?_
    obtain ⟨v3, e4, hf⟩ := bs hf
    refine J_callV (m' := 3) (ce' := 0) (sl' := 0) (gr := [gTw d h0 a0_state a0_kept a0_tape (h1 0) a0_choice a0_traffic x0_refused x0_isKept x0_gone x0_spent, gridJ d r1_elements 8 40 x1_elements]) (gs' := fun _ => [gTw d h0 a0_state a0_kept a0_tape (h1 0) a0_choice a0_traffic x0_refused x0_isKept x0_gone x0_spent, gSh d h1 r1_elements x1_held x1_sizes, gridJ d r1_elements 8 40 x1_elements]) (st' := fun _ => [.int v3]) (st := []) hK dX6_element_12 cv_RX6_106 iv_yX2_hasRow (As := [.int p1]) (kX2_hasRow _ d h1 r1_elements x1_elements x1_held x1_sizes p1 e4) rfl rfl (Nat.le_of_ble_eq_true rfl) (by decide) 1 0 rfl rfl rfl [1] [0, 2] rfl rfl rfl rfl [0, 2, 1] rfl (fun _ => rfl) (fun _ => rfl) rfl rfl rfl (fun _ => rfl) (fun _ => ?_)
    refine J_if_eq (tg := 37) hK dX6_element_15 rfl rfl (fun hc15 => ?_) (fun hc15 => ?_)
    · have hf := ip hc15 hf
      refine J_lconst (v := 0) hK dX6_element_37 rfl (by decide) ?_
      obtain rfl := Option.some.inj hf
      exact J_lret hK hR dX6_element_38 () rfl (by decide) (by decide)
    · have hf := iq hc15 hf
      refine J_iload_n hK dX6_element_18 rfl 2 rfl rfl ?_
      refine J_iconst (v := 0) hK dX6_element_19 rfl (by decide) ?_
      refine J_aload_n hK dX6_element_20 rfl 0 rfl rfl ?_
      refine J_get hK fo_RX6_29 dX6_element_21 rfl 0 0 rfl rfl rfl ?_
      refine J_get hK fo_RX6_79 dX6_element_24 rfl 1 0 rfl rfl rfl ?_
      refine J_iload_n hK dX6_element_27 rfl 1 rfl rfl ?_
      obtain ⟨v5, ev5, hf⟩ := bs hf
      refine J_iald hK dX6_element_28 rfl 1 3 rfl rfl ev5 ?_
      refine J_iconst (v := 1) hK dX6_element_29 rfl (by decide) ?_
      refine J_isub hK dX6_element_30 rfl ?_
      obtain ⟨v6, e7, hf⟩ := bs hf
      refine J_callS (m' := 3) (ce' := 0) (sl' := 0) (gr := [gTw d h0 a0_state a0_kept a0_tape (h1 0) a0_choice a0_traffic x0_refused x0_isKept x0_gone x0_spent, gSh d h1 r1_elements x1_held x1_sizes, gridJ d r1_elements 8 40 x1_elements]) (gs' := fun _ => [gTw d h0 a0_state a0_kept a0_tape (h1 0) a0_choice a0_traffic x0_refused x0_isKept x0_gone x0_spent, gSh d h1 r1_elements x1_held x1_sizes, gridJ d r1_elements 8 40 x1_elements]) (st' := fun _ => [.int v6]) (st := []) hK dX6_element_31 cv_RX6_64 ws_yX6_within (As := [.int p2, .int (0), .int (v5 - 1)]) (kX6_within _ d p2 (0) (v5 - 1) e7) rfl rfl (Nat.le_of_ble_eq_true rfl) (by decide) [] [0, 1, 2] rfl rfl rfl rfl [0, 1, 2] rfl (fun _ => rfl) (fun _ => rfl) rfl rfl rfl (fun _ => rfl) (fun _ => ?_)
      refine J_if_ne (tg := 39) hK dX6_element_34 rfl rfl (fun hc34 => ?_) (fun hc34 => ?_)
      · have hf := iq hc34 hf
        refine J_aload_n hK dX6_element_39 rfl 0 rfl rfl ?_
        refine J_get hK fo_RX6_29 dX6_element_40 rfl 0 0 rfl rfl rfl ?_
        refine J_get hK fo_RX6_96 dX6_element_43 rfl 1 0 rfl rfl rfl ?_
        refine J_iload_n hK dX6_element_46 rfl 1 rfl rfl ?_
        obtain ⟨q8, eq8, hf⟩ := bs hf
        refine J_aald hK dX6_element_47 rfl 1 1 rfl rfl rfl eq8 ?_
        refine J_iload_n hK dX6_element_48 rfl 2 rfl rfl ?_
        obtain ⟨v9, ev9, hf⟩ := bs hf
        refine J_lald hK dX6_element_49 rfl 2 q8 rfl (gridJ_at (ck_ok eq8).2.2) ev9 ?_
        obtain rfl := Option.some.inj hf
        exact J_lret hK hR dX6_element_50 () rfl (by decide) (by decide)
      · have hf := ip hc34 hf
        refine J_lconst (v := 0) hK dX6_element_37 rfl (by decide) ?_
        obtain rfl := Option.some.inj hf
        exact J_lret hK hR dX6_element_38 () rfl (by decide) (by decide)

def fX6_holds (X0 : TwT) (X1 : ShT) (p1 : Int32) : Option (Int32) :=
  u4 (fun (x0_refused : (Nat → Int32)) (x0_isKept : Int32) (x0_gone : Int32) (x0_spent : Int32) => u3 (fun (x1_elements : (Nat → Nat → Int64)) (x1_held : (Nat → Int32)) (x1_sizes : (Nat → Int32)) => (fX2_has p1).bind (fun v1 => if v1 = 0 then (some (-1)) else ((rd 8 x1_held p1).bind fun v3 => some v3))) X1) X0
set_option maxHeartbeats 4000000 in
set_option maxRecDepth 100000 in
theorem kX6_holds (l : Launch) (d : DT) (h0 : Nat → Nat) (a0_state : Nat) (a0_kept : Nat) (a0_tape : Nat) (a0_choice : Nat) (a0_traffic : Nat) (h1 : Nat → Nat) (r1_elements : Nat → Nat) (x0_refused : (Nat → Int32)) (x0_isKept : Int32) (x0_gone : Int32) (x0_spent : Int32) (x1_elements : (Nat → Nat → Int64)) (x1_held : (Nat → Int32)) (x1_sizes : (Nat → Int32)) (p1 : Int32)  {out : Int32} (hf : fX6_holds (x0_refused, x0_isKept, x0_gone, x0_spent) (x1_elements, x1_held, x1_sizes) p1 = some out) : Ct l d yX6_holds cX6_holds 2 (some .int) { frames := 2, cells := 0, slots := 0, locals := 42 } [.ref (h0 0), .int p1] [gTw d h0 a0_state a0_kept a0_tape (h1 0) a0_choice a0_traffic x0_refused x0_isKept x0_gone x0_spent, gSh d h1 r1_elements x1_held x1_sizes] (fun _ : Unit => (some (.int out), [gTw d h0 a0_state a0_kept a0_tape (h1 0) a0_choice a0_traffic x0_refused x0_isKept x0_gone x0_spent, gSh d h1 r1_elements x1_held x1_sizes])) := by
  refine Ct.of (by decide) (Nat.le_of_ble_eq_true rfl) ?_
  intro Φ hl hK hR
  subst hl
  have hK : Ok d Φ RX6 "holds" cX6_holds 2 (some .int) { frames := 2, cells := 0, slots := 0, locals := 42 } := hK
  unfold fX6_holds at hf
  have hf := un4 hf
  have hf := un3 hf
  show J d Φ 2 [gTw d h0 a0_state a0_kept a0_tape (h1 0) a0_choice a0_traffic x0_refused x0_isKept x0_gone x0_spent, gSh d h1 r1_elements x1_held x1_sizes] 0 0 0 [(0, .ref (h0 0)), (1, .int p1)] []
  refine J_iload_n hK dX6_holds_0 rfl 1 rfl rfl ?_
  obtain ⟨v1, e2, hf⟩ := bs hf
  refine J_callS (m' := 2) (ce' := 0) (sl' := 0) (gr := [gTw d h0 a0_state a0_kept a0_tape (h1 0) a0_choice a0_traffic x0_refused x0_isKept x0_gone x0_spent, gSh d h1 r1_elements x1_held x1_sizes]) (gs' := fun _ => [gTw d h0 a0_state a0_kept a0_tape (h1 0) a0_choice a0_traffic x0_refused x0_isKept x0_gone x0_spent, gSh d h1 r1_elements x1_held x1_sizes]) (st' := fun _ => [.int v1]) (st := []) hK dX6_holds_1 cv_RX6_60 ws_yX2_has (As := [.int p1]) (kX2_has _ d p1 e2) rfl rfl (Nat.le_of_ble_eq_true rfl) (by decide) [] [0, 1] rfl rfl rfl rfl [0, 1] rfl (fun _ => rfl) (fun _ => rfl) rfl rfl rfl (fun _ => rfl) (fun _ => ?_)
  refine J_if_eq (tg := 19) hK dX6_holds_4 rfl rfl (fun hc4 => ?_) (fun hc4 => ?_)
  · have hf := ip hc4 hf
    refine J_iconst (v := (-1)) hK dX6_holds_19 rfl (by decide) ?_
    obtain rfl := Option.some.inj hf
    exact J_iret hK hR dX6_holds_20 () rfl (by decide) (by decide)
  · have hf := iq hc4 hf
    refine J_aload_n hK dX6_holds_7 rfl 0 rfl rfl ?_
    refine J_get hK fo_RX6_29 dX6_holds_8 rfl 0 0 rfl rfl rfl ?_
    refine J_get hK fo_RX6_93 dX6_holds_11 rfl 1 0 rfl rfl rfl ?_
    refine J_iload_n hK dX6_holds_14 rfl 1 rfl rfl ?_
    obtain ⟨v3, ev3, hf⟩ := bs hf
    refine J_iald hK dX6_holds_15 rfl 1 2 rfl rfl ev3 ?_
    refine J_goto hK dX6_holds_16 (n := 20) rfl ?_
    obtain rfl := Option.some.inj hf
    exact J_iret hK hR dX6_holds_20 () rfl (by decide) (by decide)

def fX6_show_j30 (p1 : Int32) (p2 : Int32) (x0_refused : (Nat → Int32)) (x1_held : (Nat → Int32)) : Option (Int32 × (Nat → Int32) × (Nat → Int32)) :=
  if p2 = (-1) then ((wr 8 x1_held p1 (-1)).bind fun f7 => some (1, x0_refused, f7)) else ((wr 8 x1_held p1 (10 + p2)).bind fun f6 => some (1, x0_refused, f6))
def fX6_show (X0 : TwT) (X1 : ShT) (X2 : LdT) (p1 : Int32) (p2 : Int32) : Option (Int32 × (Nat → Int32) × (Nat → Int32)) :=
  u4 (fun (x0_refused : (Nat → Int32)) (x0_isKept : Int32) (x0_gone : Int32) (x0_spent : Int32) => u3 (fun (x1_elements : (Nat → Nat → Int64)) (x1_held : (Nat → Int32)) (x1_sizes : (Nat → Int32)) => u11 (fun (x2_lineCount : Int32) (x2_goodsCount : Int32) (x2_workCount : Int32) (x2_years : Int32) (x2_lines : (Nat → Int32)) (x2_goods : (Nat → Int32)) (x2_works : (Nat → Int32)) (x2_change : (Nat → Int32)) (x2_coin : (Nat → Int32)) (x2_knownFree : (Nat → Int32)) (x2_isKnown : Int32) => (fX2_has p1).bind (fun v1 => if v1 = 0 then ((fX6_refuse (x0_refused, x0_isKept, x0_gone, x0_spent) (-2)).bind (u2 fun v3 g4 => some (v3, g4, x1_held))) else (if p2 = (-1) then (fX6_show_j30 p1 p2 x0_refused x1_held) else ((fX1_hasWork (x2_lineCount, x2_goodsCount, x2_workCount, x2_years, x2_lines, x2_goods, x2_works, x2_change, x2_coin, x2_knownFree, x2_isKnown) p2).bind (fun v8 => if v8 = 0 then ((fX6_refuse (x0_refused, x0_isKept, x0_gone, x0_spent) (-2)).bind (u2 fun v10 g11 => some (v10, g11, x1_held))) else (fX6_show_j30 p1 p2 x0_refused x1_held)))))) X2) X1) X0
set_option maxHeartbeats 4000000 in
set_option maxRecDepth 100000 in
theorem kX6_show (l : Launch) (d : DT) (h0 : Nat → Nat) (a0_kept : Nat) (a0_tape : Nat) (a0_choice : Nat) (a0_traffic : Nat) (h1 : Nat → Nat) (r1_elements : Nat → Nat) (h2 : Nat → Nat) (x0_refused : (Nat → Int32)) (x0_isKept : Int32) (x0_gone : Int32) (x0_spent : Int32) (x1_elements : (Nat → Nat → Int64)) (x1_held : (Nat → Int32)) (x1_sizes : (Nat → Int32)) (x2_lineCount : Int32) (x2_goodsCount : Int32) (x2_workCount : Int32) (x2_years : Int32) (x2_lines : (Nat → Int32)) (x2_goods : (Nat → Int32)) (x2_works : (Nat → Int32)) (x2_change : (Nat → Int32)) (x2_coin : (Nat → Int32)) (x2_knownFree : (Nat → Int32)) (x2_isKnown : Int32) (p1 : Int32) (p2 : Int32)  {out : Int32 × (Nat → Int32) × (Nat → Int32)} (hf : fX6_show (x0_refused, x0_isKept, x0_gone, x0_spent) (x1_elements, x1_held, x1_sizes) (x2_lineCount, x2_goodsCount, x2_workCount, x2_years, x2_lines, x2_goods, x2_works, x2_change, x2_coin, x2_knownFree, x2_isKnown) p1 p2 = some out) : Ct l d yX6_show cX6_show 3 (some .int) { frames := 2, cells := 0, slots := 0, locals := 43 } [.ref (h0 0), .int p1, .int p2] [gTw d h0 (h2 0) a0_kept a0_tape (h1 0) a0_choice a0_traffic x0_refused x0_isKept x0_gone x0_spent, gSh d h1 r1_elements x1_held x1_sizes, gLd d h2 x2_lineCount x2_goodsCount x2_workCount x2_years x2_lines x2_goods x2_works x2_change x2_coin x2_knownFree x2_isKnown] (fun _ : Unit => (some (.int out.1), [gTw d h0 (h2 0) a0_kept a0_tape (h1 0) a0_choice a0_traffic (out.2.1) x0_isKept x0_gone x0_spent, gSh d h1 r1_elements (out.2.2) x1_sizes, gLd d h2 x2_lineCount x2_goodsCount x2_workCount x2_years x2_lines x2_goods x2_works x2_change x2_coin x2_knownFree x2_isKnown])) := by
  refine Ct.of (by decide) (Nat.le_of_ble_eq_true rfl) ?_
  intro Φ hl hK hR
  subst hl
  have hK : Ok d Φ RX6 "show" cX6_show 3 (some .int) { frames := 2, cells := 0, slots := 0, locals := 43 } := hK
  unfold fX6_show at hf
  have hf := un4 hf
  have hf := un3 hf
  have hf := un11 hf
  show J d Φ 3 [gTw d h0 (h2 0) a0_kept a0_tape (h1 0) a0_choice a0_traffic x0_refused x0_isKept x0_gone x0_spent, gSh d h1 r1_elements x1_held x1_sizes, gLd d h2 x2_lineCount x2_goodsCount x2_workCount x2_years x2_lines x2_goods x2_works x2_change x2_coin x2_knownFree x2_isKnown] 0 0 0 [(0, .ref (h0 0)), (1, .int p1), (2, .int p2)] []
  refine J_iload_n hK dX6_show_0 rfl 1 rfl rfl ?_
  obtain ⟨v1, e2, hf⟩ := bs hf
  refine J_callS (m' := 3) (ce' := 0) (sl' := 0) (gr := [gTw d h0 (h2 0) a0_kept a0_tape (h1 0) a0_choice a0_traffic x0_refused x0_isKept x0_gone x0_spent, gSh d h1 r1_elements x1_held x1_sizes, gLd d h2 x2_lineCount x2_goodsCount x2_workCount x2_years x2_lines x2_goods x2_works x2_change x2_coin x2_knownFree x2_isKnown]) (gs' := fun _ => [gTw d h0 (h2 0) a0_kept a0_tape (h1 0) a0_choice a0_traffic x0_refused x0_isKept x0_gone x0_spent, gSh d h1 r1_elements x1_held x1_sizes, gLd d h2 x2_lineCount x2_goodsCount x2_workCount x2_years x2_lines x2_goods x2_works x2_change x2_coin x2_knownFree x2_isKnown]) (st' := fun _ => [.int v1]) (st := []) hK dX6_show_1 cv_RX6_60 ws_yX2_has (As := [.int p1]) (kX2_has _ d p1 e2) rfl rfl (Nat.le_of_ble_eq_true rfl) (by decide) [] [0, 1, 2] rfl rfl rfl rfl [0, 1, 2] rfl (fun _ => rfl) (fun _ => rfl) rfl rfl rfl (fun _ => rfl) (fun _ => ?_)
  refine J_if_eq (tg := 23) hK dX6_show_4 rfl rfl (fun hc4 => ?_) (fun hc4 => ?_)
  · have hf := ip hc4 hf
    refine J_aload_n hK dX6_show_23 rfl 0 rfl rfl ?_
    refine J_bipush (v := (-2)) hK dX6_show_24 rfl (by decide) ?_
    obtain ⟨⟨v3, g4⟩, e5, hf⟩ := bs hf
    have hf := un2 hf
    refine J_callV (m' := 3) (ce' := 0) (sl' := 0) (gr := [gSh d h1 r1_elements x1_held x1_sizes, gLd d h2 x2_lineCount x2_goodsCount x2_workCount x2_years x2_lines x2_goods x2_works x2_change x2_coin x2_knownFree x2_isKnown]) (gs' := fun _ => [gTw d h0 (h2 0) a0_kept a0_tape (h1 0) a0_choice a0_traffic g4 x0_isKept x0_gone x0_spent, gSh d h1 r1_elements x1_held x1_sizes, gLd d h2 x2_lineCount x2_goodsCount x2_workCount x2_years x2_lines x2_goods x2_works x2_change x2_coin x2_knownFree x2_isKnown]) (st' := fun _ => [.int v3]) (st := []) hK dX6_show_26 cv_RX6_68 iv_yX6_refuse (As := [.int (-2)]) (kX6_refuse _ d h0 (h2 0) a0_kept a0_tape (h1 0) a0_choice a0_traffic x0_refused x0_isKept x0_gone x0_spent (-2) e5) rfl rfl (Nat.le_of_ble_eq_true rfl) (by decide) 0 0 rfl rfl rfl [0] [1, 2] rfl rfl rfl rfl [2, 0, 1] rfl (fun _ => rfl) (fun _ => rfl) rfl rfl rfl (fun _ => rfl) (fun _ => ?_)
    obtain rfl := Option.some.inj hf
    exact J_iret hK hR dX6_show_29 () rfl (by decide) (by decide)
  · have hf := iq hc4 hf
    refine J_iload_n hK dX6_show_7 rfl 2 rfl rfl ?_
    refine J_iconst (v := (-1)) hK dX6_show_8 rfl (by decide) ?_
    have j30 : fX6_show_j30 p1 p2 x0_refused x1_held = some out → J d Φ 3 [gTw d h0 (h2 0) a0_kept a0_tape (h1 0) a0_choice a0_traffic x0_refused x0_isKept x0_gone x0_spent, gSh d h1 r1_elements x1_held x1_sizes, gLd d h2 x2_lineCount x2_goodsCount x2_workCount x2_years x2_lines x2_goods x2_works x2_change x2_coin x2_knownFree x2_isKnown] 0 0 30 [(0, .ref (h0 0)), (1, .int p1), (2, .int p2)] [] := by
      intro  hf
      unfold fX6_show_j30 at hf
      refine J_aload_n hK dX6_show_30 rfl 0 rfl rfl ?_
      refine J_get hK fo_RX6_29 dX6_show_31 rfl 0 0 rfl rfl rfl ?_
      refine J_get hK fo_RX6_93 dX6_show_34 rfl 1 0 rfl rfl rfl ?_
      refine J_iload_n hK dX6_show_37 rfl 1 rfl rfl ?_
      refine J_iload_n hK dX6_show_38 rfl 2 rfl rfl ?_
      refine J_iconst (v := (-1)) hK dX6_show_39 rfl (by decide) ?_
      refine J_icmp_ne (tg := 47) hK dX6_show_40 rfl rfl (fun hc40 => ?_) (fun hc40 => ?_)
      · have hf := iq hc40 hf
        refine J_bipush (v := 10) hK dX6_show_47 rfl (by decide) ?_
        refine J_iload_n hK dX6_show_49 rfl 2 rfl rfl ?_
        refine J_iadd hK dX6_show_50 rfl ?_
        obtain ⟨f6, ef6, hf⟩ := bs hf
        refine J_iast (g' := gSh d h1 r1_elements f6 x1_sizes) (gs' := [gTw d h0 (h2 0) a0_kept a0_tape (h1 0) a0_choice a0_traffic x0_refused x0_isKept x0_gone x0_spent, gSh d h1 r1_elements f6 x1_sizes, gLd d h2 x2_lineCount x2_goodsCount x2_workCount x2_years x2_lines x2_goods x2_works x2_change x2_coin x2_knownFree x2_isKnown]) hK dX6_show_51 rfl 1 2 rfl rfl ef6 rfl rfl ?_
        refine J_iconst (v := 1) hK dX6_show_52 rfl (by decide) ?_
        obtain rfl := Option.some.inj hf
        exact J_iret hK hR dX6_show_53 () rfl (by decide) (by decide)
      · have hf := ip hc40 hf
        refine J_iconst (v := (-1)) hK dX6_show_43 rfl (by decide) ?_
        refine J_goto hK dX6_show_44 (n := 51) rfl ?_
        obtain ⟨f7, ef7, hf⟩ := bs hf
        refine J_iast (g' := gSh d h1 r1_elements f7 x1_sizes) (gs' := [gTw d h0 (h2 0) a0_kept a0_tape (h1 0) a0_choice a0_traffic x0_refused x0_isKept x0_gone x0_spent, gSh d h1 r1_elements f7 x1_sizes, gLd d h2 x2_lineCount x2_goodsCount x2_workCount x2_years x2_lines x2_goods x2_works x2_change x2_coin x2_knownFree x2_isKnown]) hK dX6_show_51 rfl 1 2 rfl rfl ef7 rfl rfl ?_
        refine J_iconst (v := 1) hK dX6_show_52 rfl (by decide) ?_
        obtain rfl := Option.some.inj hf
        exact J_iret hK hR dX6_show_53 () rfl (by decide) (by decide)
    refine J_icmp_eq (tg := 30) hK dX6_show_9 rfl rfl (fun hc9 => ?_) (fun hc9 => ?_)
    · have hf := ip hc9 hf
      exact (j30  hf)
    · have hf := iq hc9 hf
      refine J_aload_n hK dX6_show_12 rfl 0 rfl rfl ?_
      refine J_get hK fo_RX6_12 dX6_show_13 rfl 0 0 rfl rfl rfl ?_
      refine J_iload_n hK dX6_show_16 rfl 2 rfl rfl ?_
      obtain ⟨v8, e9, hf⟩ := bs hf
      refine J_callV (m' := 3) (ce' := 0) (sl' := 0) (gr := [gTw d h0 (h2 0) a0_kept a0_tape (h1 0) a0_choice a0_traffic x0_refused x0_isKept x0_gone x0_spent, gSh d h1 r1_elements x1_held x1_sizes]) (gs' := fun _ => [gTw d h0 (h2 0) a0_kept a0_tape (h1 0) a0_choice a0_traffic x0_refused x0_isKept x0_gone x0_spent, gSh d h1 r1_elements x1_held x1_sizes, gLd d h2 x2_lineCount x2_goodsCount x2_workCount x2_years x2_lines x2_goods x2_works x2_change x2_coin x2_knownFree x2_isKnown]) (st' := fun _ => [.int v8]) (st := []) hK dX6_show_17 cv_RX6_109 iv_yX1_hasWork (As := [.int p2]) (kX1_hasWork _ d h2 x2_lineCount x2_goodsCount x2_workCount x2_years x2_lines x2_goods x2_works x2_change x2_coin x2_knownFree x2_isKnown p2 e9) rfl rfl (Nat.le_of_ble_eq_true rfl) (by decide) 2 0 rfl rfl rfl [2] [0, 1] rfl rfl rfl rfl [0, 1, 2] rfl (fun _ => rfl) (fun _ => rfl) rfl rfl rfl (fun _ => rfl) (fun _ => ?_)
      refine J_if_ne (tg := 30) hK dX6_show_20 rfl rfl (fun hc20 => ?_) (fun hc20 => ?_)
      · have hf := iq hc20 hf
        exact (j30  hf)
      · have hf := ip hc20 hf
        refine J_aload_n hK dX6_show_23 rfl 0 rfl rfl ?_
        refine J_bipush (v := (-2)) hK dX6_show_24 rfl (by decide) ?_
        obtain ⟨⟨v10, g11⟩, e12, hf⟩ := bs hf
        have hf := un2 hf
        refine J_callV (m' := 3) (ce' := 0) (sl' := 0) (gr := [gSh d h1 r1_elements x1_held x1_sizes, gLd d h2 x2_lineCount x2_goodsCount x2_workCount x2_years x2_lines x2_goods x2_works x2_change x2_coin x2_knownFree x2_isKnown]) (gs' := fun _ => [gTw d h0 (h2 0) a0_kept a0_tape (h1 0) a0_choice a0_traffic g11 x0_isKept x0_gone x0_spent, gSh d h1 r1_elements x1_held x1_sizes, gLd d h2 x2_lineCount x2_goodsCount x2_workCount x2_years x2_lines x2_goods x2_works x2_change x2_coin x2_knownFree x2_isKnown]) (st' := fun _ => [.int v10]) (st := []) hK dX6_show_26 cv_RX6_68 iv_yX6_refuse (As := [.int (-2)]) (kX6_refuse _ d h0 (h2 0) a0_kept a0_tape (h1 0) a0_choice a0_traffic x0_refused x0_isKept x0_gone x0_spent (-2) e12) rfl rfl (Nat.le_of_ble_eq_true rfl) (by decide) 0 0 rfl rfl rfl [0] [1, 2] rfl rfl rfl rfl [2, 0, 1] rfl (fun _ => rfl) (fun _ => rfl) rfl rfl rfl (fun _ => rfl) (fun _ => ?_)
        obtain rfl := Option.some.inj hf
        exact J_iret hK hR dX6_show_29 () rfl (by decide) (by decide)

def fX6_says_j77 (p2 : Int32) (x0_refused : (Nat → Int32)) (x0_isKept : Int32) (x0_gone : Int32) (x0_spent : Int32) (x2_lineCount : Int32) (x2_goodsCount : Int32) (x2_workCount : Int32) (x2_years : Int32) (x2_lines : (Nat → Int32)) (x2_goods : (Nat → Int32)) (x2_works : (Nat → Int32)) (x2_change : (Nat → Int32)) (x2_coin : (Nat → Int32)) (x2_knownFree : (Nat → Int32)) (x2_isKnown : Int32) (v8 : Int32) : Option (Int32 × (Nat → Int32)) :=
  (fX1_hasWork (x2_lineCount, x2_goodsCount, x2_workCount, x2_years, x2_lines, x2_goods, x2_works, x2_change, x2_coin, x2_knownFree, x2_isKnown) v8).bind (fun v17 => if v17 = 0 then ((fX6_refuse (x0_refused, x0_isKept, x0_gone, x0_spent) (-4)).bind (u2 fun v31 g32 => some (v31, g32))) else (if p2 = 0 then ((fX1_ofWork (x2_lineCount, x2_goodsCount, x2_workCount, x2_years, x2_lines, x2_goods, x2_works, x2_change, x2_coin, x2_knownFree, x2_isKnown) v8 (3)).bind (fun v19 => some (v19, x0_refused))) else (if p2 = 4 then ((fX1_ofWork (x2_lineCount, x2_goodsCount, x2_workCount, x2_years, x2_lines, x2_goods, x2_works, x2_change, x2_coin, x2_knownFree, x2_isKnown) v8 (1)).bind (fun v21 => (fX1_ofWork (x2_lineCount, x2_goodsCount, x2_workCount, x2_years, x2_lines, x2_goods, x2_works, x2_change, x2_coin, x2_knownFree, x2_isKnown) v8 (2)).bind (fun v23 => some (((100 * v21) + v23), x0_refused)))) else (if p2 = 5 then ((fX1_ofWork (x2_lineCount, x2_goodsCount, x2_workCount, x2_years, x2_lines, x2_goods, x2_works, x2_change, x2_coin, x2_knownFree, x2_isKnown) v8 (1)).bind (fun v25 => (fX1_ofWork (x2_lineCount, x2_goodsCount, x2_workCount, x2_years, x2_lines, x2_goods, x2_works, x2_change, x2_coin, x2_knownFree, x2_isKnown) v8 (2)).bind (fun v27 => some (((100 * v25) + v27), x0_refused)))) else ((fX1_ofWork (x2_lineCount, x2_goodsCount, x2_workCount, x2_years, x2_lines, x2_goods, x2_works, x2_change, x2_coin, x2_knownFree, x2_isKnown) v8 (1)).bind (fun v29 => some (v29, x0_refused)))))))
def fX6_says (n : Nat) (X0 : TwT) (X1 : ShT) (X2 : LdT) (p1 : Int32) (p2 : Int32) : Option (Int32 × (Nat → Int32)) :=
  u4 (fun (x0_refused : (Nat → Int32)) (x0_isKept : Int32) (x0_gone : Int32) (x0_spent : Int32) => u3 (fun (x1_elements : (Nat → Nat → Int64)) (x1_held : (Nat → Int32)) (x1_sizes : (Nat → Int32)) => u11 (fun (x2_lineCount : Int32) (x2_goodsCount : Int32) (x2_workCount : Int32) (x2_years : Int32) (x2_lines : (Nat → Int32)) (x2_goods : (Nat → Int32)) (x2_works : (Nat → Int32)) (x2_change : (Nat → Int32)) (x2_coin : (Nat → Int32)) (x2_knownFree : (Nat → Int32)) (x2_isKnown : Int32) => (fX2_has p1).bind (fun v1 => if v1 = 0 then ((fX6_refuse (x0_refused, x0_isKept, x0_gone, x0_spent) (-2)).bind (u2 fun v3 g4 => some (v3, g4))) else ((fX6_within p2 (0) (5)).bind (fun v6 => if v6 = 0 then ((fX6_refuse (x0_refused, x0_isKept, x0_gone, x0_spent) (-2)).bind (u2 fun v41 g42 => some (v41, g42))) else ((fX2_workIn (x1_elements, x1_held, x1_sizes) p1).bind (fun v8 => (fX2_hasRow (x1_elements, x1_held, x1_sizes) p1).bind (fun v10 => if v10 = 0 then ((fX1_hasWork (x2_lineCount, x2_goodsCount, x2_workCount, x2_years, x2_lines, x2_goods, x2_works, x2_change, x2_coin, x2_knownFree, x2_isKnown) v8).bind (fun v15 => if v15 = 0 then (fX6_says_j77 p2 x0_refused x0_isKept x0_gone x0_spent x2_lineCount x2_goodsCount x2_workCount x2_years x2_lines x2_goods x2_works x2_change x2_coin x2_knownFree x2_isKnown v8) else ((fX1_ofWork (x2_lineCount, x2_goodsCount, x2_workCount, x2_years, x2_lines, x2_goods, x2_works, x2_change, x2_coin, x2_knownFree, x2_isKnown) v8 (0)).bind (fun v34 => (fX6_isUnder n v34 p2).bind (fun v36 => if v36 = 0 then ((fX6_refuse (x0_refused, x0_isKept, x0_gone, x0_spent) (-3)).bind (u2 fun v38 g39 => some (v38, g39))) else (fX6_says_j77 p2 x0_refused x0_isKept x0_gone x0_spent x2_lineCount x2_goodsCount x2_workCount x2_years x2_lines x2_goods x2_works x2_change x2_coin x2_knownFree x2_isKnown v8)))))) else ((fX6_refuse (x0_refused, x0_isKept, x0_gone, x0_spent) (-3)).bind (u2 fun v12 g13 => some (v12, g13)))))))))) X2) X1) X0
set_option maxHeartbeats 4000000 in
set_option maxRecDepth 100000 in
theorem kX6_says (l : Launch) (d : DT) (h0 : Nat → Nat) (a0_kept : Nat) (a0_tape : Nat) (a0_choice : Nat) (a0_traffic : Nat) (h1 : Nat → Nat) (r1_elements : Nat → Nat) (h2 : Nat → Nat) (n : Nat) (x0_refused : (Nat → Int32)) (x0_isKept : Int32) (x0_gone : Int32) (x0_spent : Int32) (x1_elements : (Nat → Nat → Int64)) (x1_held : (Nat → Int32)) (x1_sizes : (Nat → Int32)) (x2_lineCount : Int32) (x2_goodsCount : Int32) (x2_workCount : Int32) (x2_years : Int32) (x2_lines : (Nat → Int32)) (x2_goods : (Nat → Int32)) (x2_works : (Nat → Int32)) (x2_change : (Nat → Int32)) (x2_coin : (Nat → Int32)) (x2_knownFree : (Nat → Int32)) (x2_isKnown : Int32) (p1 : Int32) (p2 : Int32)  {out : Int32 × (Nat → Int32)} (hf : fX6_says n (x0_refused, x0_isKept, x0_gone, x0_spent) (x1_elements, x1_held, x1_sizes) (x2_lineCount, x2_goodsCount, x2_workCount, x2_years, x2_lines, x2_goods, x2_works, x2_change, x2_coin, x2_knownFree, x2_isKnown) p1 p2 = some out) : Ct l d yX6_says cX6_says 4 (some .int) { frames := 2, cells := 0, slots := 0, locals := 45 } [.ref (h0 0), .int p1, .int p2] [gTw d h0 (h2 0) a0_kept a0_tape (h1 0) a0_choice a0_traffic x0_refused x0_isKept x0_gone x0_spent, gSh d h1 r1_elements x1_held x1_sizes, gLd d h2 x2_lineCount x2_goodsCount x2_workCount x2_years x2_lines x2_goods x2_works x2_change x2_coin x2_knownFree x2_isKnown] (fun _ : Unit => (some (.int out.1), [gTw d h0 (h2 0) a0_kept a0_tape (h1 0) a0_choice a0_traffic (out.2) x0_isKept x0_gone x0_spent, gSh d h1 r1_elements x1_held x1_sizes, gLd d h2 x2_lineCount x2_goodsCount x2_workCount x2_years x2_lines x2_goods x2_works x2_change x2_coin x2_knownFree x2_isKnown])) := by
  refine Ct.of (by decide) (Nat.le_of_ble_eq_true rfl) ?_
  intro Φ hl hK hR
  subst hl
  have hK : Ok d Φ RX6 "says" cX6_says 4 (some .int) { frames := 2, cells := 0, slots := 0, locals := 45 } := hK
  unfold fX6_says at hf
  have hf := un4 hf
  have hf := un3 hf
  have hf := un11 hf
  show J d Φ 4 [gTw d h0 (h2 0) a0_kept a0_tape (h1 0) a0_choice a0_traffic x0_refused x0_isKept x0_gone x0_spent, gSh d h1 r1_elements x1_held x1_sizes, gLd d h2 x2_lineCount x2_goodsCount x2_workCount x2_years x2_lines x2_goods x2_works x2_change x2_coin x2_knownFree x2_isKnown] 0 0 0 [(0, .ref (h0 0)), (1, .int p1), (2, .int p2)] []
  refine J_iload_n hK dX6_says_0 rfl 1 rfl rfl ?_
  obtain ⟨v1, e2, hf⟩ := bs hf
  refine J_callS (m' := 3) (ce' := 0) (sl' := 0) (gr := [gTw d h0 (h2 0) a0_kept a0_tape (h1 0) a0_choice a0_traffic x0_refused x0_isKept x0_gone x0_spent, gSh d h1 r1_elements x1_held x1_sizes, gLd d h2 x2_lineCount x2_goodsCount x2_workCount x2_years x2_lines x2_goods x2_works x2_change x2_coin x2_knownFree x2_isKnown]) (gs' := fun _ => [gTw d h0 (h2 0) a0_kept a0_tape (h1 0) a0_choice a0_traffic x0_refused x0_isKept x0_gone x0_spent, gSh d h1 r1_elements x1_held x1_sizes, gLd d h2 x2_lineCount x2_goodsCount x2_workCount x2_years x2_lines x2_goods x2_works x2_change x2_coin x2_knownFree x2_isKnown]) (st' := fun _ => [.int v1]) (st := []) hK dX6_says_1 cv_RX6_60 ws_yX2_has (As := [.int p1]) (kX2_has _ d p1 e2) rfl rfl (Nat.le_of_ble_eq_true rfl) (by decide) [] [0, 1, 2] rfl rfl rfl rfl [0, 1, 2] rfl (fun _ => rfl) (fun _ => rfl) rfl rfl rfl (fun _ => rfl) (fun _ => ?_)
  refine J_if_eq (tg := 16) hK dX6_says_4 rfl rfl (fun hc4 => ?_) (fun hc4 => ?_)
  · have hf := ip hc4 hf
    refine J_aload_n hK dX6_says_16 rfl 0 rfl rfl ?_
    refine J_bipush (v := (-2)) hK dX6_says_17 rfl (by decide) ?_
    obtain ⟨⟨v3, g4⟩, e5, hf⟩ := bs hf
    have hf := un2 hf
    refine J_callV (m' := 3) (ce' := 0) (sl' := 0) (gr := [gSh d h1 r1_elements x1_held x1_sizes, gLd d h2 x2_lineCount x2_goodsCount x2_workCount x2_years x2_lines x2_goods x2_works x2_change x2_coin x2_knownFree x2_isKnown]) (gs' := fun _ => [gTw d h0 (h2 0) a0_kept a0_tape (h1 0) a0_choice a0_traffic g4 x0_isKept x0_gone x0_spent, gSh d h1 r1_elements x1_held x1_sizes, gLd d h2 x2_lineCount x2_goodsCount x2_workCount x2_years x2_lines x2_goods x2_works x2_change x2_coin x2_knownFree x2_isKnown]) (st' := fun _ => [.int v3]) (st := []) hK dX6_says_19 cv_RX6_68 iv_yX6_refuse (As := [.int (-2)]) (kX6_refuse _ d h0 (h2 0) a0_kept a0_tape (h1 0) a0_choice a0_traffic x0_refused x0_isKept x0_gone x0_spent (-2) e5) rfl rfl (Nat.le_of_ble_eq_true rfl) (by decide) 0 0 rfl rfl rfl [0] [1, 2] rfl rfl rfl rfl [2, 0, 1] rfl (fun _ => rfl) (fun _ => rfl) rfl rfl rfl (fun _ => rfl) (fun _ => ?_)
    obtain rfl := Option.some.inj hf
    exact J_iret hK hR dX6_says_22 () rfl (by decide) (by decide)
  · have hf := iq hc4 hf
    refine J_iload_n hK dX6_says_7 rfl 2 rfl rfl ?_
    refine J_iconst (v := 0) hK dX6_says_8 rfl (by decide) ?_
    refine J_iconst (v := 5) hK dX6_says_9 rfl (by decide) ?_
    obtain ⟨v6, e7, hf⟩ := bs hf
    refine J_callS (m' := 3) (ce' := 0) (sl' := 0) (gr := [gTw d h0 (h2 0) a0_kept a0_tape (h1 0) a0_choice a0_traffic x0_refused x0_isKept x0_gone x0_spent, gSh d h1 r1_elements x1_held x1_sizes, gLd d h2 x2_lineCount x2_goodsCount x2_workCount x2_years x2_lines x2_goods x2_works x2_change x2_coin x2_knownFree x2_isKnown]) (gs' := fun _ => [gTw d h0 (h2 0) a0_kept a0_tape (h1 0) a0_choice a0_traffic x0_refused x0_isKept x0_gone x0_spent, gSh d h1 r1_elements x1_held x1_sizes, gLd d h2 x2_lineCount x2_goodsCount x2_workCount x2_years x2_lines x2_goods x2_works x2_change x2_coin x2_knownFree x2_isKnown]) (st' := fun _ => [.int v6]) (st := []) hK dX6_says_10 cv_RX6_64 ws_yX6_within (As := [.int p2, .int (0), .int (5)]) (kX6_within _ d p2 (0) (5) e7) rfl rfl (Nat.le_of_ble_eq_true rfl) (by decide) [] [0, 1, 2] rfl rfl rfl rfl [0, 1, 2] rfl (fun _ => rfl) (fun _ => rfl) rfl rfl rfl (fun _ => rfl) (fun _ => ?_)
    refine J_if_ne (tg := 23) hK dX6_says_13 rfl rfl (fun hc13 => ?_) (fun hc13 => ?_)
    · have hf := iq hc13 hf
      refine J_aload_n hK dX6_says_23 rfl 0 rfl rfl ?_
      refine J_get hK fo_RX6_29 dX6_says_24 rfl 0 0 rfl rfl rfl ?_
      refine J_iload_n hK dX6_says_27 rfl 1 rfl rfl ?_
      obtain ⟨v8, e9, hf⟩ := bs hf
      refine J_callV (m' := 3) (ce' := 0) (sl' := 0) (gr := [gTw d h0 (h2 0) a0_kept a0_tape (h1 0) a0_choice a0_traffic x0_refused x0_isKept x0_gone x0_spent, gLd d h2 x2_lineCount x2_goodsCount x2_workCount x2_years x2_lines x2_goods x2_works x2_change x2_coin x2_knownFree x2_isKnown]) (gs' := fun _ => [gTw d h0 (h2 0) a0_kept a0_tape (h1 0) a0_choice a0_traffic x0_refused x0_isKept x0_gone x0_spent, gSh d h1 r1_elements x1_held x1_sizes, gLd d h2 x2_lineCount x2_goodsCount x2_workCount x2_years x2_lines x2_goods x2_works x2_change x2_coin x2_knownFree x2_isKnown]) (st' := fun _ => [.int v8]) (st := []) hK dX6_says_28 cv_RX6_110 iv_yX2_workIn (As := [.int p1]) (kX2_workIn _ d h1 r1_elements x1_elements x1_held x1_sizes p1 e9) rfl rfl (Nat.le_of_ble_eq_true rfl) (by decide) 1 0 rfl rfl rfl [1] [0, 2] rfl rfl rfl rfl [0, 2, 1] rfl (fun _ => rfl) (fun _ => rfl) rfl rfl rfl (fun _ => rfl) (fun _ => ?_)
      refine J_istore_n (L' := [(3, .int v8), (0, .ref (h0 0)), (1, .int p1), (2, .int p2)]) hK dX6_says_31 rfl rfl (by decide) rfl ?_
      refine J_aload_n hK dX6_says_32 rfl 1 rfl rfl ?_
      refine J_get hK fo_RX6_29 dX6_says_33 rfl 0 0 rfl rfl rfl ?_
      refine J_iload_n hK dX6_says_36 rfl 2 rfl rfl ?_
      obtain ⟨v10, e11, hf⟩ := bs hf
      refine J_callV (m' := 3) (ce' := 0) (sl' := 0) (gr := [gTw d h0 (h2 0) a0_kept a0_tape (h1 0) a0_choice a0_traffic x0_refused x0_isKept x0_gone x0_spent, gLd d h2 x2_lineCount x2_goodsCount x2_workCount x2_years x2_lines x2_goods x2_works x2_change x2_coin x2_knownFree x2_isKnown]) (gs' := fun _ => [gTw d h0 (h2 0) a0_kept a0_tape (h1 0) a0_choice a0_traffic x0_refused x0_isKept x0_gone x0_spent, gSh d h1 r1_elements x1_held x1_sizes, gLd d h2 x2_lineCount x2_goodsCount x2_workCount x2_years x2_lines x2_goods x2_works x2_change x2_coin x2_knownFree x2_isKnown]) (st' := fun _ => [.int v10]) (st := []) hK dX6_says_37 cv_RX6_106 iv_yX2_hasRow (As := [.int p1]) (kX2_hasRow _ d h1 r1_elements x1_elements x1_held x1_sizes p1 e11) rfl rfl (Nat.le_of_ble_eq_true rfl) (by decide) 1 0 rfl rfl rfl [1] [0, 2] rfl rfl rfl rfl [0, 2, 1] rfl (fun _ => rfl) (fun _ => rfl) rfl rfl rfl (fun _ => rfl) (fun _ => ?_)
      refine J_if_ne (tg := 70) hK dX6_says_40 rfl rfl (fun hc40 => ?_) (fun hc40 => ?_)
      · have hf := iq hc40 hf
        refine J_aload_n hK dX6_says_70 rfl 1 rfl rfl ?_
        refine J_bipush (v := (-3)) hK dX6_says_71 rfl (by decide) ?_
        obtain ⟨⟨v12, g13⟩, e14, hf⟩ := bs hf
        have hf := un2 hf
        refine J_callV (m' := 3) (ce' := 0) (sl' := 0) (gr := [gSh d h1 r1_elements x1_held x1_sizes, gLd d h2 x2_lineCount x2_goodsCount x2_workCount x2_years x2_lines x2_goods x2_works x2_change x2_coin x2_knownFree x2_isKnown]) (gs' := fun _ => [gTw d h0 (h2 0) a0_kept a0_tape (h1 0) a0_choice a0_traffic g13 x0_isKept x0_gone x0_spent, gSh d h1 r1_elements x1_held x1_sizes, gLd d h2 x2_lineCount x2_goodsCount x2_workCount x2_years x2_lines x2_goods x2_works x2_change x2_coin x2_knownFree x2_isKnown]) (st' := fun _ => [.int v12]) (st := []) hK dX6_says_73 cv_RX6_68 iv_yX6_refuse (As := [.int (-3)]) (kX6_refuse _ d h0 (h2 0) a0_kept a0_tape (h1 0) a0_choice a0_traffic x0_refused x0_isKept x0_gone x0_spent (-3) e14) rfl rfl (Nat.le_of_ble_eq_true rfl) (by decide) 0 0 rfl rfl rfl [0] [1, 2] rfl rfl rfl rfl [2, 0, 1] rfl (fun _ => rfl) (fun _ => rfl) rfl rfl rfl (fun _ => rfl) (fun _ => ?_)
        obtain rfl := Option.some.inj hf
        exact J_iret hK hR dX6_says_76 () rfl (by decide) (by decide)
      · have hf := ip hc40 hf
        refine J_aload_n hK dX6_says_43 rfl 1 rfl rfl ?_
        refine J_get hK fo_RX6_12 dX6_says_44 rfl 0 0 rfl rfl rfl ?_
        refine J_iload_n hK dX6_says_47 rfl 0 rfl rfl ?_
        obtain ⟨v15, e16, hf⟩ := bs hf
        refine J_callV (m' := 3) (ce' := 0) (sl' := 0) (gr := [gTw d h0 (h2 0) a0_kept a0_tape (h1 0) a0_choice a0_traffic x0_refused x0_isKept x0_gone x0_spent, gSh d h1 r1_elements x1_held x1_sizes]) (gs' := fun _ => [gTw d h0 (h2 0) a0_kept a0_tape (h1 0) a0_choice a0_traffic x0_refused x0_isKept x0_gone x0_spent, gSh d h1 r1_elements x1_held x1_sizes, gLd d h2 x2_lineCount x2_goodsCount x2_workCount x2_years x2_lines x2_goods x2_works x2_change x2_coin x2_knownFree x2_isKnown]) (st' := fun _ => [.int v15]) (st := []) hK dX6_says_48 cv_RX6_109 iv_yX1_hasWork (As := [.int v8]) (kX1_hasWork _ d h2 x2_lineCount x2_goodsCount x2_workCount x2_years x2_lines x2_goods x2_works x2_change x2_coin x2_knownFree x2_isKnown v8 e16) rfl rfl (Nat.le_of_ble_eq_true rfl) (by decide) 2 0 rfl rfl rfl [2] [0, 1] rfl rfl rfl rfl [0, 1, 2] rfl (fun _ => rfl) (fun _ => rfl) rfl rfl rfl (fun _ => rfl) (fun _ => ?_)
        have j77 : fX6_says_j77 p2 x0_refused x0_isKept x0_gone x0_spent x2_lineCount x2_goodsCount x2_workCount x2_years x2_lines x2_goods x2_works x2_change x2_coin x2_knownFree x2_isKnown v8 = some out → J d Φ 4 [gTw d h0 (h2 0) a0_kept a0_tape (h1 0) a0_choice a0_traffic x0_refused x0_isKept x0_gone x0_spent, gSh d h1 r1_elements x1_held x1_sizes, gLd d h2 x2_lineCount x2_goodsCount x2_workCount x2_years x2_lines x2_goods x2_works x2_change x2_coin x2_knownFree x2_isKnown] 0 0 77 [(0, .ref (h0 0)), (2, .int p2), (3, .int v8)] [] := by
          intro  hf
          unfold fX6_says_j77 at hf
          refine J_aload_n hK dX6_says_77 rfl 0 rfl rfl ?_
          refine J_get hK fo_RX6_12 dX6_says_78 rfl 0 0 rfl rfl rfl ?_
          refine J_iload_n hK dX6_says_81 rfl 2 rfl rfl ?_
          obtain ⟨v17, e18, hf⟩ := bs hf
          refine J_callV (m' := 3) (ce' := 0) (sl' := 0) (gr := [gTw d h0 (h2 0) a0_kept a0_tape (h1 0) a0_choice a0_traffic x0_refused x0_isKept x0_gone x0_spent, gSh d h1 r1_elements x1_held x1_sizes]) (gs' := fun _ => [gTw d h0 (h2 0) a0_kept a0_tape (h1 0) a0_choice a0_traffic x0_refused x0_isKept x0_gone x0_spent, gSh d h1 r1_elements x1_held x1_sizes, gLd d h2 x2_lineCount x2_goodsCount x2_workCount x2_years x2_lines x2_goods x2_works x2_change x2_coin x2_knownFree x2_isKnown]) (st' := fun _ => [.int v17]) (st := []) hK dX6_says_82 cv_RX6_109 iv_yX1_hasWork (As := [.int v8]) (kX1_hasWork _ d h2 x2_lineCount x2_goodsCount x2_workCount x2_years x2_lines x2_goods x2_works x2_change x2_coin x2_knownFree x2_isKnown v8 e18) rfl rfl (Nat.le_of_ble_eq_true rfl) (by decide) 2 0 rfl rfl rfl [2] [0, 1] rfl rfl rfl rfl [0, 1, 2] rfl (fun _ => rfl) (fun _ => rfl) rfl rfl rfl (fun _ => rfl) (fun _ => ?_)
          refine J_if_ne (tg := 95) hK dX6_says_85 rfl rfl (fun hc85 => ?_) (fun hc85 => ?_)
          · have hf := iq hc85 hf
            refine J_iload_n hK dX6_says_95 rfl 1 rfl rfl ?_
            by_cases hc96_0 : p2 = 0
            · have hf := ip hc96_0 hf
              refine J_lk (off := 36) (tg := 132) hK dX6_says_96 rfl (by rw [hc96_0]; decide) rfl ?_
              refine J_aload_n hK dX6_says_132 rfl 0 rfl rfl ?_
              refine J_get hK fo_RX6_12 dX6_says_133 rfl 0 0 rfl rfl rfl ?_
              refine J_iload_n hK dX6_says_136 rfl 2 rfl rfl ?_
              refine J_iconst (v := 3) hK dX6_says_137 rfl (by decide) ?_
              obtain ⟨v19, e20, hf⟩ := bs hf
              refine J_callV (m' := 3) (ce' := 0) (sl' := 0) (gr := [gTw d h0 (h2 0) a0_kept a0_tape (h1 0) a0_choice a0_traffic x0_refused x0_isKept x0_gone x0_spent, gSh d h1 r1_elements x1_held x1_sizes]) (gs' := fun _ => [gTw d h0 (h2 0) a0_kept a0_tape (h1 0) a0_choice a0_traffic x0_refused x0_isKept x0_gone x0_spent, gSh d h1 r1_elements x1_held x1_sizes, gLd d h2 x2_lineCount x2_goodsCount x2_workCount x2_years x2_lines x2_goods x2_works x2_change x2_coin x2_knownFree x2_isKnown]) (st' := fun _ => [.int v19]) (st := []) hK dX6_says_138 cv_RX6_113 iv_yX1_ofWork (As := [.int v8, .int (3)]) (kX1_ofWork _ d h2 x2_lineCount x2_goodsCount x2_workCount x2_years x2_lines x2_goods x2_works x2_change x2_coin x2_knownFree x2_isKnown v8 (3) e20) rfl rfl (Nat.le_of_ble_eq_true rfl) (by decide) 2 0 rfl rfl rfl [2] [0, 1] rfl rfl rfl rfl [0, 1, 2] rfl (fun _ => rfl) (fun _ => rfl) rfl rfl rfl (fun _ => rfl) (fun _ => ?_)
              obtain rfl := Option.some.inj hf
              exact J_iret hK hR dX6_says_141 () rfl (by decide) (by decide)
            have hf := iq hc96_0 hf
            by_cases hc96_4 : p2 = 4
            · have hf := ip hc96_4 hf
              refine J_lk (off := 46) (tg := 142) hK dX6_says_96 rfl (by rw [hc96_4]; decide) rfl ?_
              refine J_bipush (v := 100) hK dX6_says_142 rfl (by decide) ?_
              refine J_aload_n hK dX6_says_144 rfl 0 rfl rfl ?_
              refine J_get hK fo_RX6_12 dX6_says_145 rfl 0 0 rfl rfl rfl ?_
              refine J_iload_n hK dX6_says_148 rfl 2 rfl rfl ?_
              refine J_iconst (v := 1) hK dX6_says_149 rfl (by decide) ?_
              obtain ⟨v21, e22, hf⟩ := bs hf
              refine J_callV (m' := 3) (ce' := 0) (sl' := 0) (gr := [gTw d h0 (h2 0) a0_kept a0_tape (h1 0) a0_choice a0_traffic x0_refused x0_isKept x0_gone x0_spent, gSh d h1 r1_elements x1_held x1_sizes]) (gs' := fun _ => [gTw d h0 (h2 0) a0_kept a0_tape (h1 0) a0_choice a0_traffic x0_refused x0_isKept x0_gone x0_spent, gSh d h1 r1_elements x1_held x1_sizes, gLd d h2 x2_lineCount x2_goodsCount x2_workCount x2_years x2_lines x2_goods x2_works x2_change x2_coin x2_knownFree x2_isKnown]) (st' := fun _ => [.int v21, .int (100)]) (st := [.int (100)]) hK dX6_says_150 cv_RX6_113 iv_yX1_ofWork (As := [.int v8, .int (1)]) (kX1_ofWork _ d h2 x2_lineCount x2_goodsCount x2_workCount x2_years x2_lines x2_goods x2_works x2_change x2_coin x2_knownFree x2_isKnown v8 (1) e22) rfl rfl (Nat.le_of_ble_eq_true rfl) (by decide) 2 0 rfl rfl rfl [2] [0, 1] rfl rfl rfl rfl [0, 1, 2] rfl (fun _ => rfl) (fun _ => rfl) rfl rfl rfl (fun _ => rfl) (fun _ => ?_)
              refine J_imul hK dX6_says_153 rfl ?_
              refine J_aload_n hK dX6_says_154 rfl 0 rfl rfl ?_
              refine J_get hK fo_RX6_12 dX6_says_155 rfl 0 0 rfl rfl rfl ?_
              refine J_iload_n hK dX6_says_158 rfl 2 rfl rfl ?_
              refine J_iconst (v := 2) hK dX6_says_159 rfl (by decide) ?_
              obtain ⟨v23, e24, hf⟩ := bs hf
              refine J_callV (m' := 3) (ce' := 0) (sl' := 0) (gr := [gTw d h0 (h2 0) a0_kept a0_tape (h1 0) a0_choice a0_traffic x0_refused x0_isKept x0_gone x0_spent, gSh d h1 r1_elements x1_held x1_sizes]) (gs' := fun _ => [gTw d h0 (h2 0) a0_kept a0_tape (h1 0) a0_choice a0_traffic x0_refused x0_isKept x0_gone x0_spent, gSh d h1 r1_elements x1_held x1_sizes, gLd d h2 x2_lineCount x2_goodsCount x2_workCount x2_years x2_lines x2_goods x2_works x2_change x2_coin x2_knownFree x2_isKnown]) (st' := fun _ => [.int v23, .int (100 * v21)]) (st := [.int (100 * v21)]) hK dX6_says_160 cv_RX6_113 iv_yX1_ofWork (As := [.int v8, .int (2)]) (kX1_ofWork _ d h2 x2_lineCount x2_goodsCount x2_workCount x2_years x2_lines x2_goods x2_works x2_change x2_coin x2_knownFree x2_isKnown v8 (2) e24) rfl rfl (Nat.le_of_ble_eq_true rfl) (by decide) 2 0 rfl rfl rfl [2] [0, 1] rfl rfl rfl rfl [0, 1, 2] rfl (fun _ => rfl) (fun _ => rfl) rfl rfl rfl (fun _ => rfl) (fun _ => ?_)
              refine J_iadd hK dX6_says_163 rfl ?_
              obtain rfl := Option.some.inj hf
              exact J_iret hK hR dX6_says_164 () rfl (by decide) (by decide)
            have hf := iq hc96_4 hf
            by_cases hc96_5 : p2 = 5
            · have hf := ip hc96_5 hf
              refine J_lk (off := 46) (tg := 142) hK dX6_says_96 rfl (by rw [hc96_5]; decide) rfl ?_
              refine J_bipush (v := 100) hK dX6_says_142 rfl (by decide) ?_
              refine J_aload_n hK dX6_says_144 rfl 0 rfl rfl ?_
              refine J_get hK fo_RX6_12 dX6_says_145 rfl 0 0 rfl rfl rfl ?_
              refine J_iload_n hK dX6_says_148 rfl 2 rfl rfl ?_
              refine J_iconst (v := 1) hK dX6_says_149 rfl (by decide) ?_
              obtain ⟨v25, e26, hf⟩ := bs hf
              refine J_callV (m' := 3) (ce' := 0) (sl' := 0) (gr := [gTw d h0 (h2 0) a0_kept a0_tape (h1 0) a0_choice a0_traffic x0_refused x0_isKept x0_gone x0_spent, gSh d h1 r1_elements x1_held x1_sizes]) (gs' := fun _ => [gTw d h0 (h2 0) a0_kept a0_tape (h1 0) a0_choice a0_traffic x0_refused x0_isKept x0_gone x0_spent, gSh d h1 r1_elements x1_held x1_sizes, gLd d h2 x2_lineCount x2_goodsCount x2_workCount x2_years x2_lines x2_goods x2_works x2_change x2_coin x2_knownFree x2_isKnown]) (st' := fun _ => [.int v25, .int (100)]) (st := [.int (100)]) hK dX6_says_150 cv_RX6_113 iv_yX1_ofWork (As := [.int v8, .int (1)]) (kX1_ofWork _ d h2 x2_lineCount x2_goodsCount x2_workCount x2_years x2_lines x2_goods x2_works x2_change x2_coin x2_knownFree x2_isKnown v8 (1) e26) rfl rfl (Nat.le_of_ble_eq_true rfl) (by decide) 2 0 rfl rfl rfl [2] [0, 1] rfl rfl rfl rfl [0, 1, 2] rfl (fun _ => rfl) (fun _ => rfl) rfl rfl rfl (fun _ => rfl) (fun _ => ?_)
              refine J_imul hK dX6_says_153 rfl ?_
              refine J_aload_n hK dX6_says_154 rfl 0 rfl rfl ?_
              refine J_get hK fo_RX6_12 dX6_says_155 rfl 0 0 rfl rfl rfl ?_
              refine J_iload_n hK dX6_says_158 rfl 2 rfl rfl ?_
              refine J_iconst (v := 2) hK dX6_says_159 rfl (by decide) ?_
              obtain ⟨v27, e28, hf⟩ := bs hf
              refine J_callV (m' := 3) (ce' := 0) (sl' := 0) (gr := [gTw d h0 (h2 0) a0_kept a0_tape (h1 0) a0_choice a0_traffic x0_refused x0_isKept x0_gone x0_spent, gSh d h1 r1_elements x1_held x1_sizes]) (gs' := fun _ => [gTw d h0 (h2 0) a0_kept a0_tape (h1 0) a0_choice a0_traffic x0_refused x0_isKept x0_gone x0_spent, gSh d h1 r1_elements x1_held x1_sizes, gLd d h2 x2_lineCount x2_goodsCount x2_workCount x2_years x2_lines x2_goods x2_works x2_change x2_coin x2_knownFree x2_isKnown]) (st' := fun _ => [.int v27, .int (100 * v25)]) (st := [.int (100 * v25)]) hK dX6_says_160 cv_RX6_113 iv_yX1_ofWork (As := [.int v8, .int (2)]) (kX1_ofWork _ d h2 x2_lineCount x2_goodsCount x2_workCount x2_years x2_lines x2_goods x2_works x2_change x2_coin x2_knownFree x2_isKnown v8 (2) e28) rfl rfl (Nat.le_of_ble_eq_true rfl) (by decide) 2 0 rfl rfl rfl [2] [0, 1] rfl rfl rfl rfl [0, 1, 2] rfl (fun _ => rfl) (fun _ => rfl) rfl rfl rfl (fun _ => rfl) (fun _ => ?_)
              refine J_iadd hK dX6_says_163 rfl ?_
              obtain rfl := Option.some.inj hf
              exact J_iret hK hR dX6_says_164 () rfl (by decide) (by decide)
            have hf := iq hc96_5 hf
            refine J_lk (off := 69) (tg := 165) hK dX6_says_96 rfl (by have q0 : ¬ p2.toInt = 0 := fun h => hc96_0 (Int32.toInt_inj.mp (h.trans (by decide))); have q4 : ¬ p2.toInt = 4 := fun h => hc96_4 (Int32.toInt_inj.mp (h.trans (by decide))); have q5 : ¬ p2.toInt = 5 := fun h => hc96_5 (Int32.toInt_inj.mp (h.trans (by decide))); simp [Op.lookupswitch.offset, Ne.symm q0, Ne.symm q4, Ne.symm q5]) rfl ?_
            refine J_aload_n hK dX6_says_165 rfl 0 rfl rfl ?_
            refine J_get hK fo_RX6_12 dX6_says_166 rfl 0 0 rfl rfl rfl ?_
            refine J_iload_n hK dX6_says_169 rfl 2 rfl rfl ?_
            refine J_iconst (v := 1) hK dX6_says_170 rfl (by decide) ?_
            obtain ⟨v29, e30, hf⟩ := bs hf
            refine J_callV (m' := 3) (ce' := 0) (sl' := 0) (gr := [gTw d h0 (h2 0) a0_kept a0_tape (h1 0) a0_choice a0_traffic x0_refused x0_isKept x0_gone x0_spent, gSh d h1 r1_elements x1_held x1_sizes]) (gs' := fun _ => [gTw d h0 (h2 0) a0_kept a0_tape (h1 0) a0_choice a0_traffic x0_refused x0_isKept x0_gone x0_spent, gSh d h1 r1_elements x1_held x1_sizes, gLd d h2 x2_lineCount x2_goodsCount x2_workCount x2_years x2_lines x2_goods x2_works x2_change x2_coin x2_knownFree x2_isKnown]) (st' := fun _ => [.int v29]) (st := []) hK dX6_says_171 cv_RX6_113 iv_yX1_ofWork (As := [.int v8, .int (1)]) (kX1_ofWork _ d h2 x2_lineCount x2_goodsCount x2_workCount x2_years x2_lines x2_goods x2_works x2_change x2_coin x2_knownFree x2_isKnown v8 (1) e30) rfl rfl (Nat.le_of_ble_eq_true rfl) (by decide) 2 0 rfl rfl rfl [2] [0, 1] rfl rfl rfl rfl [0, 1, 2] rfl (fun _ => rfl) (fun _ => rfl) rfl rfl rfl (fun _ => rfl) (fun _ => ?_)
            obtain rfl := Option.some.inj hf
            exact J_iret hK hR dX6_says_174 () rfl (by decide) (by decide)
          · have hf := ip hc85 hf
            refine J_aload_n hK dX6_says_88 rfl 0 rfl rfl ?_
            refine J_bipush (v := (-4)) hK dX6_says_89 rfl (by decide) ?_
            obtain ⟨⟨v31, g32⟩, e33, hf⟩ := bs hf
            have hf := un2 hf
            refine J_callV (m' := 3) (ce' := 0) (sl' := 0) (gr := [gSh d h1 r1_elements x1_held x1_sizes, gLd d h2 x2_lineCount x2_goodsCount x2_workCount x2_years x2_lines x2_goods x2_works x2_change x2_coin x2_knownFree x2_isKnown]) (gs' := fun _ => [gTw d h0 (h2 0) a0_kept a0_tape (h1 0) a0_choice a0_traffic g32 x0_isKept x0_gone x0_spent, gSh d h1 r1_elements x1_held x1_sizes, gLd d h2 x2_lineCount x2_goodsCount x2_workCount x2_years x2_lines x2_goods x2_works x2_change x2_coin x2_knownFree x2_isKnown]) (st' := fun _ => [.int v31]) (st := []) hK dX6_says_91 cv_RX6_68 iv_yX6_refuse (As := [.int (-4)]) (kX6_refuse _ d h0 (h2 0) a0_kept a0_tape (h1 0) a0_choice a0_traffic x0_refused x0_isKept x0_gone x0_spent (-4) e33) rfl rfl (Nat.le_of_ble_eq_true rfl) (by decide) 0 0 rfl rfl rfl [0] [1, 2] rfl rfl rfl rfl [2, 0, 1] rfl (fun _ => rfl) (fun _ => rfl) rfl rfl rfl (fun _ => rfl) (fun _ => ?_)
            obtain rfl := Option.some.inj hf
            exact J_iret hK hR dX6_says_94 () rfl (by decide) (by decide)
        refine J_if_eq (tg := 77) hK dX6_says_51 rfl rfl (fun hc51 => ?_) (fun hc51 => ?_)
        · have hf := ip hc51 hf
          exact J_loc [1, 3, 0] rfl (j77  hf)
        · have hf := iq hc51 hf
          refine J_aload_n hK dX6_says_54 rfl 1 rfl rfl ?_
          refine J_get hK fo_RX6_12 dX6_says_55 rfl 0 0 rfl rfl rfl ?_
          refine J_iload_n hK dX6_says_58 rfl 0 rfl rfl ?_
          refine J_iconst (v := 0) hK dX6_says_59 rfl (by decide) ?_
          obtain ⟨v34, e35, hf⟩ := bs hf
          refine J_callV (m' := 3) (ce' := 0) (sl' := 0) (gr := [gTw d h0 (h2 0) a0_kept a0_tape (h1 0) a0_choice a0_traffic x0_refused x0_isKept x0_gone x0_spent, gSh d h1 r1_elements x1_held x1_sizes]) (gs' := fun _ => [gTw d h0 (h2 0) a0_kept a0_tape (h1 0) a0_choice a0_traffic x0_refused x0_isKept x0_gone x0_spent, gSh d h1 r1_elements x1_held x1_sizes, gLd d h2 x2_lineCount x2_goodsCount x2_workCount x2_years x2_lines x2_goods x2_works x2_change x2_coin x2_knownFree x2_isKnown]) (st' := fun _ => [.int v34]) (st := []) hK dX6_says_60 cv_RX6_113 iv_yX1_ofWork (As := [.int v8, .int (0)]) (kX1_ofWork _ d h2 x2_lineCount x2_goodsCount x2_workCount x2_years x2_lines x2_goods x2_works x2_change x2_coin x2_knownFree x2_isKnown v8 (0) e35) rfl rfl (Nat.le_of_ble_eq_true rfl) (by decide) 2 0 rfl rfl rfl [2] [0, 1] rfl rfl rfl rfl [0, 1, 2] rfl (fun _ => rfl) (fun _ => rfl) rfl rfl rfl (fun _ => rfl) (fun _ => ?_)
          refine J_iload_n hK dX6_says_63 rfl 3 rfl rfl ?_
          obtain ⟨v36, e37, hf⟩ := bs hf
          refine J_callS (m' := 3) (ce' := 0) (sl' := 0) (gr := [gTw d h0 (h2 0) a0_kept a0_tape (h1 0) a0_choice a0_traffic x0_refused x0_isKept x0_gone x0_spent, gSh d h1 r1_elements x1_held x1_sizes, gLd d h2 x2_lineCount x2_goodsCount x2_workCount x2_years x2_lines x2_goods x2_works x2_change x2_coin x2_knownFree x2_isKnown]) (gs' := fun _ => [gTw d h0 (h2 0) a0_kept a0_tape (h1 0) a0_choice a0_traffic x0_refused x0_isKept x0_gone x0_spent, gSh d h1 r1_elements x1_held x1_sizes, gLd d h2 x2_lineCount x2_goodsCount x2_workCount x2_years x2_lines x2_goods x2_works x2_change x2_coin x2_knownFree x2_isKnown]) (st' := fun _ => [.int v36]) (st := []) hK dX6_says_64 cv_RX6_117 ws_yX6_isUnder (As := [.int v34, .int p2]) (kX6_isUnder _ d n v34 p2 e37) rfl rfl (Nat.le_of_ble_eq_true rfl) (by decide) [] [0, 1, 2] rfl rfl rfl rfl [0, 1, 2] rfl (fun _ => rfl) (fun _ => rfl) rfl rfl rfl (fun _ => rfl) (fun _ => ?_)
          refine J_if_ne (tg := 77) hK dX6_says_67 rfl rfl (fun hc67 => ?_) (fun hc67 => ?_)
          · have hf := iq hc67 hf
            exact J_loc [1, 3, 0] rfl (j77  hf)
          · have hf := ip hc67 hf
            refine J_aload_n hK dX6_says_70 rfl 1 rfl rfl ?_
            refine J_bipush (v := (-3)) hK dX6_says_71 rfl (by decide) ?_
            obtain ⟨⟨v38, g39⟩, e40, hf⟩ := bs hf
            have hf := un2 hf
            refine J_callV (m' := 3) (ce' := 0) (sl' := 0) (gr := [gSh d h1 r1_elements x1_held x1_sizes, gLd d h2 x2_lineCount x2_goodsCount x2_workCount x2_years x2_lines x2_goods x2_works x2_change x2_coin x2_knownFree x2_isKnown]) (gs' := fun _ => [gTw d h0 (h2 0) a0_kept a0_tape (h1 0) a0_choice a0_traffic g39 x0_isKept x0_gone x0_spent, gSh d h1 r1_elements x1_held x1_sizes, gLd d h2 x2_lineCount x2_goodsCount x2_workCount x2_years x2_lines x2_goods x2_works x2_change x2_coin x2_knownFree x2_isKnown]) (st' := fun _ => [.int v38]) (st := []) hK dX6_says_73 cv_RX6_68 iv_yX6_refuse (As := [.int (-3)]) (kX6_refuse _ d h0 (h2 0) a0_kept a0_tape (h1 0) a0_choice a0_traffic x0_refused x0_isKept x0_gone x0_spent (-3) e40) rfl rfl (Nat.le_of_ble_eq_true rfl) (by decide) 0 0 rfl rfl rfl [0] [1, 2] rfl rfl rfl rfl [2, 0, 1] rfl (fun _ => rfl) (fun _ => rfl) rfl rfl rfl (fun _ => rfl) (fun _ => ?_)
            obtain rfl := Option.some.inj hf
            exact J_iret hK hR dX6_says_76 () rfl (by decide) (by decide)
    · have hf := ip hc13 hf
      refine J_aload_n hK dX6_says_16 rfl 0 rfl rfl ?_
      refine J_bipush (v := (-2)) hK dX6_says_17 rfl (by decide) ?_
      obtain ⟨⟨v41, g42⟩, e43, hf⟩ := bs hf
      have hf := un2 hf
      refine J_callV (m' := 3) (ce' := 0) (sl' := 0) (gr := [gSh d h1 r1_elements x1_held x1_sizes, gLd d h2 x2_lineCount x2_goodsCount x2_workCount x2_years x2_lines x2_goods x2_works x2_change x2_coin x2_knownFree x2_isKnown]) (gs' := fun _ => [gTw d h0 (h2 0) a0_kept a0_tape (h1 0) a0_choice a0_traffic g42 x0_isKept x0_gone x0_spent, gSh d h1 r1_elements x1_held x1_sizes, gLd d h2 x2_lineCount x2_goodsCount x2_workCount x2_years x2_lines x2_goods x2_works x2_change x2_coin x2_knownFree x2_isKnown]) (st' := fun _ => [.int v41]) (st := []) hK dX6_says_19 cv_RX6_68 iv_yX6_refuse (As := [.int (-2)]) (kX6_refuse _ d h0 (h2 0) a0_kept a0_tape (h1 0) a0_choice a0_traffic x0_refused x0_isKept x0_gone x0_spent (-2) e43) rfl rfl (Nat.le_of_ble_eq_true rfl) (by decide) 0 0 rfl rfl rfl [0] [1, 2] rfl rfl rfl rfl [2, 0, 1] rfl (fun _ => rfl) (fun _ => rfl) rfl rfl rfl (fun _ => rfl) (fun _ => ?_)
      obtain rfl := Option.some.inj hf
      exact J_iret hK hR dX6_says_22 () rfl (by decide) (by decide)

def fX6_isPlace (p0 : Int32) : Option (Int32) :=
  (fX6_within p0 (0) (11)).bind (fun v1 => (zb v1).bind fun v3 => some v3)
set_option maxHeartbeats 4000000 in
set_option maxRecDepth 100000 in
theorem kX6_isPlace (l : Launch) (d : DT)  (p0 : Int32)  {out : Int32} (hf : fX6_isPlace p0 = some out) : Ct l d yX6_isPlace cX6_isPlace 1 (some .boolean) { frames := 1, cells := 0, slots := 0, locals := 22 } [.int p0] [] (fun _ : Unit => (some (.int out), [])) := by
  refine Ct.of (by decide) (Nat.le_of_ble_eq_true rfl) ?_
  intro Φ hl hK hR
  subst hl
  have hK : Ok d Φ RX6 "isPlace" cX6_isPlace 1 (some .boolean) { frames := 1, cells := 0, slots := 0, locals := 22 } := hK
  unfold fX6_isPlace at hf
  show J d Φ 1 [] 0 0 0 [(0, .int p0)] []
  refine J_iload_n hK dX6_isPlace_0 rfl 0 rfl rfl ?_
  refine J_iconst (v := 0) hK dX6_isPlace_1 rfl (by decide) ?_
  refine J_bipush (v := 11) hK dX6_isPlace_2 rfl (by decide) ?_
  obtain ⟨v1, e2, hf⟩ := bs hf
  refine J_callS (m' := 0) (ce' := 0) (sl' := 0) (gr := []) (gs' := fun _ => []) (st' := fun _ => [.int v1]) (st := []) hK dX6_isPlace_4 cv_RX6_64 ws_yX6_within (As := [.int p0, .int (0), .int (11)]) (kX6_within _ d p0 (0) (11) e2) rfl rfl (Nat.le_of_ble_eq_true rfl) (by decide) [] [] rfl rfl rfl rfl [] rfl (fun _ => rfl) (fun _ => rfl) rfl rfl rfl (fun _ => rfl) (fun _ => ?_)
  obtain ⟨v3, ev3, hf⟩ := bs hf
  obtain rfl := Option.some.inj hf
  exact J_zret hK hR dX6_isPlace_7 () (zb_ok ev3).2 (by rw [(zb_ok ev3).1]) (by decide) (by decide)

def fX6_line (X0 : TwT) (X1 : LdT) (p1 : Int32) (p2 : Int32) (p3 : Int32) (p4 : Int32) (p5 : Int32) (p6 : Int32) : Option (Int32 × (Nat → Int32) × Int32 × (Nat → Int32) × Int32) :=
  u4 (fun (x0_refused : (Nat → Int32)) (x0_isKept : Int32) (x0_gone : Int32) (x0_spent : Int32) => u11 (fun (x1_lineCount : Int32) (x1_goodsCount : Int32) (x1_workCount : Int32) (x1_years : Int32) (x1_lines : (Nat → Int32)) (x1_goods : (Nat → Int32)) (x1_works : (Nat → Int32)) (x1_change : (Nat → Int32)) (x1_coin : (Nat → Int32)) (x1_knownFree : (Nat → Int32)) (x1_isKnown : Int32) => (fX6_isPlace p1).bind (fun v1 => if v1 = 0 then ((fX6_refuse (x0_refused, x0_isKept, x0_gone, x0_spent) (-2)).bind (u2 fun v3 g4 => some (v3, g4, x1_lineCount, x1_lines, x1_isKnown))) else ((fX6_isPlace p2).bind (fun v6 => if v6 = 0 then ((fX6_refuse (x0_refused, x0_isKept, x0_gone, x0_spent) (-2)).bind (u2 fun v8 g9 => some (v8, g9, x1_lineCount, x1_lines, x1_isKnown))) else (if p1 = p2 then ((fX6_refuse (x0_refused, x0_isKept, x0_gone, x0_spent) (-2)).bind (u2 fun v11 g12 => some (v11, g12, x1_lineCount, x1_lines, x1_isKnown))) else ((fX6_within p3 (1) (7)).bind (fun v14 => if v14 = 0 then ((fX6_refuse (x0_refused, x0_isKept, x0_gone, x0_spent) (-2)).bind (u2 fun v16 g17 => some (v16, g17, x1_lineCount, x1_lines, x1_isKnown))) else ((fX6_within p4 (1) (60)).bind (fun v19 => if v19 = 0 then ((fX6_refuse (x0_refused, x0_isKept, x0_gone, x0_spent) (-2)).bind (u2 fun v21 g22 => some (v21, g22, x1_lineCount, x1_lines, x1_isKnown))) else ((fX6_within p5 (1) (999)).bind (fun v24 => if v24 = 0 then ((fX6_refuse (x0_refused, x0_isKept, x0_gone, x0_spent) (-2)).bind (u2 fun v26 g27 => some (v26, g27, x1_lineCount, x1_lines, x1_isKnown))) else ((fX6_within p6 (0) (5)).bind (fun v29 => if v29 = 0 then ((fX6_refuse (x0_refused, x0_isKept, x0_gone, x0_spent) (-2)).bind (u2 fun v38 g39 => some (v38, g39, x1_lineCount, x1_lines, x1_isKnown))) else (if x1_lineCount < 20 then ((fX1_addLine (x1_lineCount, x1_goodsCount, x1_workCount, x1_years, x1_lines, x1_goods, x1_works, x1_change, x1_coin, x1_knownFree, x1_isKnown) p1 p2 p3 p4 p5 p6).bind (u3 fun g31 g32 g33 => some ((g31 - 1), x0_refused, g31, g32, g33))) else ((fX6_refuse (x0_refused, x0_isKept, x0_gone, x0_spent) (-6)).bind (u2 fun v35 g36 => some (v35, g36, x1_lineCount, x1_lines, x1_isKnown))))))))))))))))) X1) X0
set_option maxHeartbeats 4000000 in
set_option maxRecDepth 100000 in
theorem kX6_line (l : Launch) (d : DT) (h0 : Nat → Nat) (a0_kept : Nat) (a0_tape : Nat) (a0_shelves : Nat) (a0_choice : Nat) (a0_traffic : Nat) (h1 : Nat → Nat) (x0_refused : (Nat → Int32)) (x0_isKept : Int32) (x0_gone : Int32) (x0_spent : Int32) (x1_lineCount : Int32) (x1_goodsCount : Int32) (x1_workCount : Int32) (x1_years : Int32) (x1_lines : (Nat → Int32)) (x1_goods : (Nat → Int32)) (x1_works : (Nat → Int32)) (x1_change : (Nat → Int32)) (x1_coin : (Nat → Int32)) (x1_knownFree : (Nat → Int32)) (x1_isKnown : Int32) (p1 : Int32) (p2 : Int32) (p3 : Int32) (p4 : Int32) (p5 : Int32) (p6 : Int32)  {out : Int32 × (Nat → Int32) × Int32 × (Nat → Int32) × Int32} (hf : fX6_line (x0_refused, x0_isKept, x0_gone, x0_spent) (x1_lineCount, x1_goodsCount, x1_workCount, x1_years, x1_lines, x1_goods, x1_works, x1_change, x1_coin, x1_knownFree, x1_isKnown) p1 p2 p3 p4 p5 p6 = some out) : Ct l d yX6_line cX6_line 7 (some .int) { frames := 2, cells := 0, slots := 0, locals := 43 } [.ref (h0 0), .int p1, .int p2, .int p3, .int p4, .int p5, .int p6] [gTw d h0 (h1 0) a0_kept a0_tape a0_shelves a0_choice a0_traffic x0_refused x0_isKept x0_gone x0_spent, gLd d h1 x1_lineCount x1_goodsCount x1_workCount x1_years x1_lines x1_goods x1_works x1_change x1_coin x1_knownFree x1_isKnown] (fun _ : Unit => (some (.int out.1), [gTw d h0 (h1 0) a0_kept a0_tape a0_shelves a0_choice a0_traffic (out.2.1) x0_isKept x0_gone x0_spent, gLd d h1 (out.2.2.1) x1_goodsCount x1_workCount x1_years (out.2.2.2.1) x1_goods x1_works x1_change x1_coin x1_knownFree (out.2.2.2.2)])) := by
  refine Ct.of (by decide) (Nat.le_of_ble_eq_true rfl) ?_
  intro Φ hl hK hR
  subst hl
  have hK : Ok d Φ RX6 "line" cX6_line 7 (some .int) { frames := 2, cells := 0, slots := 0, locals := 43 } := hK
  unfold fX6_line at hf
  have hf := un4 hf
  have hf := un11 hf
  show J d Φ 7 [gTw d h0 (h1 0) a0_kept a0_tape a0_shelves a0_choice a0_traffic x0_refused x0_isKept x0_gone x0_spent, gLd d h1 x1_lineCount x1_goodsCount x1_workCount x1_years x1_lines x1_goods x1_works x1_change x1_coin x1_knownFree x1_isKnown] 0 0 0 [(0, .ref (h0 0)), (1, .int p1), (2, .int p2), (3, .int p3), (4, .int p4), (5, .int p5), (6, .int p6)] []
  refine J_iload_n hK dX6_line_0 rfl 1 rfl rfl ?_
  obtain ⟨v1, e2, hf⟩ := bs hf
  refine J_callS (m' := 2) (ce' := 0) (sl' := 0) (gr := [gTw d h0 (h1 0) a0_kept a0_tape a0_shelves a0_choice a0_traffic x0_refused x0_isKept x0_gone x0_spent, gLd d h1 x1_lineCount x1_goodsCount x1_workCount x1_years x1_lines x1_goods x1_works x1_change x1_coin x1_knownFree x1_isKnown]) (gs' := fun _ => [gTw d h0 (h1 0) a0_kept a0_tape a0_shelves a0_choice a0_traffic x0_refused x0_isKept x0_gone x0_spent, gLd d h1 x1_lineCount x1_goodsCount x1_workCount x1_years x1_lines x1_goods x1_works x1_change x1_coin x1_knownFree x1_isKnown]) (st' := fun _ => [.int v1]) (st := []) hK dX6_line_1 cv_RX6_120 ws_yX6_isPlace (As := [.int p1]) (kX6_isPlace _ d p1 e2) rfl rfl (Nat.le_of_ble_eq_true rfl) (by decide) [] [0, 1] rfl rfl rfl rfl [0, 1] rfl (fun _ => rfl) (fun _ => rfl) rfl rfl rfl (fun _ => rfl) (fun _ => ?_)
  refine J_if_eq (tg := 62) hK dX6_line_4 rfl rfl (fun hc4 => ?_) (fun hc4 => ?_)
  · have hf := ip hc4 hf
    refine J_aload_n hK dX6_line_62 rfl 0 rfl rfl ?_
    refine J_bipush (v := (-2)) hK dX6_line_63 rfl (by decide) ?_
    obtain ⟨⟨v3, g4⟩, e5, hf⟩ := bs hf
    have hf := un2 hf
    refine J_callV (m' := 2) (ce' := 0) (sl' := 0) (gr := [gLd d h1 x1_lineCount x1_goodsCount x1_workCount x1_years x1_lines x1_goods x1_works x1_change x1_coin x1_knownFree x1_isKnown]) (gs' := fun _ => [gTw d h0 (h1 0) a0_kept a0_tape a0_shelves a0_choice a0_traffic g4 x0_isKept x0_gone x0_spent, gLd d h1 x1_lineCount x1_goodsCount x1_workCount x1_years x1_lines x1_goods x1_works x1_change x1_coin x1_knownFree x1_isKnown]) (st' := fun _ => [.int v3]) (st := []) hK dX6_line_65 cv_RX6_68 iv_yX6_refuse (As := [.int (-2)]) (kX6_refuse _ d h0 (h1 0) a0_kept a0_tape a0_shelves a0_choice a0_traffic x0_refused x0_isKept x0_gone x0_spent (-2) e5) rfl rfl (Nat.le_of_ble_eq_true rfl) (by decide) 0 0 rfl rfl rfl [0] [1] rfl rfl rfl rfl [1, 0] rfl (fun _ => rfl) (fun _ => rfl) rfl rfl rfl (fun _ => rfl) (fun _ => ?_)
    obtain rfl := Option.some.inj hf
    exact J_iret hK hR dX6_line_68 () rfl (by decide) (by decide)
  · have hf := iq hc4 hf
    refine J_iload_n hK dX6_line_7 rfl 2 rfl rfl ?_
    obtain ⟨v6, e7, hf⟩ := bs hf
    refine J_callS (m' := 2) (ce' := 0) (sl' := 0) (gr := [gTw d h0 (h1 0) a0_kept a0_tape a0_shelves a0_choice a0_traffic x0_refused x0_isKept x0_gone x0_spent, gLd d h1 x1_lineCount x1_goodsCount x1_workCount x1_years x1_lines x1_goods x1_works x1_change x1_coin x1_knownFree x1_isKnown]) (gs' := fun _ => [gTw d h0 (h1 0) a0_kept a0_tape a0_shelves a0_choice a0_traffic x0_refused x0_isKept x0_gone x0_spent, gLd d h1 x1_lineCount x1_goodsCount x1_workCount x1_years x1_lines x1_goods x1_works x1_change x1_coin x1_knownFree x1_isKnown]) (st' := fun _ => [.int v6]) (st := []) hK dX6_line_8 cv_RX6_120 ws_yX6_isPlace (As := [.int p2]) (kX6_isPlace _ d p2 e7) rfl rfl (Nat.le_of_ble_eq_true rfl) (by decide) [] [0, 1] rfl rfl rfl rfl [0, 1] rfl (fun _ => rfl) (fun _ => rfl) rfl rfl rfl (fun _ => rfl) (fun _ => ?_)
    refine J_if_eq (tg := 62) hK dX6_line_11 rfl rfl (fun hc11 => ?_) (fun hc11 => ?_)
    · have hf := ip hc11 hf
      refine J_aload_n hK dX6_line_62 rfl 0 rfl rfl ?_
      refine J_bipush (v := (-2)) hK dX6_line_63 rfl (by decide) ?_
      obtain ⟨⟨v8, g9⟩, e10, hf⟩ := bs hf
      have hf := un2 hf
      refine J_callV (m' := 2) (ce' := 0) (sl' := 0) (gr := [gLd d h1 x1_lineCount x1_goodsCount x1_workCount x1_years x1_lines x1_goods x1_works x1_change x1_coin x1_knownFree x1_isKnown]) (gs' := fun _ => [gTw d h0 (h1 0) a0_kept a0_tape a0_shelves a0_choice a0_traffic g9 x0_isKept x0_gone x0_spent, gLd d h1 x1_lineCount x1_goodsCount x1_workCount x1_years x1_lines x1_goods x1_works x1_change x1_coin x1_knownFree x1_isKnown]) (st' := fun _ => [.int v8]) (st := []) hK dX6_line_65 cv_RX6_68 iv_yX6_refuse (As := [.int (-2)]) (kX6_refuse _ d h0 (h1 0) a0_kept a0_tape a0_shelves a0_choice a0_traffic x0_refused x0_isKept x0_gone x0_spent (-2) e10) rfl rfl (Nat.le_of_ble_eq_true rfl) (by decide) 0 0 rfl rfl rfl [0] [1] rfl rfl rfl rfl [1, 0] rfl (fun _ => rfl) (fun _ => rfl) rfl rfl rfl (fun _ => rfl) (fun _ => ?_)
      obtain rfl := Option.some.inj hf
      exact J_iret hK hR dX6_line_68 () rfl (by decide) (by decide)
    · have hf := iq hc11 hf
      refine J_iload_n hK dX6_line_14 rfl 1 rfl rfl ?_
      refine J_iload_n hK dX6_line_15 rfl 2 rfl rfl ?_
      refine J_icmp_eq (tg := 62) hK dX6_line_16 rfl rfl (fun hc16 => ?_) (fun hc16 => ?_)
      · have hf := ip hc16 hf
        refine J_aload_n hK dX6_line_62 rfl 0 rfl rfl ?_
        refine J_bipush (v := (-2)) hK dX6_line_63 rfl (by decide) ?_
        obtain ⟨⟨v11, g12⟩, e13, hf⟩ := bs hf
        have hf := un2 hf
        refine J_callV (m' := 2) (ce' := 0) (sl' := 0) (gr := [gLd d h1 x1_lineCount x1_goodsCount x1_workCount x1_years x1_lines x1_goods x1_works x1_change x1_coin x1_knownFree x1_isKnown]) (gs' := fun _ => [gTw d h0 (h1 0) a0_kept a0_tape a0_shelves a0_choice a0_traffic g12 x0_isKept x0_gone x0_spent, gLd d h1 x1_lineCount x1_goodsCount x1_workCount x1_years x1_lines x1_goods x1_works x1_change x1_coin x1_knownFree x1_isKnown]) (st' := fun _ => [.int v11]) (st := []) hK dX6_line_65 cv_RX6_68 iv_yX6_refuse (As := [.int (-2)]) (kX6_refuse _ d h0 (h1 0) a0_kept a0_tape a0_shelves a0_choice a0_traffic x0_refused x0_isKept x0_gone x0_spent (-2) e13) rfl rfl (Nat.le_of_ble_eq_true rfl) (by decide) 0 0 rfl rfl rfl [0] [1] rfl rfl rfl rfl [1, 0] rfl (fun _ => rfl) (fun _ => rfl) rfl rfl rfl (fun _ => rfl) (fun _ => ?_)
        obtain rfl := Option.some.inj hf
        exact J_iret hK hR dX6_line_68 () rfl (by decide) (by decide)
      · have hf := iq hc16 hf
        refine J_iload_n hK dX6_line_19 rfl 3 rfl rfl ?_
        refine J_iconst (v := 1) hK dX6_line_20 rfl (by decide) ?_
        refine J_bipush (v := 7) hK dX6_line_21 rfl (by decide) ?_
        obtain ⟨v14, e15, hf⟩ := bs hf
        refine J_callS (m' := 2) (ce' := 0) (sl' := 0) (gr := [gTw d h0 (h1 0) a0_kept a0_tape a0_shelves a0_choice a0_traffic x0_refused x0_isKept x0_gone x0_spent, gLd d h1 x1_lineCount x1_goodsCount x1_workCount x1_years x1_lines x1_goods x1_works x1_change x1_coin x1_knownFree x1_isKnown]) (gs' := fun _ => [gTw d h0 (h1 0) a0_kept a0_tape a0_shelves a0_choice a0_traffic x0_refused x0_isKept x0_gone x0_spent, gLd d h1 x1_lineCount x1_goodsCount x1_workCount x1_years x1_lines x1_goods x1_works x1_change x1_coin x1_knownFree x1_isKnown]) (st' := fun _ => [.int v14]) (st := []) hK dX6_line_23 cv_RX6_64 ws_yX6_within (As := [.int p3, .int (1), .int (7)]) (kX6_within _ d p3 (1) (7) e15) rfl rfl (Nat.le_of_ble_eq_true rfl) (by decide) [] [0, 1] rfl rfl rfl rfl [0, 1] rfl (fun _ => rfl) (fun _ => rfl) rfl rfl rfl (fun _ => rfl) (fun _ => ?_)
        refine J_if_eq (tg := 62) hK dX6_line_26 rfl rfl (fun hc26 => ?_) (fun hc26 => ?_)
        · have hf := ip hc26 hf
          refine J_aload_n hK dX6_line_62 rfl 0 rfl rfl ?_
          refine J_bipush (v := (-2)) hK dX6_line_63 rfl (by decide) ?_
          obtain ⟨⟨v16, g17⟩, e18, hf⟩ := bs hf
          have hf := un2 hf
          refine J_callV (m' := 2) (ce' := 0) (sl' := 0) (gr := [gLd d h1 x1_lineCount x1_goodsCount x1_workCount x1_years x1_lines x1_goods x1_works x1_change x1_coin x1_knownFree x1_isKnown]) (gs' := fun _ => [gTw d h0 (h1 0) a0_kept a0_tape a0_shelves a0_choice a0_traffic g17 x0_isKept x0_gone x0_spent, gLd d h1 x1_lineCount x1_goodsCount x1_workCount x1_years x1_lines x1_goods x1_works x1_change x1_coin x1_knownFree x1_isKnown]) (st' := fun _ => [.int v16]) (st := []) hK dX6_line_65 cv_RX6_68 iv_yX6_refuse (As := [.int (-2)]) (kX6_refuse _ d h0 (h1 0) a0_kept a0_tape a0_shelves a0_choice a0_traffic x0_refused x0_isKept x0_gone x0_spent (-2) e18) rfl rfl (Nat.le_of_ble_eq_true rfl) (by decide) 0 0 rfl rfl rfl [0] [1] rfl rfl rfl rfl [1, 0] rfl (fun _ => rfl) (fun _ => rfl) rfl rfl rfl (fun _ => rfl) (fun _ => ?_)
          obtain rfl := Option.some.inj hf
          exact J_iret hK hR dX6_line_68 () rfl (by decide) (by decide)
        · have hf := iq hc26 hf
          refine J_iload hK dX6_line_29 rfl 4 rfl ?_
          refine J_iconst (v := 1) hK dX6_line_31 rfl (by decide) ?_
          refine J_bipush (v := 60) hK dX6_line_32 rfl (by decide) ?_
          obtain ⟨v19, e20, hf⟩ := bs hf
          refine J_callS (m' := 2) (ce' := 0) (sl' := 0) (gr := [gTw d h0 (h1 0) a0_kept a0_tape a0_shelves a0_choice a0_traffic x0_refused x0_isKept x0_gone x0_spent, gLd d h1 x1_lineCount x1_goodsCount x1_workCount x1_years x1_lines x1_goods x1_works x1_change x1_coin x1_knownFree x1_isKnown]) (gs' := fun _ => [gTw d h0 (h1 0) a0_kept a0_tape a0_shelves a0_choice a0_traffic x0_refused x0_isKept x0_gone x0_spent, gLd d h1 x1_lineCount x1_goodsCount x1_workCount x1_years x1_lines x1_goods x1_works x1_change x1_coin x1_knownFree x1_isKnown]) (st' := fun _ => [.int v19]) (st := []) hK dX6_line_34 cv_RX6_64 ws_yX6_within (As := [.int p4, .int (1), .int (60)]) (kX6_within _ d p4 (1) (60) e20) rfl rfl (Nat.le_of_ble_eq_true rfl) (by decide) [] [0, 1] rfl rfl rfl rfl [0, 1] rfl (fun _ => rfl) (fun _ => rfl) rfl rfl rfl (fun _ => rfl) (fun _ => ?_)
          refine J_if_eq (tg := 62) hK dX6_line_37 rfl rfl (fun hc37 => ?_) (fun hc37 => ?_)
          · have hf := ip hc37 hf
            refine J_aload_n hK dX6_line_62 rfl 0 rfl rfl ?_
            refine J_bipush (v := (-2)) hK dX6_line_63 rfl (by decide) ?_
            obtain ⟨⟨v21, g22⟩, e23, hf⟩ := bs hf
            have hf := un2 hf
            refine J_callV (m' := 2) (ce' := 0) (sl' := 0) (gr := [gLd d h1 x1_lineCount x1_goodsCount x1_workCount x1_years x1_lines x1_goods x1_works x1_change x1_coin x1_knownFree x1_isKnown]) (gs' := fun _ => [gTw d h0 (h1 0) a0_kept a0_tape a0_shelves a0_choice a0_traffic g22 x0_isKept x0_gone x0_spent, gLd d h1 x1_lineCount x1_goodsCount x1_workCount x1_years x1_lines x1_goods x1_works x1_change x1_coin x1_knownFree x1_isKnown]) (st' := fun _ => [.int v21]) (st := []) hK dX6_line_65 cv_RX6_68 iv_yX6_refuse (As := [.int (-2)]) (kX6_refuse _ d h0 (h1 0) a0_kept a0_tape a0_shelves a0_choice a0_traffic x0_refused x0_isKept x0_gone x0_spent (-2) e23) rfl rfl (Nat.le_of_ble_eq_true rfl) (by decide) 0 0 rfl rfl rfl [0] [1] rfl rfl rfl rfl [1, 0] rfl (fun _ => rfl) (fun _ => rfl) rfl rfl rfl (fun _ => rfl) (fun _ => ?_)
            obtain rfl := Option.some.inj hf
            exact J_iret hK hR dX6_line_68 () rfl (by decide) (by decide)
          · have hf := iq hc37 hf
            refine J_iload hK dX6_line_40 rfl 5 rfl ?_
            refine J_iconst (v := 1) hK dX6_line_42 rfl (by decide) ?_
            refine J_sipush (v := 999) hK dX6_line_43 rfl (by decide) ?_
            obtain ⟨v24, e25, hf⟩ := bs hf
            refine J_callS (m' := 2) (ce' := 0) (sl' := 0) (gr := [gTw d h0 (h1 0) a0_kept a0_tape a0_shelves a0_choice a0_traffic x0_refused x0_isKept x0_gone x0_spent, gLd d h1 x1_lineCount x1_goodsCount x1_workCount x1_years x1_lines x1_goods x1_works x1_change x1_coin x1_knownFree x1_isKnown]) (gs' := fun _ => [gTw d h0 (h1 0) a0_kept a0_tape a0_shelves a0_choice a0_traffic x0_refused x0_isKept x0_gone x0_spent, gLd d h1 x1_lineCount x1_goodsCount x1_workCount x1_years x1_lines x1_goods x1_works x1_change x1_coin x1_knownFree x1_isKnown]) (st' := fun _ => [.int v24]) (st := []) hK dX6_line_46 cv_RX6_64 ws_yX6_within (As := [.int p5, .int (1), .int (999)]) (kX6_within _ d p5 (1) (999) e25) rfl rfl (Nat.le_of_ble_eq_true rfl) (by decide) [] [0, 1] rfl rfl rfl rfl [0, 1] rfl (fun _ => rfl) (fun _ => rfl) rfl rfl rfl (fun _ => rfl) (fun _ => ?_)
            refine J_if_eq (tg := 62) hK dX6_line_49 rfl rfl (fun hc49 => ?_) (fun hc49 => ?_)
            · have hf := ip hc49 hf
              refine J_aload_n hK dX6_line_62 rfl 0 rfl rfl ?_
              refine J_bipush (v := (-2)) hK dX6_line_63 rfl (by decide) ?_
              obtain ⟨⟨v26, g27⟩, e28, hf⟩ := bs hf
              have hf := un2 hf
              refine J_callV (m' := 2) (ce' := 0) (sl' := 0) (gr := [gLd d h1 x1_lineCount x1_goodsCount x1_workCount x1_years x1_lines x1_goods x1_works x1_change x1_coin x1_knownFree x1_isKnown]) (gs' := fun _ => [gTw d h0 (h1 0) a0_kept a0_tape a0_shelves a0_choice a0_traffic g27 x0_isKept x0_gone x0_spent, gLd d h1 x1_lineCount x1_goodsCount x1_workCount x1_years x1_lines x1_goods x1_works x1_change x1_coin x1_knownFree x1_isKnown]) (st' := fun _ => [.int v26]) (st := []) hK dX6_line_65 cv_RX6_68 iv_yX6_refuse (As := [.int (-2)]) (kX6_refuse _ d h0 (h1 0) a0_kept a0_tape a0_shelves a0_choice a0_traffic x0_refused x0_isKept x0_gone x0_spent (-2) e28) rfl rfl (Nat.le_of_ble_eq_true rfl) (by decide) 0 0 rfl rfl rfl [0] [1] rfl rfl rfl rfl [1, 0] rfl (fun _ => rfl) (fun _ => rfl) rfl rfl rfl (fun _ => rfl) (fun _ => ?_)
              obtain rfl := Option.some.inj hf
              exact J_iret hK hR dX6_line_68 () rfl (by decide) (by decide)
            · have hf := iq hc49 hf
              refine J_iload hK dX6_line_52 rfl 6 rfl ?_
              refine J_iconst (v := 0) hK dX6_line_54 rfl (by decide) ?_
              refine J_iconst (v := 5) hK dX6_line_55 rfl (by decide) ?_
              obtain ⟨v29, e30, hf⟩ := bs hf
              refine J_callS (m' := 2) (ce' := 0) (sl' := 0) (gr := [gTw d h0 (h1 0) a0_kept a0_tape a0_shelves a0_choice a0_traffic x0_refused x0_isKept x0_gone x0_spent, gLd d h1 x1_lineCount x1_goodsCount x1_workCount x1_years x1_lines x1_goods x1_works x1_change x1_coin x1_knownFree x1_isKnown]) (gs' := fun _ => [gTw d h0 (h1 0) a0_kept a0_tape a0_shelves a0_choice a0_traffic x0_refused x0_isKept x0_gone x0_spent, gLd d h1 x1_lineCount x1_goodsCount x1_workCount x1_years x1_lines x1_goods x1_works x1_change x1_coin x1_knownFree x1_isKnown]) (st' := fun _ => [.int v29]) (st := []) hK dX6_line_56 cv_RX6_64 ws_yX6_within (As := [.int p6, .int (0), .int (5)]) (kX6_within _ d p6 (0) (5) e30) rfl rfl (Nat.le_of_ble_eq_true rfl) (by decide) [] [0, 1] rfl rfl rfl rfl [0, 1] rfl (fun _ => rfl) (fun _ => rfl) rfl rfl rfl (fun _ => rfl) (fun _ => ?_)
              refine J_if_ne (tg := 69) hK dX6_line_59 rfl rfl (fun hc59 => ?_) (fun hc59 => ?_)
              · have hf := iq hc59 hf
                refine J_aload_n hK dX6_line_69 rfl 0 rfl rfl ?_
                refine J_get hK fo_RX6_12 dX6_line_70 rfl 0 0 rfl rfl rfl ?_
                refine J_get hK fo_RX6_123 dX6_line_73 rfl 1 0 rfl rfl rfl ?_
                refine J_bipush (v := 20) hK dX6_line_76 rfl (by decide) ?_
                refine J_icmp_lt (tg := 88) hK dX6_line_78 rfl rfl (fun hc78 => ?_) (fun hc78 => ?_)
                · have hf := ip hc78 hf
                  refine J_aload_n hK dX6_line_88 rfl 0 rfl rfl ?_
                  refine J_get hK fo_RX6_12 dX6_line_89 rfl 0 0 rfl rfl rfl ?_
                  refine J_iload_n hK dX6_line_92 rfl 1 rfl rfl ?_
                  refine J_iload_n hK dX6_line_93 rfl 2 rfl rfl ?_
                  refine J_iload_n hK dX6_line_94 rfl 3 rfl rfl ?_
                  refine J_iload hK dX6_line_95 rfl 4 rfl ?_
                  refine J_iload hK dX6_line_97 rfl 5 rfl ?_
                  refine J_iload hK dX6_line_99 rfl 6 rfl ?_
                  obtain ⟨⟨g31, g32, g33⟩, e34, hf⟩ := bs hf
                  have hf := un3 hf
                  refine J_callV (m' := 2) (ce' := 0) (sl' := 0) (gr := [gTw d h0 (h1 0) a0_kept a0_tape a0_shelves a0_choice a0_traffic x0_refused x0_isKept x0_gone x0_spent]) (gs' := fun _ => [gTw d h0 (h1 0) a0_kept a0_tape a0_shelves a0_choice a0_traffic x0_refused x0_isKept x0_gone x0_spent, gLd d h1 g31 x1_goodsCount x1_workCount x1_years g32 x1_goods x1_works x1_change x1_coin x1_knownFree g33]) (st' := fun _ => []) (st := []) hK dX6_line_101 cv_RX6_126 iv_yX1_addLine (As := [.int p1, .int p2, .int p3, .int p4, .int p5, .int p6]) (kX1_addLine _ d h1 x1_lineCount x1_goodsCount x1_workCount x1_years x1_lines x1_goods x1_works x1_change x1_coin x1_knownFree x1_isKnown p1 p2 p3 p4 p5 p6 e34) rfl rfl (Nat.le_of_ble_eq_true rfl) (by decide) 1 0 rfl rfl rfl [1] [0] rfl rfl rfl rfl [0, 1] rfl (fun _ => rfl) (fun _ => rfl) rfl rfl rfl (fun _ => rfl) (fun _ => ?_)
                  refine J_aload_n hK dX6_line_104 rfl 0 rfl rfl ?_
                  refine J_get hK fo_RX6_12 dX6_line_105 rfl 0 0 rfl rfl rfl ?_
                  refine J_get hK fo_RX6_123 dX6_line_108 rfl 1 0 rfl rfl rfl ?_
                  refine J_iconst (v := 1) hK dX6_line_111 rfl (by decide) ?_
                  refine J_isub hK dX6_line_112 rfl ?_
                  obtain rfl := Option.some.inj hf
                  exact J_iret hK hR dX6_line_113 () rfl (by decide) (by decide)
                · have hf := iq hc78 hf
                  refine J_aload_n hK dX6_line_81 rfl 0 rfl rfl ?_
                  refine J_bipush (v := (-6)) hK dX6_line_82 rfl (by decide) ?_
                  obtain ⟨⟨v35, g36⟩, e37, hf⟩ := bs hf
                  have hf := un2 hf
                  refine J_callV (m' := 2) (ce' := 0) (sl' := 0) (gr := [gLd d h1 x1_lineCount x1_goodsCount x1_workCount x1_years x1_lines x1_goods x1_works x1_change x1_coin x1_knownFree x1_isKnown]) (gs' := fun _ => [gTw d h0 (h1 0) a0_kept a0_tape a0_shelves a0_choice a0_traffic g36 x0_isKept x0_gone x0_spent, gLd d h1 x1_lineCount x1_goodsCount x1_workCount x1_years x1_lines x1_goods x1_works x1_change x1_coin x1_knownFree x1_isKnown]) (st' := fun _ => [.int v35]) (st := []) hK dX6_line_84 cv_RX6_68 iv_yX6_refuse (As := [.int (-6)]) (kX6_refuse _ d h0 (h1 0) a0_kept a0_tape a0_shelves a0_choice a0_traffic x0_refused x0_isKept x0_gone x0_spent (-6) e37) rfl rfl (Nat.le_of_ble_eq_true rfl) (by decide) 0 0 rfl rfl rfl [0] [1] rfl rfl rfl rfl [1, 0] rfl (fun _ => rfl) (fun _ => rfl) rfl rfl rfl (fun _ => rfl) (fun _ => ?_)
                  obtain rfl := Option.some.inj hf
                  exact J_iret hK hR dX6_line_87 () rfl (by decide) (by decide)
              · have hf := ip hc59 hf
                refine J_aload_n hK dX6_line_62 rfl 0 rfl rfl ?_
                refine J_bipush (v := (-2)) hK dX6_line_63 rfl (by decide) ?_
                obtain ⟨⟨v38, g39⟩, e40, hf⟩ := bs hf
                have hf := un2 hf
                refine J_callV (m' := 2) (ce' := 0) (sl' := 0) (gr := [gLd d h1 x1_lineCount x1_goodsCount x1_workCount x1_years x1_lines x1_goods x1_works x1_change x1_coin x1_knownFree x1_isKnown]) (gs' := fun _ => [gTw d h0 (h1 0) a0_kept a0_tape a0_shelves a0_choice a0_traffic g39 x0_isKept x0_gone x0_spent, gLd d h1 x1_lineCount x1_goodsCount x1_workCount x1_years x1_lines x1_goods x1_works x1_change x1_coin x1_knownFree x1_isKnown]) (st' := fun _ => [.int v38]) (st := []) hK dX6_line_65 cv_RX6_68 iv_yX6_refuse (As := [.int (-2)]) (kX6_refuse _ d h0 (h1 0) a0_kept a0_tape a0_shelves a0_choice a0_traffic x0_refused x0_isKept x0_gone x0_spent (-2) e40) rfl rfl (Nat.le_of_ble_eq_true rfl) (by decide) 0 0 rfl rfl rfl [0] [1] rfl rfl rfl rfl [1, 0] rfl (fun _ => rfl) (fun _ => rfl) rfl rfl rfl (fun _ => rfl) (fun _ => ?_)
                obtain rfl := Option.some.inj hf
                exact J_iret hK hR dX6_line_68 () rfl (by decide) (by decide)

def fX6_goods (X0 : TwT) (X1 : LdT) (p1 : Int32) (p2 : Int32) (p3 : Int32) : Option (Int32 × (Nat → Int32) × Int32 × (Nat → Int32) × Int32) :=
  u4 (fun (x0_refused : (Nat → Int32)) (x0_isKept : Int32) (x0_gone : Int32) (x0_spent : Int32) => u11 (fun (x1_lineCount : Int32) (x1_goodsCount : Int32) (x1_workCount : Int32) (x1_years : Int32) (x1_lines : (Nat → Int32)) (x1_goods : (Nat → Int32)) (x1_works : (Nat → Int32)) (x1_change : (Nat → Int32)) (x1_coin : (Nat → Int32)) (x1_knownFree : (Nat → Int32)) (x1_isKnown : Int32) => (fX6_isPlace p1).bind (fun v1 => if v1 = 0 then ((fX6_refuse (x0_refused, x0_isKept, x0_gone, x0_spent) (-2)).bind (u2 fun v3 g4 => some (v3, g4, x1_goodsCount, x1_goods, x1_isKnown))) else ((fX6_isPlace p2).bind (fun v6 => if v6 = 0 then ((fX6_refuse (x0_refused, x0_isKept, x0_gone, x0_spent) (-2)).bind (u2 fun v8 g9 => some (v8, g9, x1_goodsCount, x1_goods, x1_isKnown))) else (if p1 = p2 then ((fX6_refuse (x0_refused, x0_isKept, x0_gone, x0_spent) (-2)).bind (u2 fun v11 g12 => some (v11, g12, x1_goodsCount, x1_goods, x1_isKnown))) else ((fX6_within p3 (1) (99)).bind (fun v14 => if v14 = 0 then ((fX6_refuse (x0_refused, x0_isKept, x0_gone, x0_spent) (-2)).bind (u2 fun v23 g24 => some (v23, g24, x1_goodsCount, x1_goods, x1_isKnown))) else (if x1_goodsCount < 8 then ((fX1_addGoods (x1_lineCount, x1_goodsCount, x1_workCount, x1_years, x1_lines, x1_goods, x1_works, x1_change, x1_coin, x1_knownFree, x1_isKnown) p1 p2 p3).bind (u3 fun g16 g17 g18 => some ((g16 - 1), x0_refused, g16, g17, g18))) else ((fX6_refuse (x0_refused, x0_isKept, x0_gone, x0_spent) (-6)).bind (u2 fun v20 g21 => some (v20, g21, x1_goodsCount, x1_goods, x1_isKnown))))))))))) X1) X0
set_option maxHeartbeats 4000000 in
set_option maxRecDepth 100000 in
theorem kX6_goods (l : Launch) (d : DT) (h0 : Nat → Nat) (a0_kept : Nat) (a0_tape : Nat) (a0_shelves : Nat) (a0_choice : Nat) (a0_traffic : Nat) (h1 : Nat → Nat) (x0_refused : (Nat → Int32)) (x0_isKept : Int32) (x0_gone : Int32) (x0_spent : Int32) (x1_lineCount : Int32) (x1_goodsCount : Int32) (x1_workCount : Int32) (x1_years : Int32) (x1_lines : (Nat → Int32)) (x1_goods : (Nat → Int32)) (x1_works : (Nat → Int32)) (x1_change : (Nat → Int32)) (x1_coin : (Nat → Int32)) (x1_knownFree : (Nat → Int32)) (x1_isKnown : Int32) (p1 : Int32) (p2 : Int32) (p3 : Int32)  {out : Int32 × (Nat → Int32) × Int32 × (Nat → Int32) × Int32} (hf : fX6_goods (x0_refused, x0_isKept, x0_gone, x0_spent) (x1_lineCount, x1_goodsCount, x1_workCount, x1_years, x1_lines, x1_goods, x1_works, x1_change, x1_coin, x1_knownFree, x1_isKnown) p1 p2 p3 = some out) : Ct l d yX6_goods cX6_goods 4 (some .int) { frames := 2, cells := 0, slots := 0, locals := 43 } [.ref (h0 0), .int p1, .int p2, .int p3] [gTw d h0 (h1 0) a0_kept a0_tape a0_shelves a0_choice a0_traffic x0_refused x0_isKept x0_gone x0_spent, gLd d h1 x1_lineCount x1_goodsCount x1_workCount x1_years x1_lines x1_goods x1_works x1_change x1_coin x1_knownFree x1_isKnown] (fun _ : Unit => (some (.int out.1), [gTw d h0 (h1 0) a0_kept a0_tape a0_shelves a0_choice a0_traffic (out.2.1) x0_isKept x0_gone x0_spent, gLd d h1 x1_lineCount (out.2.2.1) x1_workCount x1_years x1_lines (out.2.2.2.1) x1_works x1_change x1_coin x1_knownFree (out.2.2.2.2)])) := by
  refine Ct.of (by decide) (Nat.le_of_ble_eq_true rfl) ?_
  intro Φ hl hK hR
  subst hl
  have hK : Ok d Φ RX6 "goods" cX6_goods 4 (some .int) { frames := 2, cells := 0, slots := 0, locals := 43 } := hK
  unfold fX6_goods at hf
  have hf := un4 hf
  have hf := un11 hf
  show J d Φ 4 [gTw d h0 (h1 0) a0_kept a0_tape a0_shelves a0_choice a0_traffic x0_refused x0_isKept x0_gone x0_spent, gLd d h1 x1_lineCount x1_goodsCount x1_workCount x1_years x1_lines x1_goods x1_works x1_change x1_coin x1_knownFree x1_isKnown] 0 0 0 [(0, .ref (h0 0)), (1, .int p1), (2, .int p2), (3, .int p3)] []
  refine J_iload_n hK dX6_goods_0 rfl 1 rfl rfl ?_
  obtain ⟨v1, e2, hf⟩ := bs hf
  refine J_callS (m' := 2) (ce' := 0) (sl' := 0) (gr := [gTw d h0 (h1 0) a0_kept a0_tape a0_shelves a0_choice a0_traffic x0_refused x0_isKept x0_gone x0_spent, gLd d h1 x1_lineCount x1_goodsCount x1_workCount x1_years x1_lines x1_goods x1_works x1_change x1_coin x1_knownFree x1_isKnown]) (gs' := fun _ => [gTw d h0 (h1 0) a0_kept a0_tape a0_shelves a0_choice a0_traffic x0_refused x0_isKept x0_gone x0_spent, gLd d h1 x1_lineCount x1_goodsCount x1_workCount x1_years x1_lines x1_goods x1_works x1_change x1_coin x1_knownFree x1_isKnown]) (st' := fun _ => [.int v1]) (st := []) hK dX6_goods_1 cv_RX6_120 ws_yX6_isPlace (As := [.int p1]) (kX6_isPlace _ d p1 e2) rfl rfl (Nat.le_of_ble_eq_true rfl) (by decide) [] [0, 1] rfl rfl rfl rfl [0, 1] rfl (fun _ => rfl) (fun _ => rfl) rfl rfl rfl (fun _ => rfl) (fun _ => ?_)
  refine J_if_eq (tg := 29) hK dX6_goods_4 rfl rfl (fun hc4 => ?_) (fun hc4 => ?_)
  · have hf := ip hc4 hf
    refine J_aload_n hK dX6_goods_29 rfl 0 rfl rfl ?_
    refine J_bipush (v := (-2)) hK dX6_goods_30 rfl (by decide) ?_
    obtain ⟨⟨v3, g4⟩, e5, hf⟩ := bs hf
    have hf := un2 hf
    refine J_callV (m' := 2) (ce' := 0) (sl' := 0) (gr := [gLd d h1 x1_lineCount x1_goodsCount x1_workCount x1_years x1_lines x1_goods x1_works x1_change x1_coin x1_knownFree x1_isKnown]) (gs' := fun _ => [gTw d h0 (h1 0) a0_kept a0_tape a0_shelves a0_choice a0_traffic g4 x0_isKept x0_gone x0_spent, gLd d h1 x1_lineCount x1_goodsCount x1_workCount x1_years x1_lines x1_goods x1_works x1_change x1_coin x1_knownFree x1_isKnown]) (st' := fun _ => [.int v3]) (st := []) hK dX6_goods_32 cv_RX6_68 iv_yX6_refuse (As := [.int (-2)]) (kX6_refuse _ d h0 (h1 0) a0_kept a0_tape a0_shelves a0_choice a0_traffic x0_refused x0_isKept x0_gone x0_spent (-2) e5) rfl rfl (Nat.le_of_ble_eq_true rfl) (by decide) 0 0 rfl rfl rfl [0] [1] rfl rfl rfl rfl [1, 0] rfl (fun _ => rfl) (fun _ => rfl) rfl rfl rfl (fun _ => rfl) (fun _ => ?_)
    obtain rfl := Option.some.inj hf
    exact J_iret hK hR dX6_goods_35 () rfl (by decide) (by decide)
  · have hf := iq hc4 hf
    refine J_iload_n hK dX6_goods_7 rfl 2 rfl rfl ?_
    obtain ⟨v6, e7, hf⟩ := bs hf
    refine J_callS (m' := 2) (ce' := 0) (sl' := 0) (gr := [gTw d h0 (h1 0) a0_kept a0_tape a0_shelves a0_choice a0_traffic x0_refused x0_isKept x0_gone x0_spent, gLd d h1 x1_lineCount x1_goodsCount x1_workCount x1_years x1_lines x1_goods x1_works x1_change x1_coin x1_knownFree x1_isKnown]) (gs' := fun _ => [gTw d h0 (h1 0) a0_kept a0_tape a0_shelves a0_choice a0_traffic x0_refused x0_isKept x0_gone x0_spent, gLd d h1 x1_lineCount x1_goodsCount x1_workCount x1_years x1_lines x1_goods x1_works x1_change x1_coin x1_knownFree x1_isKnown]) (st' := fun _ => [.int v6]) (st := []) hK dX6_goods_8 cv_RX6_120 ws_yX6_isPlace (As := [.int p2]) (kX6_isPlace _ d p2 e7) rfl rfl (Nat.le_of_ble_eq_true rfl) (by decide) [] [0, 1] rfl rfl rfl rfl [0, 1] rfl (fun _ => rfl) (fun _ => rfl) rfl rfl rfl (fun _ => rfl) (fun _ => ?_)
    refine J_if_eq (tg := 29) hK dX6_goods_11 rfl rfl (fun hc11 => ?_) (fun hc11 => ?_)
    · have hf := ip hc11 hf
      refine J_aload_n hK dX6_goods_29 rfl 0 rfl rfl ?_
      refine J_bipush (v := (-2)) hK dX6_goods_30 rfl (by decide) ?_
      obtain ⟨⟨v8, g9⟩, e10, hf⟩ := bs hf
      have hf := un2 hf
      refine J_callV (m' := 2) (ce' := 0) (sl' := 0) (gr := [gLd d h1 x1_lineCount x1_goodsCount x1_workCount x1_years x1_lines x1_goods x1_works x1_change x1_coin x1_knownFree x1_isKnown]) (gs' := fun _ => [gTw d h0 (h1 0) a0_kept a0_tape a0_shelves a0_choice a0_traffic g9 x0_isKept x0_gone x0_spent, gLd d h1 x1_lineCount x1_goodsCount x1_workCount x1_years x1_lines x1_goods x1_works x1_change x1_coin x1_knownFree x1_isKnown]) (st' := fun _ => [.int v8]) (st := []) hK dX6_goods_32 cv_RX6_68 iv_yX6_refuse (As := [.int (-2)]) (kX6_refuse _ d h0 (h1 0) a0_kept a0_tape a0_shelves a0_choice a0_traffic x0_refused x0_isKept x0_gone x0_spent (-2) e10) rfl rfl (Nat.le_of_ble_eq_true rfl) (by decide) 0 0 rfl rfl rfl [0] [1] rfl rfl rfl rfl [1, 0] rfl (fun _ => rfl) (fun _ => rfl) rfl rfl rfl (fun _ => rfl) (fun _ => ?_)
      obtain rfl := Option.some.inj hf
      exact J_iret hK hR dX6_goods_35 () rfl (by decide) (by decide)
    · have hf := iq hc11 hf
      refine J_iload_n hK dX6_goods_14 rfl 1 rfl rfl ?_
      refine J_iload_n hK dX6_goods_15 rfl 2 rfl rfl ?_
      refine J_icmp_eq (tg := 29) hK dX6_goods_16 rfl rfl (fun hc16 => ?_) (fun hc16 => ?_)
      · have hf := ip hc16 hf
        refine J_aload_n hK dX6_goods_29 rfl 0 rfl rfl ?_
        refine J_bipush (v := (-2)) hK dX6_goods_30 rfl (by decide) ?_
        obtain ⟨⟨v11, g12⟩, e13, hf⟩ := bs hf
        have hf := un2 hf
        refine J_callV (m' := 2) (ce' := 0) (sl' := 0) (gr := [gLd d h1 x1_lineCount x1_goodsCount x1_workCount x1_years x1_lines x1_goods x1_works x1_change x1_coin x1_knownFree x1_isKnown]) (gs' := fun _ => [gTw d h0 (h1 0) a0_kept a0_tape a0_shelves a0_choice a0_traffic g12 x0_isKept x0_gone x0_spent, gLd d h1 x1_lineCount x1_goodsCount x1_workCount x1_years x1_lines x1_goods x1_works x1_change x1_coin x1_knownFree x1_isKnown]) (st' := fun _ => [.int v11]) (st := []) hK dX6_goods_32 cv_RX6_68 iv_yX6_refuse (As := [.int (-2)]) (kX6_refuse _ d h0 (h1 0) a0_kept a0_tape a0_shelves a0_choice a0_traffic x0_refused x0_isKept x0_gone x0_spent (-2) e13) rfl rfl (Nat.le_of_ble_eq_true rfl) (by decide) 0 0 rfl rfl rfl [0] [1] rfl rfl rfl rfl [1, 0] rfl (fun _ => rfl) (fun _ => rfl) rfl rfl rfl (fun _ => rfl) (fun _ => ?_)
        obtain rfl := Option.some.inj hf
        exact J_iret hK hR dX6_goods_35 () rfl (by decide) (by decide)
      · have hf := iq hc16 hf
        refine J_iload_n hK dX6_goods_19 rfl 3 rfl rfl ?_
        refine J_iconst (v := 1) hK dX6_goods_20 rfl (by decide) ?_
        refine J_bipush (v := 99) hK dX6_goods_21 rfl (by decide) ?_
        obtain ⟨v14, e15, hf⟩ := bs hf
        refine J_callS (m' := 2) (ce' := 0) (sl' := 0) (gr := [gTw d h0 (h1 0) a0_kept a0_tape a0_shelves a0_choice a0_traffic x0_refused x0_isKept x0_gone x0_spent, gLd d h1 x1_lineCount x1_goodsCount x1_workCount x1_years x1_lines x1_goods x1_works x1_change x1_coin x1_knownFree x1_isKnown]) (gs' := fun _ => [gTw d h0 (h1 0) a0_kept a0_tape a0_shelves a0_choice a0_traffic x0_refused x0_isKept x0_gone x0_spent, gLd d h1 x1_lineCount x1_goodsCount x1_workCount x1_years x1_lines x1_goods x1_works x1_change x1_coin x1_knownFree x1_isKnown]) (st' := fun _ => [.int v14]) (st := []) hK dX6_goods_23 cv_RX6_64 ws_yX6_within (As := [.int p3, .int (1), .int (99)]) (kX6_within _ d p3 (1) (99) e15) rfl rfl (Nat.le_of_ble_eq_true rfl) (by decide) [] [0, 1] rfl rfl rfl rfl [0, 1] rfl (fun _ => rfl) (fun _ => rfl) rfl rfl rfl (fun _ => rfl) (fun _ => ?_)
        refine J_if_ne (tg := 36) hK dX6_goods_26 rfl rfl (fun hc26 => ?_) (fun hc26 => ?_)
        · have hf := iq hc26 hf
          refine J_aload_n hK dX6_goods_36 rfl 0 rfl rfl ?_
          refine J_get hK fo_RX6_12 dX6_goods_37 rfl 0 0 rfl rfl rfl ?_
          refine J_get hK fo_RX6_130 dX6_goods_40 rfl 1 0 rfl rfl rfl ?_
          refine J_bipush (v := 8) hK dX6_goods_43 rfl (by decide) ?_
          refine J_icmp_lt (tg := 55) hK dX6_goods_45 rfl rfl (fun hc45 => ?_) (fun hc45 => ?_)
          · have hf := ip hc45 hf
            refine J_aload_n hK dX6_goods_55 rfl 0 rfl rfl ?_
            refine J_get hK fo_RX6_12 dX6_goods_56 rfl 0 0 rfl rfl rfl ?_
            refine J_iload_n hK dX6_goods_59 rfl 1 rfl rfl ?_
            refine J_iload_n hK dX6_goods_60 rfl 2 rfl rfl ?_
            refine J_iload_n hK dX6_goods_61 rfl 3 rfl rfl ?_
            obtain ⟨⟨g16, g17, g18⟩, e19, hf⟩ := bs hf
            have hf := un3 hf
            refine J_callV (m' := 2) (ce' := 0) (sl' := 0) (gr := [gTw d h0 (h1 0) a0_kept a0_tape a0_shelves a0_choice a0_traffic x0_refused x0_isKept x0_gone x0_spent]) (gs' := fun _ => [gTw d h0 (h1 0) a0_kept a0_tape a0_shelves a0_choice a0_traffic x0_refused x0_isKept x0_gone x0_spent, gLd d h1 x1_lineCount g16 x1_workCount x1_years x1_lines g17 x1_works x1_change x1_coin x1_knownFree g18]) (st' := fun _ => []) (st := []) hK dX6_goods_62 cv_RX6_133 iv_yX1_addGoods (As := [.int p1, .int p2, .int p3]) (kX1_addGoods _ d h1 x1_lineCount x1_goodsCount x1_workCount x1_years x1_lines x1_goods x1_works x1_change x1_coin x1_knownFree x1_isKnown p1 p2 p3 e19) rfl rfl (Nat.le_of_ble_eq_true rfl) (by decide) 1 0 rfl rfl rfl [1] [0] rfl rfl rfl rfl [0, 1] rfl (fun _ => rfl) (fun _ => rfl) rfl rfl rfl (fun _ => rfl) (fun _ => ?_)
            refine J_aload_n hK dX6_goods_65 rfl 0 rfl rfl ?_
            refine J_get hK fo_RX6_12 dX6_goods_66 rfl 0 0 rfl rfl rfl ?_
            refine J_get hK fo_RX6_130 dX6_goods_69 rfl 1 0 rfl rfl rfl ?_
            refine J_iconst (v := 1) hK dX6_goods_72 rfl (by decide) ?_
            refine J_isub hK dX6_goods_73 rfl ?_
            obtain rfl := Option.some.inj hf
            exact J_iret hK hR dX6_goods_74 () rfl (by decide) (by decide)
          · have hf := iq hc45 hf
            refine J_aload_n hK dX6_goods_48 rfl 0 rfl rfl ?_
            refine J_bipush (v := (-6)) hK dX6_goods_49 rfl (by decide) ?_
            obtain ⟨⟨v20, g21⟩, e22, hf⟩ := bs hf
            have hf := un2 hf
            refine J_callV (m' := 2) (ce' := 0) (sl' := 0) (gr := [gLd d h1 x1_lineCount x1_goodsCount x1_workCount x1_years x1_lines x1_goods x1_works x1_change x1_coin x1_knownFree x1_isKnown]) (gs' := fun _ => [gTw d h0 (h1 0) a0_kept a0_tape a0_shelves a0_choice a0_traffic g21 x0_isKept x0_gone x0_spent, gLd d h1 x1_lineCount x1_goodsCount x1_workCount x1_years x1_lines x1_goods x1_works x1_change x1_coin x1_knownFree x1_isKnown]) (st' := fun _ => [.int v20]) (st := []) hK dX6_goods_51 cv_RX6_68 iv_yX6_refuse (As := [.int (-6)]) (kX6_refuse _ d h0 (h1 0) a0_kept a0_tape a0_shelves a0_choice a0_traffic x0_refused x0_isKept x0_gone x0_spent (-6) e22) rfl rfl (Nat.le_of_ble_eq_true rfl) (by decide) 0 0 rfl rfl rfl [0] [1] rfl rfl rfl rfl [1, 0] rfl (fun _ => rfl) (fun _ => rfl) rfl rfl rfl (fun _ => rfl) (fun _ => ?_)
            obtain rfl := Option.some.inj hf
            exact J_iret hK hR dX6_goods_54 () rfl (by decide) (by decide)
        · have hf := ip hc26 hf
          refine J_aload_n hK dX6_goods_29 rfl 0 rfl rfl ?_
          refine J_bipush (v := (-2)) hK dX6_goods_30 rfl (by decide) ?_
          obtain ⟨⟨v23, g24⟩, e25, hf⟩ := bs hf
          have hf := un2 hf
          refine J_callV (m' := 2) (ce' := 0) (sl' := 0) (gr := [gLd d h1 x1_lineCount x1_goodsCount x1_workCount x1_years x1_lines x1_goods x1_works x1_change x1_coin x1_knownFree x1_isKnown]) (gs' := fun _ => [gTw d h0 (h1 0) a0_kept a0_tape a0_shelves a0_choice a0_traffic g24 x0_isKept x0_gone x0_spent, gLd d h1 x1_lineCount x1_goodsCount x1_workCount x1_years x1_lines x1_goods x1_works x1_change x1_coin x1_knownFree x1_isKnown]) (st' := fun _ => [.int v23]) (st := []) hK dX6_goods_32 cv_RX6_68 iv_yX6_refuse (As := [.int (-2)]) (kX6_refuse _ d h0 (h1 0) a0_kept a0_tape a0_shelves a0_choice a0_traffic x0_refused x0_isKept x0_gone x0_spent (-2) e25) rfl rfl (Nat.le_of_ble_eq_true rfl) (by decide) 0 0 rfl rfl rfl [0] [1] rfl rfl rfl rfl [1, 0] rfl (fun _ => rfl) (fun _ => rfl) rfl rfl rfl (fun _ => rfl) (fun _ => ?_)
          obtain rfl := Option.some.inj hf
          exact J_iret hK hR dX6_goods_35 () rfl (by decide) (by decide)

def fX6_work (n : Nat) (X0 : TwT) (X1 : LdT) (p1 : Int32) (p2 : Int32) (p3 : Int32) (p4 : Int32) : Option (Int32 × (Nat → Int32) × Int32 × (Nat → Int32) × Int32) :=
  u4 (fun (x0_refused : (Nat → Int32)) (x0_isKept : Int32) (x0_gone : Int32) (x0_spent : Int32) => u11 (fun (x1_lineCount : Int32) (x1_goodsCount : Int32) (x1_workCount : Int32) (x1_years : Int32) (x1_lines : (Nat → Int32)) (x1_goods : (Nat → Int32)) (x1_works : (Nat → Int32)) (x1_change : (Nat → Int32)) (x1_coin : (Nat → Int32)) (x1_knownFree : (Nat → Int32)) (x1_isKnown : Int32) => (fX1_allowsWork n (x1_lineCount, x1_goodsCount, x1_workCount, x1_years, x1_lines, x1_goods, x1_works, x1_change, x1_coin, x1_knownFree, x1_isKnown) p1 p2 p3).bind (fun v1 => if v1 = 0 then ((fX6_refuse (x0_refused, x0_isKept, x0_gone, x0_spent) (-2)).bind (u2 fun v3 g4 => some (v3, g4, x1_workCount, x1_works, x1_isKnown))) else ((fX6_within p4 (0) (9999)).bind (fun v6 => if v6 = 0 then ((fX6_refuse (x0_refused, x0_isKept, x0_gone, x0_spent) (-2)).bind (u2 fun v15 g16 => some (v15, g16, x1_workCount, x1_works, x1_isKnown))) else (if x1_workCount < 7 then ((fX1_addWork (x1_lineCount, x1_goodsCount, x1_workCount, x1_years, x1_lines, x1_goods, x1_works, x1_change, x1_coin, x1_knownFree, x1_isKnown) p1 p2 p3 p4).bind (u3 fun g8 g9 g10 => some ((g8 - 1), x0_refused, g8, g9, g10))) else ((fX6_refuse (x0_refused, x0_isKept, x0_gone, x0_spent) (-6)).bind (u2 fun v12 g13 => some (v12, g13, x1_workCount, x1_works, x1_isKnown)))))))) X1) X0
set_option maxHeartbeats 4000000 in
set_option maxRecDepth 100000 in
theorem kX6_work (l : Launch) (d : DT) (h0 : Nat → Nat) (a0_kept : Nat) (a0_tape : Nat) (a0_shelves : Nat) (a0_choice : Nat) (a0_traffic : Nat) (h1 : Nat → Nat) (n : Nat) (x0_refused : (Nat → Int32)) (x0_isKept : Int32) (x0_gone : Int32) (x0_spent : Int32) (x1_lineCount : Int32) (x1_goodsCount : Int32) (x1_workCount : Int32) (x1_years : Int32) (x1_lines : (Nat → Int32)) (x1_goods : (Nat → Int32)) (x1_works : (Nat → Int32)) (x1_change : (Nat → Int32)) (x1_coin : (Nat → Int32)) (x1_knownFree : (Nat → Int32)) (x1_isKnown : Int32) (p1 : Int32) (p2 : Int32) (p3 : Int32) (p4 : Int32)  {out : Int32 × (Nat → Int32) × Int32 × (Nat → Int32) × Int32} (hf : fX6_work n (x0_refused, x0_isKept, x0_gone, x0_spent) (x1_lineCount, x1_goodsCount, x1_workCount, x1_years, x1_lines, x1_goods, x1_works, x1_change, x1_coin, x1_knownFree, x1_isKnown) p1 p2 p3 p4 = some out) : Ct l d yX6_work cX6_work 5 (some .int) { frames := 3, cells := 0, slots := 0, locals := 68 } [.ref (h0 0), .int p1, .int p2, .int p3, .int p4] [gTw d h0 (h1 0) a0_kept a0_tape a0_shelves a0_choice a0_traffic x0_refused x0_isKept x0_gone x0_spent, gLd d h1 x1_lineCount x1_goodsCount x1_workCount x1_years x1_lines x1_goods x1_works x1_change x1_coin x1_knownFree x1_isKnown] (fun _ : Unit => (some (.int out.1), [gTw d h0 (h1 0) a0_kept a0_tape a0_shelves a0_choice a0_traffic (out.2.1) x0_isKept x0_gone x0_spent, gLd d h1 x1_lineCount x1_goodsCount (out.2.2.1) x1_years x1_lines x1_goods (out.2.2.2.1) x1_change x1_coin x1_knownFree (out.2.2.2.2)])) := by
  refine Ct.of (by decide) (Nat.le_of_ble_eq_true rfl) ?_
  intro Φ hl hK hR
  subst hl
  have hK : Ok d Φ RX6 "work" cX6_work 5 (some .int) { frames := 3, cells := 0, slots := 0, locals := 68 } := hK
  unfold fX6_work at hf
  have hf := un4 hf
  have hf := un11 hf
  show J d Φ 5 [gTw d h0 (h1 0) a0_kept a0_tape a0_shelves a0_choice a0_traffic x0_refused x0_isKept x0_gone x0_spent, gLd d h1 x1_lineCount x1_goodsCount x1_workCount x1_years x1_lines x1_goods x1_works x1_change x1_coin x1_knownFree x1_isKnown] 0 0 0 [(0, .ref (h0 0)), (1, .int p1), (2, .int p2), (3, .int p3), (4, .int p4)] []
  refine J_aload_n hK dX6_work_0 rfl 0 rfl rfl ?_
  refine J_get hK fo_RX6_12 dX6_work_1 rfl 0 0 rfl rfl rfl ?_
  refine J_iload_n hK dX6_work_4 rfl 1 rfl rfl ?_
  refine J_iload_n hK dX6_work_5 rfl 2 rfl rfl ?_
  refine J_iload_n hK dX6_work_6 rfl 3 rfl rfl ?_
  obtain ⟨v1, e2, hf⟩ := bs hf
  refine J_callV (m' := 2) (ce' := 0) (sl' := 0) (gr := [gTw d h0 (h1 0) a0_kept a0_tape a0_shelves a0_choice a0_traffic x0_refused x0_isKept x0_gone x0_spent]) (gs' := fun _ => [gTw d h0 (h1 0) a0_kept a0_tape a0_shelves a0_choice a0_traffic x0_refused x0_isKept x0_gone x0_spent, gLd d h1 x1_lineCount x1_goodsCount x1_workCount x1_years x1_lines x1_goods x1_works x1_change x1_coin x1_knownFree x1_isKnown]) (st' := fun _ => [.int v1]) (st := []) hK dX6_work_7 cv_RX6_136 iv_yX1_allowsWork (As := [.int p1, .int p2, .int p3]) (kX1_allowsWork _ d h1 n x1_lineCount x1_goodsCount x1_workCount x1_years x1_lines x1_goods x1_works x1_change x1_coin x1_knownFree x1_isKnown p1 p2 p3 e2) rfl rfl (Nat.le_of_ble_eq_true rfl) (by decide) 1 0 rfl rfl rfl [1] [0] rfl rfl rfl rfl [0, 1] rfl (fun _ => rfl) (fun _ => rfl) rfl rfl rfl (fun _ => rfl) (fun _ => ?_)
  refine J_if_eq (tg := 25) hK dX6_work_10 rfl rfl (fun hc10 => ?_) (fun hc10 => ?_)
  · have hf := ip hc10 hf
    refine J_aload_n hK dX6_work_25 rfl 0 rfl rfl ?_
    refine J_bipush (v := (-2)) hK dX6_work_26 rfl (by decide) ?_
    obtain ⟨⟨v3, g4⟩, e5, hf⟩ := bs hf
    have hf := un2 hf
    refine J_callV (m' := 2) (ce' := 0) (sl' := 0) (gr := [gLd d h1 x1_lineCount x1_goodsCount x1_workCount x1_years x1_lines x1_goods x1_works x1_change x1_coin x1_knownFree x1_isKnown]) (gs' := fun _ => [gTw d h0 (h1 0) a0_kept a0_tape a0_shelves a0_choice a0_traffic g4 x0_isKept x0_gone x0_spent, gLd d h1 x1_lineCount x1_goodsCount x1_workCount x1_years x1_lines x1_goods x1_works x1_change x1_coin x1_knownFree x1_isKnown]) (st' := fun _ => [.int v3]) (st := []) hK dX6_work_28 cv_RX6_68 iv_yX6_refuse (As := [.int (-2)]) (kX6_refuse _ d h0 (h1 0) a0_kept a0_tape a0_shelves a0_choice a0_traffic x0_refused x0_isKept x0_gone x0_spent (-2) e5) rfl rfl (Nat.le_of_ble_eq_true rfl) (by decide) 0 0 rfl rfl rfl [0] [1] rfl rfl rfl rfl [1, 0] rfl (fun _ => rfl) (fun _ => rfl) rfl rfl rfl (fun _ => rfl) (fun _ => ?_)
    obtain rfl := Option.some.inj hf
    exact J_iret hK hR dX6_work_31 () rfl (by decide) (by decide)
  · have hf := iq hc10 hf
    refine J_iload hK dX6_work_13 rfl 4 rfl ?_
    refine J_iconst (v := 0) hK dX6_work_15 rfl (by decide) ?_
    refine J_sipush (v := 9999) hK dX6_work_16 rfl (by decide) ?_
    obtain ⟨v6, e7, hf⟩ := bs hf
    refine J_callS (m' := 2) (ce' := 0) (sl' := 0) (gr := [gTw d h0 (h1 0) a0_kept a0_tape a0_shelves a0_choice a0_traffic x0_refused x0_isKept x0_gone x0_spent, gLd d h1 x1_lineCount x1_goodsCount x1_workCount x1_years x1_lines x1_goods x1_works x1_change x1_coin x1_knownFree x1_isKnown]) (gs' := fun _ => [gTw d h0 (h1 0) a0_kept a0_tape a0_shelves a0_choice a0_traffic x0_refused x0_isKept x0_gone x0_spent, gLd d h1 x1_lineCount x1_goodsCount x1_workCount x1_years x1_lines x1_goods x1_works x1_change x1_coin x1_knownFree x1_isKnown]) (st' := fun _ => [.int v6]) (st := []) hK dX6_work_19 cv_RX6_64 ws_yX6_within (As := [.int p4, .int (0), .int (9999)]) (kX6_within _ d p4 (0) (9999) e7) rfl rfl (Nat.le_of_ble_eq_true rfl) (by decide) [] [0, 1] rfl rfl rfl rfl [0, 1] rfl (fun _ => rfl) (fun _ => rfl) rfl rfl rfl (fun _ => rfl) (fun _ => ?_)
    refine J_if_ne (tg := 32) hK dX6_work_22 rfl rfl (fun hc22 => ?_) (fun hc22 => ?_)
    · have hf := iq hc22 hf
      refine J_aload_n hK dX6_work_32 rfl 0 rfl rfl ?_
      refine J_get hK fo_RX6_12 dX6_work_33 rfl 0 0 rfl rfl rfl ?_
      refine J_get hK fo_RX6_139 dX6_work_36 rfl 1 0 rfl rfl rfl ?_
      refine J_bipush (v := 7) hK dX6_work_39 rfl (by decide) ?_
      refine J_icmp_lt (tg := 51) hK dX6_work_41 rfl rfl (fun hc41 => ?_) (fun hc41 => ?_)
      · have hf := ip hc41 hf
        refine J_aload_n hK dX6_work_51 rfl 0 rfl rfl ?_
        refine J_get hK fo_RX6_12 dX6_work_52 rfl 0 0 rfl rfl rfl ?_
        refine J_iload_n hK dX6_work_55 rfl 1 rfl rfl ?_
        refine J_iload_n hK dX6_work_56 rfl 2 rfl rfl ?_
        refine J_iload_n hK dX6_work_57 rfl 3 rfl rfl ?_
        refine J_iload hK dX6_work_58 rfl 4 rfl ?_
        obtain ⟨⟨g8, g9, g10⟩, e11, hf⟩ := bs hf
        have hf := un3 hf
        refine J_callV (m' := 2) (ce' := 0) (sl' := 0) (gr := [gTw d h0 (h1 0) a0_kept a0_tape a0_shelves a0_choice a0_traffic x0_refused x0_isKept x0_gone x0_spent]) (gs' := fun _ => [gTw d h0 (h1 0) a0_kept a0_tape a0_shelves a0_choice a0_traffic x0_refused x0_isKept x0_gone x0_spent, gLd d h1 x1_lineCount x1_goodsCount g8 x1_years x1_lines x1_goods g9 x1_change x1_coin x1_knownFree g10]) (st' := fun _ => []) (st := []) hK dX6_work_60 cv_RX6_142 iv_yX1_addWork (As := [.int p1, .int p2, .int p3, .int p4]) (kX1_addWork _ d h1 x1_lineCount x1_goodsCount x1_workCount x1_years x1_lines x1_goods x1_works x1_change x1_coin x1_knownFree x1_isKnown p1 p2 p3 p4 e11) rfl rfl (Nat.le_of_ble_eq_true rfl) (by decide) 1 0 rfl rfl rfl [1] [0] rfl rfl rfl rfl [0, 1] rfl (fun _ => rfl) (fun _ => rfl) rfl rfl rfl (fun _ => rfl) (fun _ => ?_)
        refine J_aload_n hK dX6_work_63 rfl 0 rfl rfl ?_
        refine J_get hK fo_RX6_12 dX6_work_64 rfl 0 0 rfl rfl rfl ?_
        refine J_get hK fo_RX6_139 dX6_work_67 rfl 1 0 rfl rfl rfl ?_
        refine J_iconst (v := 1) hK dX6_work_70 rfl (by decide) ?_
        refine J_isub hK dX6_work_71 rfl ?_
        obtain rfl := Option.some.inj hf
        exact J_iret hK hR dX6_work_72 () rfl (by decide) (by decide)
      · have hf := iq hc41 hf
        refine J_aload_n hK dX6_work_44 rfl 0 rfl rfl ?_
        refine J_bipush (v := (-6)) hK dX6_work_45 rfl (by decide) ?_
        obtain ⟨⟨v12, g13⟩, e14, hf⟩ := bs hf
        have hf := un2 hf
        refine J_callV (m' := 2) (ce' := 0) (sl' := 0) (gr := [gLd d h1 x1_lineCount x1_goodsCount x1_workCount x1_years x1_lines x1_goods x1_works x1_change x1_coin x1_knownFree x1_isKnown]) (gs' := fun _ => [gTw d h0 (h1 0) a0_kept a0_tape a0_shelves a0_choice a0_traffic g13 x0_isKept x0_gone x0_spent, gLd d h1 x1_lineCount x1_goodsCount x1_workCount x1_years x1_lines x1_goods x1_works x1_change x1_coin x1_knownFree x1_isKnown]) (st' := fun _ => [.int v12]) (st := []) hK dX6_work_47 cv_RX6_68 iv_yX6_refuse (As := [.int (-6)]) (kX6_refuse _ d h0 (h1 0) a0_kept a0_tape a0_shelves a0_choice a0_traffic x0_refused x0_isKept x0_gone x0_spent (-6) e14) rfl rfl (Nat.le_of_ble_eq_true rfl) (by decide) 0 0 rfl rfl rfl [0] [1] rfl rfl rfl rfl [1, 0] rfl (fun _ => rfl) (fun _ => rfl) rfl rfl rfl (fun _ => rfl) (fun _ => ?_)
        obtain rfl := Option.some.inj hf
        exact J_iret hK hR dX6_work_50 () rfl (by decide) (by decide)
    · have hf := ip hc22 hf
      refine J_aload_n hK dX6_work_25 rfl 0 rfl rfl ?_
      refine J_bipush (v := (-2)) hK dX6_work_26 rfl (by decide) ?_
      obtain ⟨⟨v15, g16⟩, e17, hf⟩ := bs hf
      have hf := un2 hf
      refine J_callV (m' := 2) (ce' := 0) (sl' := 0) (gr := [gLd d h1 x1_lineCount x1_goodsCount x1_workCount x1_years x1_lines x1_goods x1_works x1_change x1_coin x1_knownFree x1_isKnown]) (gs' := fun _ => [gTw d h0 (h1 0) a0_kept a0_tape a0_shelves a0_choice a0_traffic g16 x0_isKept x0_gone x0_spent, gLd d h1 x1_lineCount x1_goodsCount x1_workCount x1_years x1_lines x1_goods x1_works x1_change x1_coin x1_knownFree x1_isKnown]) (st' := fun _ => [.int v15]) (st := []) hK dX6_work_28 cv_RX6_68 iv_yX6_refuse (As := [.int (-2)]) (kX6_refuse _ d h0 (h1 0) a0_kept a0_tape a0_shelves a0_choice a0_traffic x0_refused x0_isKept x0_gone x0_spent (-2) e17) rfl rfl (Nat.le_of_ble_eq_true rfl) (by decide) 0 0 rfl rfl rfl [0] [1] rfl rfl rfl rfl [1, 0] rfl (fun _ => rfl) (fun _ => rfl) rfl rfl rfl (fun _ => rfl) (fun _ => ?_)
      obtain rfl := Option.some.inj hf
      exact J_iret hK hR dX6_work_31 () rfl (by decide) (by decide)

def fX6_change (X0 : TwT) (X1 : LdT) (p1 : Int32) (p2 : Int32) : Option (Int32 × (Nat → Int32) × (Nat → Int32) × Int32) :=
  u4 (fun (x0_refused : (Nat → Int32)) (x0_isKept : Int32) (x0_gone : Int32) (x0_spent : Int32) => u11 (fun (x1_lineCount : Int32) (x1_goodsCount : Int32) (x1_workCount : Int32) (x1_years : Int32) (x1_lines : (Nat → Int32)) (x1_goods : (Nat → Int32)) (x1_works : (Nat → Int32)) (x1_change : (Nat → Int32)) (x1_coin : (Nat → Int32)) (x1_knownFree : (Nat → Int32)) (x1_isKnown : Int32) => (fX6_isPlace p1).bind (fun v1 => if v1 = 0 then ((fX6_refuse (x0_refused, x0_isKept, x0_gone, x0_spent) (-2)).bind (u2 fun v3 g4 => some (v3, g4, x1_change, x1_isKnown))) else ((fX6_within p2 (0) (99)).bind (fun v6 => if v6 = 0 then ((fX6_refuse (x0_refused, x0_isKept, x0_gone, x0_spent) (-2)).bind (u2 fun v12 g13 => some (v12, g13, x1_change, x1_isKnown))) else ((rd 12 x1_change p1).bind fun v8 => (fX1_putChange (x1_lineCount, x1_goodsCount, x1_workCount, x1_years, x1_lines, x1_goods, x1_works, x1_change, x1_coin, x1_knownFree, x1_isKnown) p1 p2).bind (u2 fun g9 g10 => some (v8, x0_refused, g9, g10))))))) X1) X0
set_option maxHeartbeats 4000000 in
set_option maxRecDepth 100000 in
theorem kX6_change (l : Launch) (d : DT) (h0 : Nat → Nat) (a0_kept : Nat) (a0_tape : Nat) (a0_shelves : Nat) (a0_choice : Nat) (a0_traffic : Nat) (h1 : Nat → Nat) (x0_refused : (Nat → Int32)) (x0_isKept : Int32) (x0_gone : Int32) (x0_spent : Int32) (x1_lineCount : Int32) (x1_goodsCount : Int32) (x1_workCount : Int32) (x1_years : Int32) (x1_lines : (Nat → Int32)) (x1_goods : (Nat → Int32)) (x1_works : (Nat → Int32)) (x1_change : (Nat → Int32)) (x1_coin : (Nat → Int32)) (x1_knownFree : (Nat → Int32)) (x1_isKnown : Int32) (p1 : Int32) (p2 : Int32)  {out : Int32 × (Nat → Int32) × (Nat → Int32) × Int32} (hf : fX6_change (x0_refused, x0_isKept, x0_gone, x0_spent) (x1_lineCount, x1_goodsCount, x1_workCount, x1_years, x1_lines, x1_goods, x1_works, x1_change, x1_coin, x1_knownFree, x1_isKnown) p1 p2 = some out) : Ct l d yX6_change cX6_change 4 (some .int) { frames := 2, cells := 0, slots := 0, locals := 43 } [.ref (h0 0), .int p1, .int p2] [gTw d h0 (h1 0) a0_kept a0_tape a0_shelves a0_choice a0_traffic x0_refused x0_isKept x0_gone x0_spent, gLd d h1 x1_lineCount x1_goodsCount x1_workCount x1_years x1_lines x1_goods x1_works x1_change x1_coin x1_knownFree x1_isKnown] (fun _ : Unit => (some (.int out.1), [gTw d h0 (h1 0) a0_kept a0_tape a0_shelves a0_choice a0_traffic (out.2.1) x0_isKept x0_gone x0_spent, gLd d h1 x1_lineCount x1_goodsCount x1_workCount x1_years x1_lines x1_goods x1_works (out.2.2.1) x1_coin x1_knownFree (out.2.2.2)])) := by
  refine Ct.of (by decide) (Nat.le_of_ble_eq_true rfl) ?_
  intro Φ hl hK hR
  subst hl
  have hK : Ok d Φ RX6 "change" cX6_change 4 (some .int) { frames := 2, cells := 0, slots := 0, locals := 43 } := hK
  unfold fX6_change at hf
  have hf := un4 hf
  have hf := un11 hf
  show J d Φ 4 [gTw d h0 (h1 0) a0_kept a0_tape a0_shelves a0_choice a0_traffic x0_refused x0_isKept x0_gone x0_spent, gLd d h1 x1_lineCount x1_goodsCount x1_workCount x1_years x1_lines x1_goods x1_works x1_change x1_coin x1_knownFree x1_isKnown] 0 0 0 [(0, .ref (h0 0)), (1, .int p1), (2, .int p2)] []
  refine J_iload_n hK dX6_change_0 rfl 1 rfl rfl ?_
  obtain ⟨v1, e2, hf⟩ := bs hf
  refine J_callS (m' := 2) (ce' := 0) (sl' := 0) (gr := [gTw d h0 (h1 0) a0_kept a0_tape a0_shelves a0_choice a0_traffic x0_refused x0_isKept x0_gone x0_spent, gLd d h1 x1_lineCount x1_goodsCount x1_workCount x1_years x1_lines x1_goods x1_works x1_change x1_coin x1_knownFree x1_isKnown]) (gs' := fun _ => [gTw d h0 (h1 0) a0_kept a0_tape a0_shelves a0_choice a0_traffic x0_refused x0_isKept x0_gone x0_spent, gLd d h1 x1_lineCount x1_goodsCount x1_workCount x1_years x1_lines x1_goods x1_works x1_change x1_coin x1_knownFree x1_isKnown]) (st' := fun _ => [.int v1]) (st := []) hK dX6_change_1 cv_RX6_120 ws_yX6_isPlace (As := [.int p1]) (kX6_isPlace _ d p1 e2) rfl rfl (Nat.le_of_ble_eq_true rfl) (by decide) [] [0, 1] rfl rfl rfl rfl [0, 1] rfl (fun _ => rfl) (fun _ => rfl) rfl rfl rfl (fun _ => rfl) (fun _ => ?_)
  refine J_if_eq (tg := 17) hK dX6_change_4 rfl rfl (fun hc4 => ?_) (fun hc4 => ?_)
  · have hf := ip hc4 hf
    refine J_aload_n hK dX6_change_17 rfl 0 rfl rfl ?_
    refine J_bipush (v := (-2)) hK dX6_change_18 rfl (by decide) ?_
    obtain ⟨⟨v3, g4⟩, e5, hf⟩ := bs hf
    have hf := un2 hf
    refine J_callV (m' := 2) (ce' := 0) (sl' := 0) (gr := [gLd d h1 x1_lineCount x1_goodsCount x1_workCount x1_years x1_lines x1_goods x1_works x1_change x1_coin x1_knownFree x1_isKnown]) (gs' := fun _ => [gTw d h0 (h1 0) a0_kept a0_tape a0_shelves a0_choice a0_traffic g4 x0_isKept x0_gone x0_spent, gLd d h1 x1_lineCount x1_goodsCount x1_workCount x1_years x1_lines x1_goods x1_works x1_change x1_coin x1_knownFree x1_isKnown]) (st' := fun _ => [.int v3]) (st := []) hK dX6_change_20 cv_RX6_68 iv_yX6_refuse (As := [.int (-2)]) (kX6_refuse _ d h0 (h1 0) a0_kept a0_tape a0_shelves a0_choice a0_traffic x0_refused x0_isKept x0_gone x0_spent (-2) e5) rfl rfl (Nat.le_of_ble_eq_true rfl) (by decide) 0 0 rfl rfl rfl [0] [1] rfl rfl rfl rfl [1, 0] rfl (fun _ => rfl) (fun _ => rfl) rfl rfl rfl (fun _ => rfl) (fun _ => ?_)
    obtain rfl := Option.some.inj hf
    exact J_iret hK hR dX6_change_23 () rfl (by decide) (by decide)
  · have hf := iq hc4 hf
    refine J_iload_n hK dX6_change_7 rfl 2 rfl rfl ?_
    refine J_iconst (v := 0) hK dX6_change_8 rfl (by decide) ?_
    refine J_bipush (v := 99) hK dX6_change_9 rfl (by decide) ?_
    obtain ⟨v6, e7, hf⟩ := bs hf
    refine J_callS (m' := 2) (ce' := 0) (sl' := 0) (gr := [gTw d h0 (h1 0) a0_kept a0_tape a0_shelves a0_choice a0_traffic x0_refused x0_isKept x0_gone x0_spent, gLd d h1 x1_lineCount x1_goodsCount x1_workCount x1_years x1_lines x1_goods x1_works x1_change x1_coin x1_knownFree x1_isKnown]) (gs' := fun _ => [gTw d h0 (h1 0) a0_kept a0_tape a0_shelves a0_choice a0_traffic x0_refused x0_isKept x0_gone x0_spent, gLd d h1 x1_lineCount x1_goodsCount x1_workCount x1_years x1_lines x1_goods x1_works x1_change x1_coin x1_knownFree x1_isKnown]) (st' := fun _ => [.int v6]) (st := []) hK dX6_change_11 cv_RX6_64 ws_yX6_within (As := [.int p2, .int (0), .int (99)]) (kX6_within _ d p2 (0) (99) e7) rfl rfl (Nat.le_of_ble_eq_true rfl) (by decide) [] [0, 1] rfl rfl rfl rfl [0, 1] rfl (fun _ => rfl) (fun _ => rfl) rfl rfl rfl (fun _ => rfl) (fun _ => ?_)
    refine J_if_ne (tg := 24) hK dX6_change_14 rfl rfl (fun hc14 => ?_) (fun hc14 => ?_)
    · have hf := iq hc14 hf
      refine J_aload_n hK dX6_change_24 rfl 0 rfl rfl ?_
      refine J_get hK fo_RX6_12 dX6_change_25 rfl 0 0 rfl rfl rfl ?_
      refine J_get hK fo_RX6_146 dX6_change_28 rfl 1 0 rfl rfl rfl ?_
      refine J_iload_n hK dX6_change_31 rfl 1 rfl rfl ?_
      obtain ⟨v8, ev8, hf⟩ := bs hf
      refine J_iald hK dX6_change_32 rfl 1 4 rfl rfl ev8 ?_
      refine J_istore_n (L' := [(3, .int v8), (0, .ref (h0 0)), (1, .int p1), (2, .int p2)]) hK dX6_change_33 rfl rfl (by decide) rfl ?_
      refine J_aload_n hK dX6_change_34 rfl 1 rfl rfl ?_
      refine J_get hK fo_RX6_12 dX6_change_35 rfl 0 0 rfl rfl rfl ?_
      refine J_iload_n hK dX6_change_38 rfl 2 rfl rfl ?_
      refine J_iload_n hK dX6_change_39 rfl 3 rfl rfl ?_
      obtain ⟨⟨g9, g10⟩, e11, hf⟩ := bs hf
      have hf := un2 hf
      refine J_callV (m' := 2) (ce' := 0) (sl' := 0) (gr := [gTw d h0 (h1 0) a0_kept a0_tape a0_shelves a0_choice a0_traffic x0_refused x0_isKept x0_gone x0_spent]) (gs' := fun _ => [gTw d h0 (h1 0) a0_kept a0_tape a0_shelves a0_choice a0_traffic x0_refused x0_isKept x0_gone x0_spent, gLd d h1 x1_lineCount x1_goodsCount x1_workCount x1_years x1_lines x1_goods x1_works g9 x1_coin x1_knownFree g10]) (st' := fun _ => []) (st := []) hK dX6_change_40 cv_RX6_149 iv_yX1_putChange (As := [.int p1, .int p2]) (kX1_putChange _ d h1 x1_lineCount x1_goodsCount x1_workCount x1_years x1_lines x1_goods x1_works x1_change x1_coin x1_knownFree x1_isKnown p1 p2 e11) rfl rfl (Nat.le_of_ble_eq_true rfl) (by decide) 1 0 rfl rfl rfl [1] [0] rfl rfl rfl rfl [0, 1] rfl (fun _ => rfl) (fun _ => rfl) rfl rfl rfl (fun _ => rfl) (fun _ => ?_)
      refine J_iload_n hK dX6_change_43 rfl 0 rfl rfl ?_
      obtain rfl := Option.some.inj hf
      exact J_iret hK hR dX6_change_44 () rfl (by decide) (by decide)
    · have hf := ip hc14 hf
      refine J_aload_n hK dX6_change_17 rfl 0 rfl rfl ?_
      refine J_bipush (v := (-2)) hK dX6_change_18 rfl (by decide) ?_
      obtain ⟨⟨v12, g13⟩, e14, hf⟩ := bs hf
      have hf := un2 hf
      refine J_callV (m' := 2) (ce' := 0) (sl' := 0) (gr := [gLd d h1 x1_lineCount x1_goodsCount x1_workCount x1_years x1_lines x1_goods x1_works x1_change x1_coin x1_knownFree x1_isKnown]) (gs' := fun _ => [gTw d h0 (h1 0) a0_kept a0_tape a0_shelves a0_choice a0_traffic g13 x0_isKept x0_gone x0_spent, gLd d h1 x1_lineCount x1_goodsCount x1_workCount x1_years x1_lines x1_goods x1_works x1_change x1_coin x1_knownFree x1_isKnown]) (st' := fun _ => [.int v12]) (st := []) hK dX6_change_20 cv_RX6_68 iv_yX6_refuse (As := [.int (-2)]) (kX6_refuse _ d h0 (h1 0) a0_kept a0_tape a0_shelves a0_choice a0_traffic x0_refused x0_isKept x0_gone x0_spent (-2) e14) rfl rfl (Nat.le_of_ble_eq_true rfl) (by decide) 0 0 rfl rfl rfl [0] [1] rfl rfl rfl rfl [1, 0] rfl (fun _ => rfl) (fun _ => rfl) rfl rfl rfl (fun _ => rfl) (fun _ => ?_)
      obtain rfl := Option.some.inj hf
      exact J_iret hK hR dX6_change_23 () rfl (by decide) (by decide)

def fX6_coin (X0 : TwT) (X1 : LdT) (p1 : Int32) (p2 : Int32) : Option (Int32 × (Nat → Int32) × (Nat → Int32) × Int32) :=
  u4 (fun (x0_refused : (Nat → Int32)) (x0_isKept : Int32) (x0_gone : Int32) (x0_spent : Int32) => u11 (fun (x1_lineCount : Int32) (x1_goodsCount : Int32) (x1_workCount : Int32) (x1_years : Int32) (x1_lines : (Nat → Int32)) (x1_goods : (Nat → Int32)) (x1_works : (Nat → Int32)) (x1_change : (Nat → Int32)) (x1_coin : (Nat → Int32)) (x1_knownFree : (Nat → Int32)) (x1_isKnown : Int32) => (fX6_within p1 (0) (2)).bind (fun v1 => if v1 = 0 then ((fX6_refuse (x0_refused, x0_isKept, x0_gone, x0_spent) (-2)).bind (u2 fun v3 g4 => some (v3, g4, x1_coin, x1_isKnown))) else ((fX6_within p2 (0) (9)).bind (fun v6 => if v6 = 0 then ((fX6_refuse (x0_refused, x0_isKept, x0_gone, x0_spent) (-2)).bind (u2 fun v12 g13 => some (v12, g13, x1_coin, x1_isKnown))) else ((rd 3 x1_coin p1).bind fun v8 => (fX1_putCoin (x1_lineCount, x1_goodsCount, x1_workCount, x1_years, x1_lines, x1_goods, x1_works, x1_change, x1_coin, x1_knownFree, x1_isKnown) p1 p2).bind (u2 fun g9 g10 => some (v8, x0_refused, g9, g10))))))) X1) X0
set_option maxHeartbeats 4000000 in
set_option maxRecDepth 100000 in
theorem kX6_coin (l : Launch) (d : DT) (h0 : Nat → Nat) (a0_kept : Nat) (a0_tape : Nat) (a0_shelves : Nat) (a0_choice : Nat) (a0_traffic : Nat) (h1 : Nat → Nat) (x0_refused : (Nat → Int32)) (x0_isKept : Int32) (x0_gone : Int32) (x0_spent : Int32) (x1_lineCount : Int32) (x1_goodsCount : Int32) (x1_workCount : Int32) (x1_years : Int32) (x1_lines : (Nat → Int32)) (x1_goods : (Nat → Int32)) (x1_works : (Nat → Int32)) (x1_change : (Nat → Int32)) (x1_coin : (Nat → Int32)) (x1_knownFree : (Nat → Int32)) (x1_isKnown : Int32) (p1 : Int32) (p2 : Int32)  {out : Int32 × (Nat → Int32) × (Nat → Int32) × Int32} (hf : fX6_coin (x0_refused, x0_isKept, x0_gone, x0_spent) (x1_lineCount, x1_goodsCount, x1_workCount, x1_years, x1_lines, x1_goods, x1_works, x1_change, x1_coin, x1_knownFree, x1_isKnown) p1 p2 = some out) : Ct l d yX6_coin cX6_coin 4 (some .int) { frames := 2, cells := 0, slots := 0, locals := 43 } [.ref (h0 0), .int p1, .int p2] [gTw d h0 (h1 0) a0_kept a0_tape a0_shelves a0_choice a0_traffic x0_refused x0_isKept x0_gone x0_spent, gLd d h1 x1_lineCount x1_goodsCount x1_workCount x1_years x1_lines x1_goods x1_works x1_change x1_coin x1_knownFree x1_isKnown] (fun _ : Unit => (some (.int out.1), [gTw d h0 (h1 0) a0_kept a0_tape a0_shelves a0_choice a0_traffic (out.2.1) x0_isKept x0_gone x0_spent, gLd d h1 x1_lineCount x1_goodsCount x1_workCount x1_years x1_lines x1_goods x1_works x1_change (out.2.2.1) x1_knownFree (out.2.2.2)])) := by
  refine Ct.of (by decide) (Nat.le_of_ble_eq_true rfl) ?_
  intro Φ hl hK hR
  subst hl
  have hK : Ok d Φ RX6 "coin" cX6_coin 4 (some .int) { frames := 2, cells := 0, slots := 0, locals := 43 } := hK
  unfold fX6_coin at hf
  have hf := un4 hf
  have hf := un11 hf
  show J d Φ 4 [gTw d h0 (h1 0) a0_kept a0_tape a0_shelves a0_choice a0_traffic x0_refused x0_isKept x0_gone x0_spent, gLd d h1 x1_lineCount x1_goodsCount x1_workCount x1_years x1_lines x1_goods x1_works x1_change x1_coin x1_knownFree x1_isKnown] 0 0 0 [(0, .ref (h0 0)), (1, .int p1), (2, .int p2)] []
  refine J_iload_n hK dX6_coin_0 rfl 1 rfl rfl ?_
  refine J_iconst (v := 0) hK dX6_coin_1 rfl (by decide) ?_
  refine J_iconst (v := 2) hK dX6_coin_2 rfl (by decide) ?_
  obtain ⟨v1, e2, hf⟩ := bs hf
  refine J_callS (m' := 2) (ce' := 0) (sl' := 0) (gr := [gTw d h0 (h1 0) a0_kept a0_tape a0_shelves a0_choice a0_traffic x0_refused x0_isKept x0_gone x0_spent, gLd d h1 x1_lineCount x1_goodsCount x1_workCount x1_years x1_lines x1_goods x1_works x1_change x1_coin x1_knownFree x1_isKnown]) (gs' := fun _ => [gTw d h0 (h1 0) a0_kept a0_tape a0_shelves a0_choice a0_traffic x0_refused x0_isKept x0_gone x0_spent, gLd d h1 x1_lineCount x1_goodsCount x1_workCount x1_years x1_lines x1_goods x1_works x1_change x1_coin x1_knownFree x1_isKnown]) (st' := fun _ => [.int v1]) (st := []) hK dX6_coin_3 cv_RX6_64 ws_yX6_within (As := [.int p1, .int (0), .int (2)]) (kX6_within _ d p1 (0) (2) e2) rfl rfl (Nat.le_of_ble_eq_true rfl) (by decide) [] [0, 1] rfl rfl rfl rfl [0, 1] rfl (fun _ => rfl) (fun _ => rfl) rfl rfl rfl (fun _ => rfl) (fun _ => ?_)
  refine J_if_eq (tg := 19) hK dX6_coin_6 rfl rfl (fun hc6 => ?_) (fun hc6 => ?_)
  · have hf := ip hc6 hf
    refine J_aload_n hK dX6_coin_19 rfl 0 rfl rfl ?_
    refine J_bipush (v := (-2)) hK dX6_coin_20 rfl (by decide) ?_
    obtain ⟨⟨v3, g4⟩, e5, hf⟩ := bs hf
    have hf := un2 hf
    refine J_callV (m' := 2) (ce' := 0) (sl' := 0) (gr := [gLd d h1 x1_lineCount x1_goodsCount x1_workCount x1_years x1_lines x1_goods x1_works x1_change x1_coin x1_knownFree x1_isKnown]) (gs' := fun _ => [gTw d h0 (h1 0) a0_kept a0_tape a0_shelves a0_choice a0_traffic g4 x0_isKept x0_gone x0_spent, gLd d h1 x1_lineCount x1_goodsCount x1_workCount x1_years x1_lines x1_goods x1_works x1_change x1_coin x1_knownFree x1_isKnown]) (st' := fun _ => [.int v3]) (st := []) hK dX6_coin_22 cv_RX6_68 iv_yX6_refuse (As := [.int (-2)]) (kX6_refuse _ d h0 (h1 0) a0_kept a0_tape a0_shelves a0_choice a0_traffic x0_refused x0_isKept x0_gone x0_spent (-2) e5) rfl rfl (Nat.le_of_ble_eq_true rfl) (by decide) 0 0 rfl rfl rfl [0] [1] rfl rfl rfl rfl [1, 0] rfl (fun _ => rfl) (fun _ => rfl) rfl rfl rfl (fun _ => rfl) (fun _ => ?_)
    obtain rfl := Option.some.inj hf
    exact J_iret hK hR dX6_coin_25 () rfl (by decide) (by decide)
  · have hf := iq hc6 hf
    refine J_iload_n hK dX6_coin_9 rfl 2 rfl rfl ?_
    refine J_iconst (v := 0) hK dX6_coin_10 rfl (by decide) ?_
    refine J_bipush (v := 9) hK dX6_coin_11 rfl (by decide) ?_
    obtain ⟨v6, e7, hf⟩ := bs hf
    refine J_callS (m' := 2) (ce' := 0) (sl' := 0) (gr := [gTw d h0 (h1 0) a0_kept a0_tape a0_shelves a0_choice a0_traffic x0_refused x0_isKept x0_gone x0_spent, gLd d h1 x1_lineCount x1_goodsCount x1_workCount x1_years x1_lines x1_goods x1_works x1_change x1_coin x1_knownFree x1_isKnown]) (gs' := fun _ => [gTw d h0 (h1 0) a0_kept a0_tape a0_shelves a0_choice a0_traffic x0_refused x0_isKept x0_gone x0_spent, gLd d h1 x1_lineCount x1_goodsCount x1_workCount x1_years x1_lines x1_goods x1_works x1_change x1_coin x1_knownFree x1_isKnown]) (st' := fun _ => [.int v6]) (st := []) hK dX6_coin_13 cv_RX6_64 ws_yX6_within (As := [.int p2, .int (0), .int (9)]) (kX6_within _ d p2 (0) (9) e7) rfl rfl (Nat.le_of_ble_eq_true rfl) (by decide) [] [0, 1] rfl rfl rfl rfl [0, 1] rfl (fun _ => rfl) (fun _ => rfl) rfl rfl rfl (fun _ => rfl) (fun _ => ?_)
    refine J_if_ne (tg := 26) hK dX6_coin_16 rfl rfl (fun hc16 => ?_) (fun hc16 => ?_)
    · have hf := iq hc16 hf
      refine J_aload_n hK dX6_coin_26 rfl 0 rfl rfl ?_
      refine J_get hK fo_RX6_12 dX6_coin_27 rfl 0 0 rfl rfl rfl ?_
      refine J_get hK fo_RX6_153 dX6_coin_30 rfl 1 0 rfl rfl rfl ?_
      refine J_iload_n hK dX6_coin_33 rfl 1 rfl rfl ?_
      obtain ⟨v8, ev8, hf⟩ := bs hf
      refine J_iald hK dX6_coin_34 rfl 1 5 rfl rfl ev8 ?_
      refine J_istore_n (L' := [(3, .int v8), (0, .ref (h0 0)), (1, .int p1), (2, .int p2)]) hK dX6_coin_35 rfl rfl (by decide) rfl ?_
      refine J_aload_n hK dX6_coin_36 rfl 1 rfl rfl ?_
      refine J_get hK fo_RX6_12 dX6_coin_37 rfl 0 0 rfl rfl rfl ?_
      refine J_iload_n hK dX6_coin_40 rfl 2 rfl rfl ?_
      refine J_iload_n hK dX6_coin_41 rfl 3 rfl rfl ?_
      obtain ⟨⟨g9, g10⟩, e11, hf⟩ := bs hf
      have hf := un2 hf
      refine J_callV (m' := 2) (ce' := 0) (sl' := 0) (gr := [gTw d h0 (h1 0) a0_kept a0_tape a0_shelves a0_choice a0_traffic x0_refused x0_isKept x0_gone x0_spent]) (gs' := fun _ => [gTw d h0 (h1 0) a0_kept a0_tape a0_shelves a0_choice a0_traffic x0_refused x0_isKept x0_gone x0_spent, gLd d h1 x1_lineCount x1_goodsCount x1_workCount x1_years x1_lines x1_goods x1_works x1_change g9 x1_knownFree g10]) (st' := fun _ => []) (st := []) hK dX6_coin_42 cv_RX6_156 iv_yX1_putCoin (As := [.int p1, .int p2]) (kX1_putCoin _ d h1 x1_lineCount x1_goodsCount x1_workCount x1_years x1_lines x1_goods x1_works x1_change x1_coin x1_knownFree x1_isKnown p1 p2 e11) rfl rfl (Nat.le_of_ble_eq_true rfl) (by decide) 1 0 rfl rfl rfl [1] [0] rfl rfl rfl rfl [0, 1] rfl (fun _ => rfl) (fun _ => rfl) rfl rfl rfl (fun _ => rfl) (fun _ => ?_)
      refine J_iload_n hK dX6_coin_45 rfl 0 rfl rfl ?_
      obtain rfl := Option.some.inj hf
      exact J_iret hK hR dX6_coin_46 () rfl (by decide) (by decide)
    · have hf := ip hc16 hf
      refine J_aload_n hK dX6_coin_19 rfl 0 rfl rfl ?_
      refine J_bipush (v := (-2)) hK dX6_coin_20 rfl (by decide) ?_
      obtain ⟨⟨v12, g13⟩, e14, hf⟩ := bs hf
      have hf := un2 hf
      refine J_callV (m' := 2) (ce' := 0) (sl' := 0) (gr := [gLd d h1 x1_lineCount x1_goodsCount x1_workCount x1_years x1_lines x1_goods x1_works x1_change x1_coin x1_knownFree x1_isKnown]) (gs' := fun _ => [gTw d h0 (h1 0) a0_kept a0_tape a0_shelves a0_choice a0_traffic g13 x0_isKept x0_gone x0_spent, gLd d h1 x1_lineCount x1_goodsCount x1_workCount x1_years x1_lines x1_goods x1_works x1_change x1_coin x1_knownFree x1_isKnown]) (st' := fun _ => [.int v12]) (st := []) hK dX6_coin_22 cv_RX6_68 iv_yX6_refuse (As := [.int (-2)]) (kX6_refuse _ d h0 (h1 0) a0_kept a0_tape a0_shelves a0_choice a0_traffic x0_refused x0_isKept x0_gone x0_spent (-2) e14) rfl rfl (Nat.le_of_ble_eq_true rfl) (by decide) 0 0 rfl rfl rfl [0] [1] rfl rfl rfl rfl [1, 0] rfl (fun _ => rfl) (fun _ => rfl) rfl rfl rfl (fun _ => rfl) (fun _ => ?_)
      obtain rfl := Option.some.inj hf
      exact J_iret hK hR dX6_coin_25 () rfl (by decide) (by decide)

def fX6_years (X0 : TwT) (X1 : LdT) (p1 : Int32) : Option (Int32 × (Nat → Int32) × Int32) :=
  u4 (fun (x0_refused : (Nat → Int32)) (x0_isKept : Int32) (x0_gone : Int32) (x0_spent : Int32) => u11 (fun (x1_lineCount : Int32) (x1_goodsCount : Int32) (x1_workCount : Int32) (x1_years : Int32) (x1_lines : (Nat → Int32)) (x1_goods : (Nat → Int32)) (x1_works : (Nat → Int32)) (x1_change : (Nat → Int32)) (x1_coin : (Nat → Int32)) (x1_knownFree : (Nat → Int32)) (x1_isKnown : Int32) => (fX6_within p1 (1) (30)).bind (fun v1 => if v1 = 0 then ((fX6_refuse (x0_refused, x0_isKept, x0_gone, x0_spent) (-2)).bind (u2 fun v3 g4 => some (v3, g4, x1_years))) else (some (x1_years, x0_refused, p1)))) X1) X0
set_option maxHeartbeats 4000000 in
set_option maxRecDepth 100000 in
theorem kX6_years (l : Launch) (d : DT) (h0 : Nat → Nat) (a0_kept : Nat) (a0_tape : Nat) (a0_shelves : Nat) (a0_choice : Nat) (a0_traffic : Nat) (h1 : Nat → Nat) (x0_refused : (Nat → Int32)) (x0_isKept : Int32) (x0_gone : Int32) (x0_spent : Int32) (x1_lineCount : Int32) (x1_goodsCount : Int32) (x1_workCount : Int32) (x1_years : Int32) (x1_lines : (Nat → Int32)) (x1_goods : (Nat → Int32)) (x1_works : (Nat → Int32)) (x1_change : (Nat → Int32)) (x1_coin : (Nat → Int32)) (x1_knownFree : (Nat → Int32)) (x1_isKnown : Int32) (p1 : Int32)  {out : Int32 × (Nat → Int32) × Int32} (hf : fX6_years (x0_refused, x0_isKept, x0_gone, x0_spent) (x1_lineCount, x1_goodsCount, x1_workCount, x1_years, x1_lines, x1_goods, x1_works, x1_change, x1_coin, x1_knownFree, x1_isKnown) p1 = some out) : Ct l d yX6_years cX6_years 3 (some .int) { frames := 2, cells := 0, slots := 0, locals := 43 } [.ref (h0 0), .int p1] [gTw d h0 (h1 0) a0_kept a0_tape a0_shelves a0_choice a0_traffic x0_refused x0_isKept x0_gone x0_spent, gLd d h1 x1_lineCount x1_goodsCount x1_workCount x1_years x1_lines x1_goods x1_works x1_change x1_coin x1_knownFree x1_isKnown] (fun _ : Unit => (some (.int out.1), [gTw d h0 (h1 0) a0_kept a0_tape a0_shelves a0_choice a0_traffic (out.2.1) x0_isKept x0_gone x0_spent, gLd d h1 x1_lineCount x1_goodsCount x1_workCount (out.2.2) x1_lines x1_goods x1_works x1_change x1_coin x1_knownFree x1_isKnown])) := by
  refine Ct.of (by decide) (Nat.le_of_ble_eq_true rfl) ?_
  intro Φ hl hK hR
  subst hl
  have hK : Ok d Φ RX6 "years" cX6_years 3 (some .int) { frames := 2, cells := 0, slots := 0, locals := 43 } := hK
  unfold fX6_years at hf
  have hf := un4 hf
  have hf := un11 hf
  show J d Φ 3 [gTw d h0 (h1 0) a0_kept a0_tape a0_shelves a0_choice a0_traffic x0_refused x0_isKept x0_gone x0_spent, gLd d h1 x1_lineCount x1_goodsCount x1_workCount x1_years x1_lines x1_goods x1_works x1_change x1_coin x1_knownFree x1_isKnown] 0 0 0 [(0, .ref (h0 0)), (1, .int p1)] []
  refine J_iload_n hK dX6_years_0 rfl 1 rfl rfl ?_
  refine J_iconst (v := 1) hK dX6_years_1 rfl (by decide) ?_
  refine J_bipush (v := 30) hK dX6_years_2 rfl (by decide) ?_
  obtain ⟨v1, e2, hf⟩ := bs hf
  refine J_callS (m' := 2) (ce' := 0) (sl' := 0) (gr := [gTw d h0 (h1 0) a0_kept a0_tape a0_shelves a0_choice a0_traffic x0_refused x0_isKept x0_gone x0_spent, gLd d h1 x1_lineCount x1_goodsCount x1_workCount x1_years x1_lines x1_goods x1_works x1_change x1_coin x1_knownFree x1_isKnown]) (gs' := fun _ => [gTw d h0 (h1 0) a0_kept a0_tape a0_shelves a0_choice a0_traffic x0_refused x0_isKept x0_gone x0_spent, gLd d h1 x1_lineCount x1_goodsCount x1_workCount x1_years x1_lines x1_goods x1_works x1_change x1_coin x1_knownFree x1_isKnown]) (st' := fun _ => [.int v1]) (st := []) hK dX6_years_4 cv_RX6_64 ws_yX6_within (As := [.int p1, .int (1), .int (30)]) (kX6_within _ d p1 (1) (30) e2) rfl rfl (Nat.le_of_ble_eq_true rfl) (by decide) [] [0, 1] rfl rfl rfl rfl [0, 1] rfl (fun _ => rfl) (fun _ => rfl) rfl rfl rfl (fun _ => rfl) (fun _ => ?_)
  refine J_if_ne (tg := 17) hK dX6_years_7 rfl rfl (fun hc7 => ?_) (fun hc7 => ?_)
  · have hf := iq hc7 hf
    refine J_aload_n hK dX6_years_17 rfl 0 rfl rfl ?_
    refine J_get hK fo_RX6_12 dX6_years_18 rfl 0 0 rfl rfl rfl ?_
    refine J_get hK fo_RX6_159 dX6_years_21 rfl 1 0 rfl rfl rfl ?_
    refine J_istore_n (L' := [(2, .int x1_years), (0, .ref (h0 0)), (1, .int p1)]) hK dX6_years_24 rfl rfl (by decide) rfl ?_
    refine J_aload_n hK dX6_years_25 rfl 1 rfl rfl ?_
    refine J_get hK fo_RX6_12 dX6_years_26 rfl 0 0 rfl rfl rfl ?_
    refine J_iload_n hK dX6_years_29 rfl 2 rfl rfl ?_
    refine J_put (g' := gLd d h1 x1_lineCount x1_goodsCount x1_workCount p1 x1_lines x1_goods x1_works x1_change x1_coin x1_knownFree x1_isKnown) (gs' := [gTw d h0 (h1 0) a0_kept a0_tape a0_shelves a0_choice a0_traffic x0_refused x0_isKept x0_gone x0_spent, gLd d h1 x1_lineCount x1_goodsCount x1_workCount p1 x1_lines x1_goods x1_works x1_change x1_coin x1_knownFree x1_isKnown]) hK fp_RX6_159 dX6_years_30 rfl 1 0 rfl rfl rfl rfl (Nat.le_of_ble_eq_true rfl) rfl rfl ?_
    refine J_iload_n hK dX6_years_33 rfl 0 rfl rfl ?_
    obtain rfl := Option.some.inj hf
    exact J_iret hK hR dX6_years_34 () rfl (by decide) (by decide)
  · have hf := ip hc7 hf
    refine J_aload_n hK dX6_years_10 rfl 0 rfl rfl ?_
    refine J_bipush (v := (-2)) hK dX6_years_11 rfl (by decide) ?_
    obtain ⟨⟨v3, g4⟩, e5, hf⟩ := bs hf
    have hf := un2 hf
    refine J_callV (m' := 2) (ce' := 0) (sl' := 0) (gr := [gLd d h1 x1_lineCount x1_goodsCount x1_workCount x1_years x1_lines x1_goods x1_works x1_change x1_coin x1_knownFree x1_isKnown]) (gs' := fun _ => [gTw d h0 (h1 0) a0_kept a0_tape a0_shelves a0_choice a0_traffic g4 x0_isKept x0_gone x0_spent, gLd d h1 x1_lineCount x1_goodsCount x1_workCount x1_years x1_lines x1_goods x1_works x1_change x1_coin x1_knownFree x1_isKnown]) (st' := fun _ => [.int v3]) (st := []) hK dX6_years_13 cv_RX6_68 iv_yX6_refuse (As := [.int (-2)]) (kX6_refuse _ d h0 (h1 0) a0_kept a0_tape a0_shelves a0_choice a0_traffic x0_refused x0_isKept x0_gone x0_spent (-2) e5) rfl rfl (Nat.le_of_ble_eq_true rfl) (by decide) 0 0 rfl rfl rfl [0] [1] rfl rfl rfl rfl [1, 0] rfl (fun _ => rfl) (fun _ => rfl) rfl rfl rfl (fun _ => rfl) (fun _ => ?_)
    obtain rfl := Option.some.inj hf
    exact J_iret hK hR dX6_years_16 () rfl (by decide) (by decide)

def fX6_washed_j27 (p1 : Int32) (x0_refused : (Nat → Int32)) (x1_lineCount : Int32) (x1_goodsCount : Int32) (x1_workCount : Int32) (x1_years : Int32) (x1_lines : (Nat → Int32)) (x1_goods : (Nat → Int32)) (x1_works : (Nat → Int32)) (x1_change : (Nat → Int32)) (x1_coin : (Nat → Int32)) (x1_knownFree : (Nat → Int32)) (x1_isKnown : Int32) (y3 : Int32) : Option (Int32 × (Nat → Int32) × (Nat → Int32) × Int32) :=
  (fX1_ofLine (x1_lineCount, x1_goodsCount, x1_workCount, x1_years, x1_lines, x1_goods, x1_works, x1_change, x1_coin, x1_knownFree, x1_isKnown) p1 (6)).bind (fun v4 => if v4 = y3 then (some (0, x0_refused, x1_lines, x1_isKnown)) else ((fX1_putWashed (x1_lineCount, x1_goodsCount, x1_workCount, x1_years, x1_lines, x1_goods, x1_works, x1_change, x1_coin, x1_knownFree, x1_isKnown) p1 y3).bind (u2 fun g6 g7 => some (1, x0_refused, g6, g7))))
def fX6_washed (X0 : TwT) (X1 : LdT) (p1 : Int32) (p2 : Int32) : Option (Int32 × (Nat → Int32) × (Nat → Int32) × Int32) :=
  u4 (fun (x0_refused : (Nat → Int32)) (x0_isKept : Int32) (x0_gone : Int32) (x0_spent : Int32) => u11 (fun (x1_lineCount : Int32) (x1_goodsCount : Int32) (x1_workCount : Int32) (x1_years : Int32) (x1_lines : (Nat → Int32)) (x1_goods : (Nat → Int32)) (x1_works : (Nat → Int32)) (x1_change : (Nat → Int32)) (x1_coin : (Nat → Int32)) (x1_knownFree : (Nat → Int32)) (x1_isKnown : Int32) => (fX1_hasLine (x1_lineCount, x1_goodsCount, x1_workCount, x1_years, x1_lines, x1_goods, x1_works, x1_change, x1_coin, x1_knownFree, x1_isKnown) p1).bind (fun v1 => if v1 = 0 then ((fX6_refuse (x0_refused, x0_isKept, x0_gone, x0_spent) (-2)).bind (u2 fun v9 g10 => some (v9, g10, x1_lines, x1_isKnown))) else (if p2 = 0 then (fX6_washed_j27 p1 x0_refused x1_lineCount x1_goodsCount x1_workCount x1_years x1_lines x1_goods x1_works x1_change x1_coin x1_knownFree x1_isKnown (0)) else (fX6_washed_j27 p1 x0_refused x1_lineCount x1_goodsCount x1_workCount x1_years x1_lines x1_goods x1_works x1_change x1_coin x1_knownFree x1_isKnown (1))))) X1) X0
set_option maxHeartbeats 4000000 in
set_option maxRecDepth 100000 in
theorem kX6_washed (l : Launch) (d : DT) (h0 : Nat → Nat) (a0_kept : Nat) (a0_tape : Nat) (a0_shelves : Nat) (a0_choice : Nat) (a0_traffic : Nat) (h1 : Nat → Nat) (x0_refused : (Nat → Int32)) (x0_isKept : Int32) (x0_gone : Int32) (x0_spent : Int32) (x1_lineCount : Int32) (x1_goodsCount : Int32) (x1_workCount : Int32) (x1_years : Int32) (x1_lines : (Nat → Int32)) (x1_goods : (Nat → Int32)) (x1_works : (Nat → Int32)) (x1_change : (Nat → Int32)) (x1_coin : (Nat → Int32)) (x1_knownFree : (Nat → Int32)) (x1_isKnown : Int32) (p1 : Int32) (p2 : Int32)  {out : Int32 × (Nat → Int32) × (Nat → Int32) × Int32} (hf : fX6_washed (x0_refused, x0_isKept, x0_gone, x0_spent) (x1_lineCount, x1_goodsCount, x1_workCount, x1_years, x1_lines, x1_goods, x1_works, x1_change, x1_coin, x1_knownFree, x1_isKnown) p1 p2 = some out) : Ct l d yX6_washed cX6_washed 4 (some .int) { frames := 2, cells := 0, slots := 0, locals := 43 } [.ref (h0 0), .int p1, .int p2] [gTw d h0 (h1 0) a0_kept a0_tape a0_shelves a0_choice a0_traffic x0_refused x0_isKept x0_gone x0_spent, gLd d h1 x1_lineCount x1_goodsCount x1_workCount x1_years x1_lines x1_goods x1_works x1_change x1_coin x1_knownFree x1_isKnown] (fun _ : Unit => (some (.int out.1), [gTw d h0 (h1 0) a0_kept a0_tape a0_shelves a0_choice a0_traffic (out.2.1) x0_isKept x0_gone x0_spent, gLd d h1 x1_lineCount x1_goodsCount x1_workCount x1_years (out.2.2.1) x1_goods x1_works x1_change x1_coin x1_knownFree (out.2.2.2)])) := by
  refine Ct.of (by decide) (Nat.le_of_ble_eq_true rfl) ?_
  intro Φ hl hK hR
  subst hl
  have hK : Ok d Φ RX6 "washed" cX6_washed 4 (some .int) { frames := 2, cells := 0, slots := 0, locals := 43 } := hK
  unfold fX6_washed at hf
  have hf := un4 hf
  have hf := un11 hf
  show J d Φ 4 [gTw d h0 (h1 0) a0_kept a0_tape a0_shelves a0_choice a0_traffic x0_refused x0_isKept x0_gone x0_spent, gLd d h1 x1_lineCount x1_goodsCount x1_workCount x1_years x1_lines x1_goods x1_works x1_change x1_coin x1_knownFree x1_isKnown] 0 0 0 [(0, .ref (h0 0)), (1, .int p1), (2, .int p2)] []
  refine J_aload_n hK dX6_washed_0 rfl 0 rfl rfl ?_
  refine J_get hK fo_RX6_12 dX6_washed_1 rfl 0 0 rfl rfl rfl ?_
  refine J_iload_n hK dX6_washed_4 rfl 1 rfl rfl ?_
  obtain ⟨v1, e2, hf⟩ := bs hf
  refine J_callV (m' := 2) (ce' := 0) (sl' := 0) (gr := [gTw d h0 (h1 0) a0_kept a0_tape a0_shelves a0_choice a0_traffic x0_refused x0_isKept x0_gone x0_spent]) (gs' := fun _ => [gTw d h0 (h1 0) a0_kept a0_tape a0_shelves a0_choice a0_traffic x0_refused x0_isKept x0_gone x0_spent, gLd d h1 x1_lineCount x1_goodsCount x1_workCount x1_years x1_lines x1_goods x1_works x1_change x1_coin x1_knownFree x1_isKnown]) (st' := fun _ => [.int v1]) (st := []) hK dX6_washed_5 cv_RX6_162 iv_yX1_hasLine (As := [.int p1]) (kX1_hasLine _ d h1 x1_lineCount x1_goodsCount x1_workCount x1_years x1_lines x1_goods x1_works x1_change x1_coin x1_knownFree x1_isKnown p1 e2) rfl rfl (Nat.le_of_ble_eq_true rfl) (by decide) 1 0 rfl rfl rfl [1] [0] rfl rfl rfl rfl [0, 1] rfl (fun _ => rfl) (fun _ => rfl) rfl rfl rfl (fun _ => rfl) (fun _ => ?_)
  refine J_if_ne (tg := 18) hK dX6_washed_8 rfl rfl (fun hc8 => ?_) (fun hc8 => ?_)
  · have hf := iq hc8 hf
    refine J_iload_n hK dX6_washed_18 rfl 2 rfl rfl ?_
    have j27 : ∀ (y3 : Int32), fX6_washed_j27 p1 x0_refused x1_lineCount x1_goodsCount x1_workCount x1_years x1_lines x1_goods x1_works x1_change x1_coin x1_knownFree x1_isKnown y3 = some out → J d Φ 4 [gTw d h0 (h1 0) a0_kept a0_tape a0_shelves a0_choice a0_traffic x0_refused x0_isKept x0_gone x0_spent, gLd d h1 x1_lineCount x1_goodsCount x1_workCount x1_years x1_lines x1_goods x1_works x1_change x1_coin x1_knownFree x1_isKnown] 0 0 27 [(0, .ref (h0 0)), (1, .int p1)] [.int y3] := by
      intro y3 hf
      unfold fX6_washed_j27 at hf
      refine J_istore_n (L' := [(3, .int y3), (0, .ref (h0 0)), (1, .int p1)]) hK dX6_washed_27 rfl rfl (by decide) rfl ?_
      refine J_aload_n hK dX6_washed_28 rfl 1 rfl rfl ?_
      refine J_get hK fo_RX6_12 dX6_washed_29 rfl 0 0 rfl rfl rfl ?_
      refine J_iload_n hK dX6_washed_32 rfl 2 rfl rfl ?_
      refine J_bipush (v := 6) hK dX6_washed_33 rfl (by decide) ?_
      obtain ⟨v4, e5, hf⟩ := bs hf
      refine J_callV (m' := 2) (ce' := 0) (sl' := 0) (gr := [gTw d h0 (h1 0) a0_kept a0_tape a0_shelves a0_choice a0_traffic x0_refused x0_isKept x0_gone x0_spent]) (gs' := fun _ => [gTw d h0 (h1 0) a0_kept a0_tape a0_shelves a0_choice a0_traffic x0_refused x0_isKept x0_gone x0_spent, gLd d h1 x1_lineCount x1_goodsCount x1_workCount x1_years x1_lines x1_goods x1_works x1_change x1_coin x1_knownFree x1_isKnown]) (st' := fun _ => [.int v4]) (st := []) hK dX6_washed_35 cv_RX6_165 iv_yX1_ofLine (As := [.int p1, .int (6)]) (kX1_ofLine _ d h1 x1_lineCount x1_goodsCount x1_workCount x1_years x1_lines x1_goods x1_works x1_change x1_coin x1_knownFree x1_isKnown p1 (6) e5) rfl rfl (Nat.le_of_ble_eq_true rfl) (by decide) 1 0 rfl rfl rfl [1] [0] rfl rfl rfl rfl [0, 1] rfl (fun _ => rfl) (fun _ => rfl) rfl rfl rfl (fun _ => rfl) (fun _ => ?_)
      refine J_iload_n hK dX6_washed_38 rfl 0 rfl rfl ?_
      refine J_icmp_ne (tg := 44) hK dX6_washed_39 rfl rfl (fun hc39 => ?_) (fun hc39 => ?_)
      · have hf := iq hc39 hf
        refine J_aload_n hK dX6_washed_44 rfl 1 rfl rfl ?_
        refine J_get hK fo_RX6_12 dX6_washed_45 rfl 0 0 rfl rfl rfl ?_
        refine J_iload_n hK dX6_washed_48 rfl 2 rfl rfl ?_
        refine J_iload_n hK dX6_washed_49 rfl 0 rfl rfl ?_
        obtain ⟨⟨g6, g7⟩, e8, hf⟩ := bs hf
        have hf := un2 hf
        refine J_callV (m' := 2) (ce' := 0) (sl' := 0) (gr := [gTw d h0 (h1 0) a0_kept a0_tape a0_shelves a0_choice a0_traffic x0_refused x0_isKept x0_gone x0_spent]) (gs' := fun _ => [gTw d h0 (h1 0) a0_kept a0_tape a0_shelves a0_choice a0_traffic x0_refused x0_isKept x0_gone x0_spent, gLd d h1 x1_lineCount x1_goodsCount x1_workCount x1_years g6 x1_goods x1_works x1_change x1_coin x1_knownFree g7]) (st' := fun _ => []) (st := []) hK dX6_washed_50 cv_RX6_168 iv_yX1_putWashed (As := [.int p1, .int y3]) (kX1_putWashed _ d h1 x1_lineCount x1_goodsCount x1_workCount x1_years x1_lines x1_goods x1_works x1_change x1_coin x1_knownFree x1_isKnown p1 y3 e8) rfl rfl (Nat.le_of_ble_eq_true rfl) (by decide) 1 0 rfl rfl rfl [1] [0] rfl rfl rfl rfl [0, 1] rfl (fun _ => rfl) (fun _ => rfl) rfl rfl rfl (fun _ => rfl) (fun _ => ?_)
        refine J_iconst (v := 1) hK dX6_washed_53 rfl (by decide) ?_
        obtain rfl := Option.some.inj hf
        exact J_iret hK hR dX6_washed_54 () rfl (by decide) (by decide)
      · have hf := ip hc39 hf
        refine J_iconst (v := 0) hK dX6_washed_42 rfl (by decide) ?_
        obtain rfl := Option.some.inj hf
        exact J_iret hK hR dX6_washed_43 () rfl (by decide) (by decide)
    refine J_if_eq (tg := 26) hK dX6_washed_19 rfl rfl (fun hc19 => ?_) (fun hc19 => ?_)
    · have hf := ip hc19 hf
      refine J_iconst (v := 0) hK dX6_washed_26 rfl (by decide) ?_
      exact J_loc [0, 1] rfl (j27 (0) hf)
    · have hf := iq hc19 hf
      refine J_iconst (v := 1) hK dX6_washed_22 rfl (by decide) ?_
      refine J_goto hK dX6_washed_23 (n := 27) rfl ?_
      exact J_loc [0, 1] rfl (j27 (1) hf)
  · have hf := ip hc8 hf
    refine J_aload_n hK dX6_washed_11 rfl 0 rfl rfl ?_
    refine J_bipush (v := (-2)) hK dX6_washed_12 rfl (by decide) ?_
    obtain ⟨⟨v9, g10⟩, e11, hf⟩ := bs hf
    have hf := un2 hf
    refine J_callV (m' := 2) (ce' := 0) (sl' := 0) (gr := [gLd d h1 x1_lineCount x1_goodsCount x1_workCount x1_years x1_lines x1_goods x1_works x1_change x1_coin x1_knownFree x1_isKnown]) (gs' := fun _ => [gTw d h0 (h1 0) a0_kept a0_tape a0_shelves a0_choice a0_traffic g10 x0_isKept x0_gone x0_spent, gLd d h1 x1_lineCount x1_goodsCount x1_workCount x1_years x1_lines x1_goods x1_works x1_change x1_coin x1_knownFree x1_isKnown]) (st' := fun _ => [.int v9]) (st := []) hK dX6_washed_14 cv_RX6_68 iv_yX6_refuse (As := [.int (-2)]) (kX6_refuse _ d h0 (h1 0) a0_kept a0_tape a0_shelves a0_choice a0_traffic x0_refused x0_isKept x0_gone x0_spent (-2) e11) rfl rfl (Nat.le_of_ble_eq_true rfl) (by decide) 0 0 rfl rfl rfl [0] [1] rfl rfl rfl rfl [1, 0] rfl (fun _ => rfl) (fun _ => rfl) rfl rfl rfl (fun _ => rfl) (fun _ => ?_)
    obtain rfl := Option.some.inj hf
    exact J_iret hK hR dX6_washed_17 () rfl (by decide) (by decide)

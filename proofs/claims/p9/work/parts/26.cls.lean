def fX3_readGoods_j45 (x1_lineCount : Int32) (x1_goodsCount : Int32) (x1_workCount : Int32) (x1_years : Int32) (x1_lines : (Nat → Int32)) (x1_goods : (Nat → Int32)) (x1_works : (Nat → Int32)) (x1_change : (Nat → Int32)) (x1_coin : (Nat → Int32)) (x1_knownFree : (Nat → Int32)) (x1_isKnown : Int32) (v6 : Int32) (y16 : Int32) (x17 : Int32) (x18 : Int32) (x19 : Int32) (x20 : Int32) (y21 : Int32) : Option (Int32 × Int32 × Int32 × Int32 × Int32 × Int32 × (Nat → Int32) × Int32) :=
  if y21 = (-1) then (some (0, x17, x18, x19, x20, x1_goodsCount, x1_goods, x1_isKnown)) else ((fX1_addGoods (x1_lineCount, x1_goodsCount, x1_workCount, x1_years, x1_lines, x1_goods, x1_works, x1_change, x1_coin, x1_knownFree, x1_isKnown) v6 y16 y21).bind (u3 fun g22 g23 g24 => some (1, x17, x18, x19, x20, g22, g23, g24)))
def fX3_readGoods_j28 (n : Nat) (x0_bytes : (Nat → Int32)) (x0_size : Int32) (x1_lineCount : Int32) (x1_goodsCount : Int32) (x1_workCount : Int32) (x1_years : Int32) (x1_lines : (Nat → Int32)) (x1_goods : (Nat → Int32)) (x1_works : (Nat → Int32)) (x1_change : (Nat → Int32)) (x1_coin : (Nat → Int32)) (x1_knownFree : (Nat → Int32)) (x1_isKnown : Int32) (v6 : Int32) (x12 : Int32) (x13 : Int32) (x14 : Int32) (x15 : Int32) (y16 : Int32) : Option (Int32 × Int32 × Int32 × Int32 × Int32 × Int32 × (Nat → Int32) × Int32) :=
  if y16 = (-1) then (fX3_readGoods_j45 x1_lineCount x1_goodsCount x1_workCount x1_years x1_lines x1_goods x1_works x1_change x1_coin x1_knownFree x1_isKnown v6 y16 x12 x13 x14 x15 (-1)) else ((fX3_number n (x0_bytes, x0_size, x12, x13, x14, x15) (1) (99)).bind (u5 fun v26 g27 g28 g29 g30 => fX3_readGoods_j45 x1_lineCount x1_goodsCount x1_workCount x1_years x1_lines x1_goods x1_works x1_change x1_coin x1_knownFree x1_isKnown v6 y16 g27 g28 g29 g30 v26))
def fX3_readGoods (n : Nat) (X0 : TpT) (X1 : LdT) : Option (Int32 × Int32 × Int32 × Int32 × Int32 × Int32 × (Nat → Int32) × Int32) :=
  u6 (fun (x0_bytes : (Nat → Int32)) (x0_size : Int32) (x0_start : Int32) (x0_end : Int32) (x0_token : Int32) (x0_value : Int32) => u11 (fun (x1_lineCount : Int32) (x1_goodsCount : Int32) (x1_workCount : Int32) (x1_years : Int32) (x1_lines : (Nat → Int32)) (x1_goods : (Nat → Int32)) (x1_works : (Nat → Int32)) (x1_change : (Nat → Int32)) (x1_coin : (Nat → Int32)) (x1_knownFree : (Nat → Int32)) (x1_isKnown : Int32) => (fX3_next n (x0_bytes, x0_size, x0_start, x0_end, x0_token, x0_value)).bind (u4 fun g1 g2 g3 g4 => (fX3_number n (x0_bytes, x0_size, g1, g2, g3, g4) (0) (11)).bind (u5 fun v6 g7 g8 g9 g10 => if v6 = (-1) then (fX3_readGoods_j28 n x0_bytes x0_size x1_lineCount x1_goodsCount x1_workCount x1_years x1_lines x1_goods x1_works x1_change x1_coin x1_knownFree x1_isKnown v6 g7 g8 g9 g10 (-1)) else ((fX3_numberUnlike n (x0_bytes, x0_size, g7, g8, g9, g10) v6 (11)).bind (u5 fun v32 g33 g34 g35 g36 => fX3_readGoods_j28 n x0_bytes x0_size x1_lineCount x1_goodsCount x1_workCount x1_years x1_lines x1_goods x1_works x1_change x1_coin x1_knownFree x1_isKnown v6 g33 g34 g35 g36 v32))))) X1) X0
set_option maxHeartbeats 4000000 in
set_option maxRecDepth 100000 in
theorem kX3_readGoods (l : Launch) (d : DT) (h0 : Nat → Nat) (h1 : Nat → Nat) (n : Nat) (x0_bytes : (Nat → Int32)) (x0_size : Int32) (x0_start : Int32) (x0_end : Int32) (x0_token : Int32) (x0_value : Int32) (x1_lineCount : Int32) (x1_goodsCount : Int32) (x1_workCount : Int32) (x1_years : Int32) (x1_lines : (Nat → Int32)) (x1_goods : (Nat → Int32)) (x1_works : (Nat → Int32)) (x1_change : (Nat → Int32)) (x1_coin : (Nat → Int32)) (x1_knownFree : (Nat → Int32)) (x1_isKnown : Int32)  {out : Int32 × Int32 × Int32 × Int32 × Int32 × Int32 × (Nat → Int32) × Int32} (hf : fX3_readGoods n (x0_bytes, x0_size, x0_start, x0_end, x0_token, x0_value) (x1_lineCount, x1_goodsCount, x1_workCount, x1_years, x1_lines, x1_goods, x1_works, x1_change, x1_coin, x1_knownFree, x1_isKnown) = some out) : Ct l d yX3_readGoods cX3_readGoods 5 (some .boolean) { frames := 4, cells := 0, slots := 0, locals := 88 } [.ref (h0 0), .ref (h1 0)] [gTp d h0 x0_bytes x0_size x0_start x0_end x0_token x0_value, gLd d h1 x1_lineCount x1_goodsCount x1_workCount x1_years x1_lines x1_goods x1_works x1_change x1_coin x1_knownFree x1_isKnown] (fun _ : Unit => (some (.int out.1), [gTp d h0 x0_bytes x0_size (out.2.1) (out.2.2.1) (out.2.2.2.1) (out.2.2.2.2.1), gLd d h1 x1_lineCount (out.2.2.2.2.2.1) x1_workCount x1_years x1_lines (out.2.2.2.2.2.2.1) x1_works x1_change x1_coin x1_knownFree (out.2.2.2.2.2.2.2)])) := by
  refine Ct.of (by decide) (Nat.le_of_ble_eq_true rfl) ?_
  intro Φ hl hK hR
  subst hl
  have hK : Ok d Φ RX3 "readGoods" cX3_readGoods 5 (some .boolean) { frames := 4, cells := 0, slots := 0, locals := 88 } := hK
  unfold fX3_readGoods at hf
  have hf := un6 hf
  have hf := un11 hf
  show J d Φ 5 [gTp d h0 x0_bytes x0_size x0_start x0_end x0_token x0_value, gLd d h1 x1_lineCount x1_goodsCount x1_workCount x1_years x1_lines x1_goods x1_works x1_change x1_coin x1_knownFree x1_isKnown] 0 0 0 [(0, .ref (h0 0)), (1, .ref (h1 0))] []
  refine J_aload_n hK dX3_readGoods_0 rfl 0 rfl rfl ?_
  obtain ⟨⟨g1, g2, g3, g4⟩, e5, hf⟩ := bs hf
  have hf := un4 hf
  refine J_callV (m' := 2) (ce' := 0) (sl' := 0) (gr := [gLd d h1 x1_lineCount x1_goodsCount x1_workCount x1_years x1_lines x1_goods x1_works x1_change x1_coin x1_knownFree x1_isKnown]) (gs' := fun _ => [gTp d h0 x0_bytes x0_size g1 g2 g3 g4, gLd d h1 x1_lineCount x1_goodsCount x1_workCount x1_years x1_lines x1_goods x1_works x1_change x1_coin x1_knownFree x1_isKnown]) (st' := fun _ => []) (st := []) hK dX3_readGoods_1 cv_RX3_22 iv_yX3_next (As := []) (kX3_next _ d h0 n x0_bytes x0_size x0_start x0_end x0_token x0_value e5) rfl rfl (Nat.le_of_ble_eq_true rfl) (by decide) 0 0 rfl rfl rfl [0] [1] rfl rfl rfl rfl [1, 0] rfl (fun _ => rfl) (fun _ => rfl) rfl rfl rfl (fun _ => rfl) (fun _ => ?_)
  refine J_aload_n hK dX3_readGoods_4 rfl 0 rfl rfl ?_
  refine J_iconst (v := 0) hK dX3_readGoods_5 rfl (by decide) ?_
  refine J_bipush (v := 11) hK dX3_readGoods_6 rfl (by decide) ?_
  obtain ⟨⟨v6, g7, g8, g9, g10⟩, e11, hf⟩ := bs hf
  have hf := un5 hf
  refine J_callV (m' := 2) (ce' := 0) (sl' := 0) (gr := [gLd d h1 x1_lineCount x1_goodsCount x1_workCount x1_years x1_lines x1_goods x1_works x1_change x1_coin x1_knownFree x1_isKnown]) (gs' := fun _ => [gTp d h0 x0_bytes x0_size g7 g8 g9 g10, gLd d h1 x1_lineCount x1_goodsCount x1_workCount x1_years x1_lines x1_goods x1_works x1_change x1_coin x1_knownFree x1_isKnown]) (st' := fun _ => [.int v6]) (st := []) hK dX3_readGoods_8 cv_RX3_80 iv_yX3_number (As := [.int (0), .int (11)]) (kX3_number _ d h0 n x0_bytes x0_size g1 g2 g3 g4 (0) (11) e11) rfl rfl (Nat.le_of_ble_eq_true rfl) (by decide) 0 0 rfl rfl rfl [0] [1] rfl rfl rfl rfl [1, 0] rfl (fun _ => rfl) (fun _ => rfl) rfl rfl rfl (fun _ => rfl) (fun _ => ?_)
  refine J_istore_n (L' := [(2, .int v6), (0, .ref (h0 0)), (1, .ref (h1 0))]) hK dX3_readGoods_11 rfl rfl (by decide) rfl ?_
  refine J_iload_n hK dX3_readGoods_12 rfl 0 rfl rfl ?_
  refine J_iconst (v := (-1)) hK dX3_readGoods_13 rfl (by decide) ?_
  have j28 : ∀ (x12 : Int32) (x13 : Int32) (x14 : Int32) (x15 : Int32) (y16 : Int32), fX3_readGoods_j28 n x0_bytes x0_size x1_lineCount x1_goodsCount x1_workCount x1_years x1_lines x1_goods x1_works x1_change x1_coin x1_knownFree x1_isKnown v6 x12 x13 x14 x15 y16 = some out → J d Φ 5 [gTp d h0 x0_bytes x0_size x12 x13 x14 x15, gLd d h1 x1_lineCount x1_goodsCount x1_workCount x1_years x1_lines x1_goods x1_works x1_change x1_coin x1_knownFree x1_isKnown] 0 0 28 [(0, .ref (h0 0)), (1, .ref (h1 0)), (2, .int v6)] [.int y16] := by
    intro x12 x13 x14 x15 y16 hf
    unfold fX3_readGoods_j28 at hf
    refine J_istore_n (L' := [(3, .int y16), (0, .ref (h0 0)), (1, .ref (h1 0)), (2, .int v6)]) hK dX3_readGoods_28 rfl rfl (by decide) rfl ?_
    refine J_iload_n hK dX3_readGoods_29 rfl 0 rfl rfl ?_
    refine J_iconst (v := (-1)) hK dX3_readGoods_30 rfl (by decide) ?_
    have j45 : ∀ (x17 : Int32) (x18 : Int32) (x19 : Int32) (x20 : Int32) (y21 : Int32), fX3_readGoods_j45 x1_lineCount x1_goodsCount x1_workCount x1_years x1_lines x1_goods x1_works x1_change x1_coin x1_knownFree x1_isKnown v6 y16 x17 x18 x19 x20 y21 = some out → J d Φ 5 [gTp d h0 x0_bytes x0_size x17 x18 x19 x20, gLd d h1 x1_lineCount x1_goodsCount x1_workCount x1_years x1_lines x1_goods x1_works x1_change x1_coin x1_knownFree x1_isKnown] 0 0 45 [(1, .ref (h1 0)), (2, .int v6), (3, .int y16)] [.int y21] := by
      intro x17 x18 x19 x20 y21 hf
      unfold fX3_readGoods_j45 at hf
      refine J_istore (L' := [(4, .int y21), (1, .ref (h1 0)), (2, .int v6), (3, .int y16)]) hK dX3_readGoods_45 rfl (by decide) rfl ?_
      refine J_iload hK dX3_readGoods_47 rfl 0 rfl ?_
      refine J_iconst (v := (-1)) hK dX3_readGoods_49 rfl (by decide) ?_
      refine J_icmp_ne (tg := 55) hK dX3_readGoods_50 rfl rfl (fun hc50 => ?_) (fun hc50 => ?_)
      · have hf := iq hc50 hf
        refine J_aload_n hK dX3_readGoods_55 rfl 1 rfl rfl ?_
        refine J_iload_n hK dX3_readGoods_56 rfl 2 rfl rfl ?_
        refine J_iload_n hK dX3_readGoods_57 rfl 3 rfl rfl ?_
        refine J_iload hK dX3_readGoods_58 rfl 0 rfl ?_
        obtain ⟨⟨g22, g23, g24⟩, e25, hf⟩ := bs hf
        have hf := un3 hf
        refine J_callV (m' := 2) (ce' := 0) (sl' := 0) (gr := [gTp d h0 x0_bytes x0_size x17 x18 x19 x20]) (gs' := fun _ => [gTp d h0 x0_bytes x0_size x17 x18 x19 x20, gLd d h1 x1_lineCount g22 x1_workCount x1_years x1_lines g23 x1_works x1_change x1_coin x1_knownFree g24]) (st' := fun _ => []) (st := []) hK dX3_readGoods_60 cv_RX3_103 iv_yX1_addGoods (As := [.int v6, .int y16, .int y21]) (kX1_addGoods _ d h1 x1_lineCount x1_goodsCount x1_workCount x1_years x1_lines x1_goods x1_works x1_change x1_coin x1_knownFree x1_isKnown v6 y16 y21 e25) rfl rfl (Nat.le_of_ble_eq_true rfl) (by decide) 1 0 rfl rfl rfl [1] [0] rfl rfl rfl rfl [0, 1] rfl (fun _ => rfl) (fun _ => rfl) rfl rfl rfl (fun _ => rfl) (fun _ => ?_)
        refine J_iconst (v := 1) hK dX3_readGoods_63 rfl (by decide) ?_
        obtain rfl := Option.some.inj hf
        exact J_zret hK hR dX3_readGoods_64 () rfl rfl (by decide) (by decide)
      · have hf := ip hc50 hf
        refine J_iconst (v := 0) hK dX3_readGoods_53 rfl (by decide) ?_
        obtain rfl := Option.some.inj hf
        exact J_zret hK hR dX3_readGoods_54 () rfl rfl (by decide) (by decide)
    refine J_icmp_ne (tg := 38) hK dX3_readGoods_31 rfl rfl (fun hc31 => ?_) (fun hc31 => ?_)
    · have hf := iq hc31 hf
      refine J_aload_n hK dX3_readGoods_38 rfl 1 rfl rfl ?_
      refine J_iconst (v := 1) hK dX3_readGoods_39 rfl (by decide) ?_
      refine J_bipush (v := 99) hK dX3_readGoods_40 rfl (by decide) ?_
      obtain ⟨⟨v26, g27, g28, g29, g30⟩, e31, hf⟩ := bs hf
      have hf := un5 hf
      refine J_callV (m' := 2) (ce' := 0) (sl' := 0) (gr := [gLd d h1 x1_lineCount x1_goodsCount x1_workCount x1_years x1_lines x1_goods x1_works x1_change x1_coin x1_knownFree x1_isKnown]) (gs' := fun _ => [gTp d h0 x0_bytes x0_size g27 g28 g29 g30, gLd d h1 x1_lineCount x1_goodsCount x1_workCount x1_years x1_lines x1_goods x1_works x1_change x1_coin x1_knownFree x1_isKnown]) (st' := fun _ => [.int v26]) (st := []) hK dX3_readGoods_42 cv_RX3_80 iv_yX3_number (As := [.int (1), .int (99)]) (kX3_number _ d h0 n x0_bytes x0_size x12 x13 x14 x15 (1) (99) e31) rfl rfl (Nat.le_of_ble_eq_true rfl) (by decide) 0 0 rfl rfl rfl [0] [1] rfl rfl rfl rfl [1, 0] rfl (fun _ => rfl) (fun _ => rfl) rfl rfl rfl (fun _ => rfl) (fun _ => ?_)
      exact J_loc [2, 3, 0] rfl (j45 g27 g28 g29 g30 v26 hf)
    · have hf := ip hc31 hf
      refine J_iconst (v := (-1)) hK dX3_readGoods_34 rfl (by decide) ?_
      refine J_goto hK dX3_readGoods_35 (n := 45) rfl ?_
      exact J_loc [2, 3, 0] rfl (j45 x12 x13 x14 x15 (-1) hf)
  refine J_icmp_ne (tg := 21) hK dX3_readGoods_14 rfl rfl (fun hc14 => ?_) (fun hc14 => ?_)
  · have hf := iq hc14 hf
    refine J_aload_n hK dX3_readGoods_21 rfl 1 rfl rfl ?_
    refine J_iload_n hK dX3_readGoods_22 rfl 0 rfl rfl ?_
    refine J_bipush (v := 11) hK dX3_readGoods_23 rfl (by decide) ?_
    obtain ⟨⟨v32, g33, g34, g35, g36⟩, e37, hf⟩ := bs hf
    have hf := un5 hf
    refine J_callV (m' := 2) (ce' := 0) (sl' := 0) (gr := [gLd d h1 x1_lineCount x1_goodsCount x1_workCount x1_years x1_lines x1_goods x1_works x1_change x1_coin x1_knownFree x1_isKnown]) (gs' := fun _ => [gTp d h0 x0_bytes x0_size g33 g34 g35 g36, gLd d h1 x1_lineCount x1_goodsCount x1_workCount x1_years x1_lines x1_goods x1_works x1_change x1_coin x1_knownFree x1_isKnown]) (st' := fun _ => [.int v32]) (st := []) hK dX3_readGoods_25 cv_RX3_84 iv_yX3_numberUnlike (As := [.int v6, .int (11)]) (kX3_numberUnlike _ d h0 n x0_bytes x0_size g7 g8 g9 g10 v6 (11) e37) rfl rfl (Nat.le_of_ble_eq_true rfl) (by decide) 0 0 rfl rfl rfl [0] [1] rfl rfl rfl rfl [1, 0] rfl (fun _ => rfl) (fun _ => rfl) rfl rfl rfl (fun _ => rfl) (fun _ => ?_)
    exact J_loc [1, 2, 0] rfl (j28 g33 g34 g35 g36 v32 hf)
  · have hf := ip hc14 hf
    refine J_iconst (v := (-1)) hK dX3_readGoods_17 rfl (by decide) ?_
    refine J_goto hK dX3_readGoods_18 (n := 28) rfl ?_
    exact J_loc [1, 2, 0] rfl (j28 g7 g8 g9 g10 (-1) hf)

def fX3_readWork_j90 (x1_lineCount : Int32) (x1_goodsCount : Int32) (x1_workCount : Int32) (x1_years : Int32) (x1_lines : (Nat → Int32)) (x1_goods : (Nat → Int32)) (x1_works : (Nat → Int32)) (x1_change : (Nat → Int32)) (x1_coin : (Nat → Int32)) (x1_knownFree : (Nat → Int32)) (x1_isKnown : Int32) (v6 : Int32) (y16 : Int32) (y25 : Int32) (x26 : Int32) (x27 : Int32) (x28 : Int32) (x29 : Int32) (y30 : Int32) : Option (Int32 × Int32 × Int32 × Int32 × Int32 × Int32 × (Nat → Int32) × Int32) :=
  if y30 = (-1) then (some (0, x26, x27, x28, x29, x1_workCount, x1_works, x1_isKnown)) else ((fX1_addWork (x1_lineCount, x1_goodsCount, x1_workCount, x1_years, x1_lines, x1_goods, x1_works, x1_change, x1_coin, x1_knownFree, x1_isKnown) v6 y16 y25 y30).bind (u3 fun g31 g32 g33 => some (1, x26, x27, x28, x29, g31, g32, g33)))
def fX3_readWork_j70 (n : Nat) (x0_bytes : (Nat → Int32)) (x0_size : Int32) (x1_lineCount : Int32) (x1_goodsCount : Int32) (x1_workCount : Int32) (x1_years : Int32) (x1_lines : (Nat → Int32)) (x1_goods : (Nat → Int32)) (x1_works : (Nat → Int32)) (x1_change : (Nat → Int32)) (x1_coin : (Nat → Int32)) (x1_knownFree : (Nat → Int32)) (x1_isKnown : Int32) (v6 : Int32) (y16 : Int32) (x21 : Int32) (x22 : Int32) (x23 : Int32) (x24 : Int32) (y25 : Int32) : Option (Int32 × Int32 × Int32 × Int32 × Int32 × Int32 × (Nat → Int32) × Int32) :=
  if y25 = (-1) then (fX3_readWork_j90 x1_lineCount x1_goodsCount x1_workCount x1_years x1_lines x1_goods x1_works x1_change x1_coin x1_knownFree x1_isKnown v6 y16 y25 x21 x22 x23 x24 (-1)) else ((fX3_number n (x0_bytes, x0_size, x21, x22, x23, x24) (0) (999)).bind (u5 fun v35 g36 g37 g38 g39 => fX3_readWork_j90 x1_lineCount x1_goodsCount x1_workCount x1_years x1_lines x1_goods x1_works x1_change x1_coin x1_knownFree x1_isKnown v6 y16 y25 g36 g37 g38 g39 v35))
def fX3_readWork_j30 (n : Nat) (x0_bytes : (Nat → Int32)) (x0_size : Int32) (x1_lineCount : Int32) (x1_goodsCount : Int32) (x1_workCount : Int32) (x1_years : Int32) (x1_lines : (Nat → Int32)) (x1_goods : (Nat → Int32)) (x1_works : (Nat → Int32)) (x1_change : (Nat → Int32)) (x1_coin : (Nat → Int32)) (x1_knownFree : (Nat → Int32)) (x1_isKnown : Int32) (v6 : Int32) (x12 : Int32) (x13 : Int32) (x14 : Int32) (x15 : Int32) (y16 : Int32) : Option (Int32 × Int32 × Int32 × Int32 × Int32 × Int32 × (Nat → Int32) × Int32) :=
  if y16 = (-1) then (some (0, x12, x13, x14, x15, x1_workCount, x1_works, x1_isKnown)) else ((fX1_greatestB v6).bind (fun v17 => (fX6_isUnder n v6 (4)).bind (fun v19 => if v19 = 0 then ((fX3_number n (x0_bytes, x0_size, x12, x13, x14, x15) (0) v17).bind (u5 fun v41 g42 g43 g44 g45 => fX3_readWork_j70 n x0_bytes x0_size x1_lineCount x1_goodsCount x1_workCount x1_years x1_lines x1_goods x1_works x1_change x1_coin x1_knownFree x1_isKnown v6 y16 g42 g43 g44 g45 v41)) else ((fX3_numberUnlike n (x0_bytes, x0_size, x12, x13, x14, x15) y16 v17).bind (u5 fun v47 g48 g49 g50 g51 => fX3_readWork_j70 n x0_bytes x0_size x1_lineCount x1_goodsCount x1_workCount x1_years x1_lines x1_goods x1_works x1_change x1_coin x1_knownFree x1_isKnown v6 y16 g48 g49 g50 g51 v47)))))
def fX3_readWork (n : Nat) (X0 : TpT) (X1 : LdT) : Option (Int32 × Int32 × Int32 × Int32 × Int32 × Int32 × (Nat → Int32) × Int32) :=
  u6 (fun (x0_bytes : (Nat → Int32)) (x0_size : Int32) (x0_start : Int32) (x0_end : Int32) (x0_token : Int32) (x0_value : Int32) => u11 (fun (x1_lineCount : Int32) (x1_goodsCount : Int32) (x1_workCount : Int32) (x1_years : Int32) (x1_lines : (Nat → Int32)) (x1_goods : (Nat → Int32)) (x1_works : (Nat → Int32)) (x1_change : (Nat → Int32)) (x1_coin : (Nat → Int32)) (x1_knownFree : (Nat → Int32)) (x1_isKnown : Int32) => (fX3_next n (x0_bytes, x0_size, x0_start, x0_end, x0_token, x0_value)).bind (u4 fun g1 g2 g3 g4 => (fX3_number n (x0_bytes, x0_size, g1, g2, g3, g4) (1) (5)).bind (u5 fun v6 g7 g8 g9 g10 => if v6 = (-1) then (fX3_readWork_j30 n x0_bytes x0_size x1_lineCount x1_goodsCount x1_workCount x1_years x1_lines x1_goods x1_works x1_change x1_coin x1_knownFree x1_isKnown v6 g7 g8 g9 g10 (-1)) else ((fX1_greatestA (x1_lineCount, x1_goodsCount, x1_workCount, x1_years, x1_lines, x1_goods, x1_works, x1_change, x1_coin, x1_knownFree, x1_isKnown) v6).bind (fun v53 => (fX3_number n (x0_bytes, x0_size, g7, g8, g9, g10) (0) v53).bind (u5 fun v55 g56 g57 g58 g59 => fX3_readWork_j30 n x0_bytes x0_size x1_lineCount x1_goodsCount x1_workCount x1_years x1_lines x1_goods x1_works x1_change x1_coin x1_knownFree x1_isKnown v6 g56 g57 g58 g59 v55)))))) X1) X0
set_option maxHeartbeats 4000000 in
set_option maxRecDepth 100000 in
theorem kX3_readWork (l : Launch) (d : DT) (h0 : Nat → Nat) (h1 : Nat → Nat) (n : Nat) (x0_bytes : (Nat → Int32)) (x0_size : Int32) (x0_start : Int32) (x0_end : Int32) (x0_token : Int32) (x0_value : Int32) (x1_lineCount : Int32) (x1_goodsCount : Int32) (x1_workCount : Int32) (x1_years : Int32) (x1_lines : (Nat → Int32)) (x1_goods : (Nat → Int32)) (x1_works : (Nat → Int32)) (x1_change : (Nat → Int32)) (x1_coin : (Nat → Int32)) (x1_knownFree : (Nat → Int32)) (x1_isKnown : Int32)  {out : Int32 × Int32 × Int32 × Int32 × Int32 × Int32 × (Nat → Int32) × Int32} (hf : fX3_readWork n (x0_bytes, x0_size, x0_start, x0_end, x0_token, x0_value) (x1_lineCount, x1_goodsCount, x1_workCount, x1_years, x1_lines, x1_goods, x1_works, x1_change, x1_coin, x1_knownFree, x1_isKnown) = some out) : Ct l d yX3_readWork cX3_readWork 7 (some .boolean) { frames := 4, cells := 0, slots := 0, locals := 88 } [.ref (h0 0), .ref (h1 0)] [gTp d h0 x0_bytes x0_size x0_start x0_end x0_token x0_value, gLd d h1 x1_lineCount x1_goodsCount x1_workCount x1_years x1_lines x1_goods x1_works x1_change x1_coin x1_knownFree x1_isKnown] (fun _ : Unit => (some (.int out.1), [gTp d h0 x0_bytes x0_size (out.2.1) (out.2.2.1) (out.2.2.2.1) (out.2.2.2.2.1), gLd d h1 x1_lineCount x1_goodsCount (out.2.2.2.2.2.1) x1_years x1_lines x1_goods (out.2.2.2.2.2.2.1) x1_change x1_coin x1_knownFree (out.2.2.2.2.2.2.2)])) := by
  refine Ct.of (by decide) (Nat.le_of_ble_eq_true rfl) ?_
  intro Φ hl hK hR
  subst hl
  have hK : Ok d Φ RX3 "readWork" cX3_readWork 7 (some .boolean) { frames := 4, cells := 0, slots := 0, locals := 88 } := hK
  unfold fX3_readWork at hf
  have hf := un6 hf
  have hf := un11 hf
  show J d Φ 7 [gTp d h0 x0_bytes x0_size x0_start x0_end x0_token x0_value, gLd d h1 x1_lineCount x1_goodsCount x1_workCount x1_years x1_lines x1_goods x1_works x1_change x1_coin x1_knownFree x1_isKnown] 0 0 0 [(0, .ref (h0 0)), (1, .ref (h1 0))] []
  refine J_aload_n hK dX3_readWork_0 rfl 0 rfl rfl ?_
  obtain ⟨⟨g1, g2, g3, g4⟩, e5, hf⟩ := bs hf
  have hf := un4 hf
  refine J_callV (m' := 2) (ce' := 0) (sl' := 0) (gr := [gLd d h1 x1_lineCount x1_goodsCount x1_workCount x1_years x1_lines x1_goods x1_works x1_change x1_coin x1_knownFree x1_isKnown]) (gs' := fun _ => [gTp d h0 x0_bytes x0_size g1 g2 g3 g4, gLd d h1 x1_lineCount x1_goodsCount x1_workCount x1_years x1_lines x1_goods x1_works x1_change x1_coin x1_knownFree x1_isKnown]) (st' := fun _ => []) (st := []) hK dX3_readWork_1 cv_RX3_22 iv_yX3_next (As := []) (kX3_next _ d h0 n x0_bytes x0_size x0_start x0_end x0_token x0_value e5) rfl rfl (Nat.le_of_ble_eq_true rfl) (by decide) 0 0 rfl rfl rfl [0] [1] rfl rfl rfl rfl [1, 0] rfl (fun _ => rfl) (fun _ => rfl) rfl rfl rfl (fun _ => rfl) (fun _ => ?_)
  refine J_aload_n hK dX3_readWork_4 rfl 0 rfl rfl ?_
  refine J_iconst (v := 1) hK dX3_readWork_5 rfl (by decide) ?_
  refine J_iconst (v := 5) hK dX3_readWork_6 rfl (by decide) ?_
  obtain ⟨⟨v6, g7, g8, g9, g10⟩, e11, hf⟩ := bs hf
  have hf := un5 hf
  refine J_callV (m' := 2) (ce' := 0) (sl' := 0) (gr := [gLd d h1 x1_lineCount x1_goodsCount x1_workCount x1_years x1_lines x1_goods x1_works x1_change x1_coin x1_knownFree x1_isKnown]) (gs' := fun _ => [gTp d h0 x0_bytes x0_size g7 g8 g9 g10, gLd d h1 x1_lineCount x1_goodsCount x1_workCount x1_years x1_lines x1_goods x1_works x1_change x1_coin x1_knownFree x1_isKnown]) (st' := fun _ => [.int v6]) (st := []) hK dX3_readWork_7 cv_RX3_80 iv_yX3_number (As := [.int (1), .int (5)]) (kX3_number _ d h0 n x0_bytes x0_size g1 g2 g3 g4 (1) (5) e11) rfl rfl (Nat.le_of_ble_eq_true rfl) (by decide) 0 0 rfl rfl rfl [0] [1] rfl rfl rfl rfl [1, 0] rfl (fun _ => rfl) (fun _ => rfl) rfl rfl rfl (fun _ => rfl) (fun _ => ?_)
  refine J_istore_n (L' := [(2, .int v6), (0, .ref (h0 0)), (1, .ref (h1 0))]) hK dX3_readWork_10 rfl rfl (by decide) rfl ?_
  refine J_iload_n hK dX3_readWork_11 rfl 0 rfl rfl ?_
  refine J_iconst (v := (-1)) hK dX3_readWork_12 rfl (by decide) ?_
  have j30 : ∀ (x12 : Int32) (x13 : Int32) (x14 : Int32) (x15 : Int32) (y16 : Int32), fX3_readWork_j30 n x0_bytes x0_size x1_lineCount x1_goodsCount x1_workCount x1_years x1_lines x1_goods x1_works x1_change x1_coin x1_knownFree x1_isKnown v6 x12 x13 x14 x15 y16 = some out → J d Φ 7 [gTp d h0 x0_bytes x0_size x12 x13 x14 x15, gLd d h1 x1_lineCount x1_goodsCount x1_workCount x1_years x1_lines x1_goods x1_works x1_change x1_coin x1_knownFree x1_isKnown] 0 0 30 [(0, .ref (h0 0)), (1, .ref (h1 0)), (2, .int v6)] [.int y16] := by
    intro x12 x13 x14 x15 y16 hf
    unfold fX3_readWork_j30 at hf
    refine J_istore_n (L' := [(3, .int y16), (0, .ref (h0 0)), (1, .ref (h1 0)), (2, .int v6)]) hK dX3_readWork_30 rfl rfl (by decide) rfl ?_
    refine J_iload_n hK dX3_readWork_31 rfl 0 rfl rfl ?_
    refine J_iconst (v := (-1)) hK dX3_readWork_32 rfl (by decide) ?_
    refine J_icmp_ne (tg := 38) hK dX3_readWork_33 rfl rfl (fun hc33 => ?_) (fun hc33 => ?_)
    · have hf := iq hc33 hf
      refine J_aload_n hK dX3_readWork_38 rfl 2 rfl rfl ?_
      refine J_iload_n hK dX3_readWork_39 rfl 3 rfl rfl ?_
      obtain ⟨v17, e18, hf⟩ := bs hf
      refine J_callV (m' := 2) (ce' := 0) (sl' := 0) (gr := [gTp d h0 x0_bytes x0_size x12 x13 x14 x15, gLd d h1 x1_lineCount x1_goodsCount x1_workCount x1_years x1_lines x1_goods x1_works x1_change x1_coin x1_knownFree x1_isKnown]) (gs' := fun _ => [gTp d h0 x0_bytes x0_size x12 x13 x14 x15, gLd d h1 x1_lineCount x1_goodsCount x1_workCount x1_years x1_lines x1_goods x1_works x1_change x1_coin x1_knownFree x1_isKnown]) (st' := fun _ => [.int v17]) (st := []) hK dX3_readWork_40 cv_RX3_111 iv_yX1_greatestB (As := [.int v6]) (kX1_greatestB _ d (h1 0) v6 e18) rfl rfl (Nat.le_of_ble_eq_true rfl) (by decide) 1 0 rfl rfl rfl [] [0, 1] rfl rfl rfl rfl [0, 1] rfl (fun _ => rfl) (fun _ => rfl) rfl rfl rfl (fun _ => rfl) (fun _ => ?_)
      refine J_istore (L' := [(4, .int v17), (3, .int y16), (0, .ref (h0 0)), (1, .ref (h1 0)), (2, .int v6)]) hK dX3_readWork_43 rfl (by decide) rfl ?_
      refine J_iload_n hK dX3_readWork_45 rfl 4 rfl rfl ?_
      refine J_iconst (v := 4) hK dX3_readWork_46 rfl (by decide) ?_
      obtain ⟨v19, e20, hf⟩ := bs hf
      refine J_callN (m' := 2) (ce' := 0) (sl' := 0) (gr := [gTp d h0 x0_bytes x0_size x12 x13 x14 x15, gLd d h1 x1_lineCount x1_goodsCount x1_workCount x1_years x1_lines x1_goods x1_works x1_change x1_coin x1_knownFree x1_isKnown]) (gs' := fun _ => [gTp d h0 x0_bytes x0_size x12 x13 x14 x15, gLd d h1 x1_lineCount x1_goodsCount x1_workCount x1_years x1_lines x1_goods x1_works x1_change x1_coin x1_knownFree x1_isKnown]) (st' := fun _ => [.int v19]) (st := []) hK dX3_readWork_47 cn_RX3_114 (As := [.int v6, .int (4)]) (kX6_isUnder _ d n v6 (4) e20) rfl rfl (Nat.le_of_ble_eq_true rfl) (by decide) [] [0, 1] rfl rfl rfl rfl [0, 1] rfl (fun _ => rfl) (fun _ => rfl) rfl rfl rfl (fun _ => rfl) (fun _ => ?_)
      have j70 : ∀ (x21 : Int32) (x22 : Int32) (x23 : Int32) (x24 : Int32) (y25 : Int32), fX3_readWork_j70 n x0_bytes x0_size x1_lineCount x1_goodsCount x1_workCount x1_years x1_lines x1_goods x1_works x1_change x1_coin x1_knownFree x1_isKnown v6 y16 x21 x22 x23 x24 y25 = some out → J d Φ 7 [gTp d h0 x0_bytes x0_size x21 x22 x23 x24, gLd d h1 x1_lineCount x1_goodsCount x1_workCount x1_years x1_lines x1_goods x1_works x1_change x1_coin x1_knownFree x1_isKnown] 0 0 70 [(0, .ref (h0 0)), (1, .ref (h1 0)), (2, .int v6), (3, .int y16)] [.int y25] := by
        intro x21 x22 x23 x24 y25 hf
        unfold fX3_readWork_j70 at hf
        refine J_istore (L' := [(5, .int y25), (0, .ref (h0 0)), (1, .ref (h1 0)), (2, .int v6), (3, .int y16)]) hK dX3_readWork_70 rfl (by decide) rfl ?_
        refine J_iload hK dX3_readWork_72 rfl 0 rfl ?_
        refine J_iconst (v := (-1)) hK dX3_readWork_74 rfl (by decide) ?_
        have j90 : ∀ (x26 : Int32) (x27 : Int32) (x28 : Int32) (x29 : Int32) (y30 : Int32), fX3_readWork_j90 x1_lineCount x1_goodsCount x1_workCount x1_years x1_lines x1_goods x1_works x1_change x1_coin x1_knownFree x1_isKnown v6 y16 y25 x26 x27 x28 x29 y30 = some out → J d Φ 7 [gTp d h0 x0_bytes x0_size x26 x27 x28 x29, gLd d h1 x1_lineCount x1_goodsCount x1_workCount x1_years x1_lines x1_goods x1_works x1_change x1_coin x1_knownFree x1_isKnown] 0 0 90 [(1, .ref (h1 0)), (2, .int v6), (3, .int y16), (5, .int y25)] [.int y30] := by
          intro x26 x27 x28 x29 y30 hf
          unfold fX3_readWork_j90 at hf
          refine J_istore (L' := [(6, .int y30), (1, .ref (h1 0)), (2, .int v6), (3, .int y16), (5, .int y25)]) hK dX3_readWork_90 rfl (by decide) rfl ?_
          refine J_iload hK dX3_readWork_92 rfl 0 rfl ?_
          refine J_iconst (v := (-1)) hK dX3_readWork_94 rfl (by decide) ?_
          refine J_icmp_ne (tg := 100) hK dX3_readWork_95 rfl rfl (fun hc95 => ?_) (fun hc95 => ?_)
          · have hf := iq hc95 hf
            refine J_aload_n hK dX3_readWork_100 rfl 1 rfl rfl ?_
            refine J_iload_n hK dX3_readWork_101 rfl 2 rfl rfl ?_
            refine J_iload_n hK dX3_readWork_102 rfl 3 rfl rfl ?_
            refine J_iload hK dX3_readWork_103 rfl 4 rfl ?_
            refine J_iload hK dX3_readWork_105 rfl 0 rfl ?_
            obtain ⟨⟨g31, g32, g33⟩, e34, hf⟩ := bs hf
            have hf := un3 hf
            refine J_callV (m' := 2) (ce' := 0) (sl' := 0) (gr := [gTp d h0 x0_bytes x0_size x26 x27 x28 x29]) (gs' := fun _ => [gTp d h0 x0_bytes x0_size x26 x27 x28 x29, gLd d h1 x1_lineCount x1_goodsCount g31 x1_years x1_lines x1_goods g32 x1_change x1_coin x1_knownFree g33]) (st' := fun _ => []) (st := []) hK dX3_readWork_107 cv_RX3_118 iv_yX1_addWork (As := [.int v6, .int y16, .int y25, .int y30]) (kX1_addWork _ d h1 x1_lineCount x1_goodsCount x1_workCount x1_years x1_lines x1_goods x1_works x1_change x1_coin x1_knownFree x1_isKnown v6 y16 y25 y30 e34) rfl rfl (Nat.le_of_ble_eq_true rfl) (by decide) 1 0 rfl rfl rfl [1] [0] rfl rfl rfl rfl [0, 1] rfl (fun _ => rfl) (fun _ => rfl) rfl rfl rfl (fun _ => rfl) (fun _ => ?_)
            refine J_iconst (v := 1) hK dX3_readWork_110 rfl (by decide) ?_
            obtain rfl := Option.some.inj hf
            exact J_zret hK hR dX3_readWork_111 () rfl rfl (by decide) (by decide)
          · have hf := ip hc95 hf
            refine J_iconst (v := 0) hK dX3_readWork_98 rfl (by decide) ?_
            obtain rfl := Option.some.inj hf
            exact J_zret hK hR dX3_readWork_99 () rfl rfl (by decide) (by decide)
        refine J_icmp_ne (tg := 82) hK dX3_readWork_75 rfl rfl (fun hc75 => ?_) (fun hc75 => ?_)
        · have hf := iq hc75 hf
          refine J_aload_n hK dX3_readWork_82 rfl 1 rfl rfl ?_
          refine J_iconst (v := 0) hK dX3_readWork_83 rfl (by decide) ?_
          refine J_sipush (v := 999) hK dX3_readWork_84 rfl (by decide) ?_
          obtain ⟨⟨v35, g36, g37, g38, g39⟩, e40, hf⟩ := bs hf
          have hf := un5 hf
          refine J_callV (m' := 2) (ce' := 0) (sl' := 0) (gr := [gLd d h1 x1_lineCount x1_goodsCount x1_workCount x1_years x1_lines x1_goods x1_works x1_change x1_coin x1_knownFree x1_isKnown]) (gs' := fun _ => [gTp d h0 x0_bytes x0_size g36 g37 g38 g39, gLd d h1 x1_lineCount x1_goodsCount x1_workCount x1_years x1_lines x1_goods x1_works x1_change x1_coin x1_knownFree x1_isKnown]) (st' := fun _ => [.int v35]) (st := []) hK dX3_readWork_87 cv_RX3_80 iv_yX3_number (As := [.int (0), .int (999)]) (kX3_number _ d h0 n x0_bytes x0_size x21 x22 x23 x24 (0) (999) e40) rfl rfl (Nat.le_of_ble_eq_true rfl) (by decide) 0 0 rfl rfl rfl [0] [1] rfl rfl rfl rfl [1, 0] rfl (fun _ => rfl) (fun _ => rfl) rfl rfl rfl (fun _ => rfl) (fun _ => ?_)
          exact J_loc [2, 3, 4, 0] rfl (j90 g36 g37 g38 g39 v35 hf)
        · have hf := ip hc75 hf
          refine J_iconst (v := (-1)) hK dX3_readWork_78 rfl (by decide) ?_
          refine J_goto hK dX3_readWork_79 (n := 90) rfl ?_
          exact J_loc [2, 3, 4, 0] rfl (j90 x21 x22 x23 x24 (-1) hf)
      refine J_if_eq (tg := 63) hK dX3_readWork_50 rfl rfl (fun hc50 => ?_) (fun hc50 => ?_)
      · have hf := ip hc50 hf
        refine J_aload_n hK dX3_readWork_63 rfl 2 rfl rfl ?_
        refine J_iconst (v := 0) hK dX3_readWork_64 rfl (by decide) ?_
        refine J_iload hK dX3_readWork_65 rfl 0 rfl ?_
        obtain ⟨⟨v41, g42, g43, g44, g45⟩, e46, hf⟩ := bs hf
        have hf := un5 hf
        refine J_callV (m' := 2) (ce' := 0) (sl' := 0) (gr := [gLd d h1 x1_lineCount x1_goodsCount x1_workCount x1_years x1_lines x1_goods x1_works x1_change x1_coin x1_knownFree x1_isKnown]) (gs' := fun _ => [gTp d h0 x0_bytes x0_size g42 g43 g44 g45, gLd d h1 x1_lineCount x1_goodsCount x1_workCount x1_years x1_lines x1_goods x1_works x1_change x1_coin x1_knownFree x1_isKnown]) (st' := fun _ => [.int v41]) (st := []) hK dX3_readWork_67 cv_RX3_80 iv_yX3_number (As := [.int (0), .int v17]) (kX3_number _ d h0 n x0_bytes x0_size x12 x13 x14 x15 (0) v17 e46) rfl rfl (Nat.le_of_ble_eq_true rfl) (by decide) 0 0 rfl rfl rfl [0] [1] rfl rfl rfl rfl [1, 0] rfl (fun _ => rfl) (fun _ => rfl) rfl rfl rfl (fun _ => rfl) (fun _ => ?_)
        exact J_loc [2, 3, 4, 1] rfl (j70 g42 g43 g44 g45 v41 hf)
      · have hf := iq hc50 hf
        refine J_aload_n hK dX3_readWork_53 rfl 2 rfl rfl ?_
        refine J_iload_n hK dX3_readWork_54 rfl 1 rfl rfl ?_
        refine J_iload hK dX3_readWork_55 rfl 0 rfl ?_
        obtain ⟨⟨v47, g48, g49, g50, g51⟩, e52, hf⟩ := bs hf
        have hf := un5 hf
        refine J_callV (m' := 2) (ce' := 0) (sl' := 0) (gr := [gLd d h1 x1_lineCount x1_goodsCount x1_workCount x1_years x1_lines x1_goods x1_works x1_change x1_coin x1_knownFree x1_isKnown]) (gs' := fun _ => [gTp d h0 x0_bytes x0_size g48 g49 g50 g51, gLd d h1 x1_lineCount x1_goodsCount x1_workCount x1_years x1_lines x1_goods x1_works x1_change x1_coin x1_knownFree x1_isKnown]) (st' := fun _ => [.int v47]) (st := []) hK dX3_readWork_57 cv_RX3_84 iv_yX3_numberUnlike (As := [.int y16, .int v17]) (kX3_numberUnlike _ d h0 n x0_bytes x0_size x12 x13 x14 x15 y16 v17 e52) rfl rfl (Nat.le_of_ble_eq_true rfl) (by decide) 0 0 rfl rfl rfl [0] [1] rfl rfl rfl rfl [1, 0] rfl (fun _ => rfl) (fun _ => rfl) rfl rfl rfl (fun _ => rfl) (fun _ => ?_)
        refine J_goto hK dX3_readWork_60 (n := 70) rfl ?_
        exact J_loc [2, 3, 4, 1] rfl (j70 g48 g49 g50 g51 v47 hf)
    · have hf := ip hc33 hf
      refine J_iconst (v := 0) hK dX3_readWork_36 rfl (by decide) ?_
      obtain rfl := Option.some.inj hf
      exact J_zret hK hR dX3_readWork_37 () rfl rfl (by decide) (by decide)
  refine J_icmp_ne (tg := 20) hK dX3_readWork_13 rfl rfl (fun hc13 => ?_) (fun hc13 => ?_)
  · have hf := iq hc13 hf
    refine J_aload_n hK dX3_readWork_20 rfl 1 rfl rfl ?_
    refine J_iconst (v := 0) hK dX3_readWork_21 rfl (by decide) ?_
    refine J_aload_n hK dX3_readWork_22 rfl 2 rfl rfl ?_
    refine J_iload_n hK dX3_readWork_23 rfl 0 rfl rfl ?_
    obtain ⟨v53, e54, hf⟩ := bs hf
    refine J_callV (m' := 2) (ce' := 0) (sl' := 0) (gr := [gTp d h0 x0_bytes x0_size g7 g8 g9 g10]) (gs' := fun _ => [gTp d h0 x0_bytes x0_size g7 g8 g9 g10, gLd d h1 x1_lineCount x1_goodsCount x1_workCount x1_years x1_lines x1_goods x1_works x1_change x1_coin x1_knownFree x1_isKnown]) (st' := fun _ => [.int v53, .int (0), .ref (h0 0)]) (st := [.int (0), .ref (h0 0)]) hK dX3_readWork_24 cv_RX3_107 iv_yX1_greatestA (As := [.int v6]) (kX1_greatestA _ d h1 x1_lineCount x1_goodsCount x1_workCount x1_years x1_lines x1_goods x1_works x1_change x1_coin x1_knownFree x1_isKnown v6 e54) rfl rfl (Nat.le_of_ble_eq_true rfl) (by decide) 1 0 rfl rfl rfl [1] [0] rfl rfl rfl rfl [0, 1] rfl (fun _ => rfl) (fun _ => rfl) rfl rfl rfl (fun _ => rfl) (fun _ => ?_)
    obtain ⟨⟨v55, g56, g57, g58, g59⟩, e60, hf⟩ := bs hf
    have hf := un5 hf
    refine J_callV (m' := 2) (ce' := 0) (sl' := 0) (gr := [gLd d h1 x1_lineCount x1_goodsCount x1_workCount x1_years x1_lines x1_goods x1_works x1_change x1_coin x1_knownFree x1_isKnown]) (gs' := fun _ => [gTp d h0 x0_bytes x0_size g56 g57 g58 g59, gLd d h1 x1_lineCount x1_goodsCount x1_workCount x1_years x1_lines x1_goods x1_works x1_change x1_coin x1_knownFree x1_isKnown]) (st' := fun _ => [.int v55]) (st := []) hK dX3_readWork_27 cv_RX3_80 iv_yX3_number (As := [.int (0), .int v53]) (kX3_number _ d h0 n x0_bytes x0_size g7 g8 g9 g10 (0) v53 e60) rfl rfl (Nat.le_of_ble_eq_true rfl) (by decide) 0 0 rfl rfl rfl [0] [1] rfl rfl rfl rfl [1, 0] rfl (fun _ => rfl) (fun _ => rfl) rfl rfl rfl (fun _ => rfl) (fun _ => ?_)
    exact J_loc [1, 2, 0] rfl (j30 g56 g57 g58 g59 v55 hf)
  · have hf := ip hc13 hf
    refine J_iconst (v := (-1)) hK dX3_readWork_16 rfl (by decide) ?_
    refine J_goto hK dX3_readWork_17 (n := 30) rfl ?_
    exact J_loc [1, 2, 0] rfl (j30 g7 g8 g9 g10 (-1) hf)

def fX3_readChange_j28 (x1_lineCount : Int32) (x1_goodsCount : Int32) (x1_workCount : Int32) (x1_years : Int32) (x1_lines : (Nat → Int32)) (x1_goods : (Nat → Int32)) (x1_works : (Nat → Int32)) (x1_change : (Nat → Int32)) (x1_coin : (Nat → Int32)) (x1_knownFree : (Nat → Int32)) (x1_isKnown : Int32) (v6 : Int32) (x12 : Int32) (x13 : Int32) (x14 : Int32) (x15 : Int32) (y16 : Int32) : Option (Int32 × Int32 × Int32 × Int32 × Int32 × (Nat → Int32) × Int32) :=
  if y16 = (-1) then (some (0, x12, x13, x14, x15, x1_change, x1_isKnown)) else ((fX1_putChange (x1_lineCount, x1_goodsCount, x1_workCount, x1_years, x1_lines, x1_goods, x1_works, x1_change, x1_coin, x1_knownFree, x1_isKnown) v6 y16).bind (u2 fun g17 g18 => some (1, x12, x13, x14, x15, g17, g18)))
def fX3_readChange (n : Nat) (X0 : TpT) (X1 : LdT) : Option (Int32 × Int32 × Int32 × Int32 × Int32 × (Nat → Int32) × Int32) :=
  u6 (fun (x0_bytes : (Nat → Int32)) (x0_size : Int32) (x0_start : Int32) (x0_end : Int32) (x0_token : Int32) (x0_value : Int32) => u11 (fun (x1_lineCount : Int32) (x1_goodsCount : Int32) (x1_workCount : Int32) (x1_years : Int32) (x1_lines : (Nat → Int32)) (x1_goods : (Nat → Int32)) (x1_works : (Nat → Int32)) (x1_change : (Nat → Int32)) (x1_coin : (Nat → Int32)) (x1_knownFree : (Nat → Int32)) (x1_isKnown : Int32) => (fX3_next n (x0_bytes, x0_size, x0_start, x0_end, x0_token, x0_value)).bind (u4 fun g1 g2 g3 g4 => (fX3_number n (x0_bytes, x0_size, g1, g2, g3, g4) (0) (11)).bind (u5 fun v6 g7 g8 g9 g10 => if v6 = (-1) then (fX3_readChange_j28 x1_lineCount x1_goodsCount x1_workCount x1_years x1_lines x1_goods x1_works x1_change x1_coin x1_knownFree x1_isKnown v6 g7 g8 g9 g10 (-1)) else ((fX3_number n (x0_bytes, x0_size, g7, g8, g9, g10) (0) (99)).bind (u5 fun v20 g21 g22 g23 g24 => fX3_readChange_j28 x1_lineCount x1_goodsCount x1_workCount x1_years x1_lines x1_goods x1_works x1_change x1_coin x1_knownFree x1_isKnown v6 g21 g22 g23 g24 v20))))) X1) X0
set_option maxHeartbeats 4000000 in
set_option maxRecDepth 100000 in
theorem kX3_readChange (l : Launch) (d : DT) (h0 : Nat → Nat) (h1 : Nat → Nat) (n : Nat) (x0_bytes : (Nat → Int32)) (x0_size : Int32) (x0_start : Int32) (x0_end : Int32) (x0_token : Int32) (x0_value : Int32) (x1_lineCount : Int32) (x1_goodsCount : Int32) (x1_workCount : Int32) (x1_years : Int32) (x1_lines : (Nat → Int32)) (x1_goods : (Nat → Int32)) (x1_works : (Nat → Int32)) (x1_change : (Nat → Int32)) (x1_coin : (Nat → Int32)) (x1_knownFree : (Nat → Int32)) (x1_isKnown : Int32)  {out : Int32 × Int32 × Int32 × Int32 × Int32 × (Nat → Int32) × Int32} (hf : fX3_readChange n (x0_bytes, x0_size, x0_start, x0_end, x0_token, x0_value) (x1_lineCount, x1_goodsCount, x1_workCount, x1_years, x1_lines, x1_goods, x1_works, x1_change, x1_coin, x1_knownFree, x1_isKnown) = some out) : Ct l d yX3_readChange cX3_readChange 4 (some .boolean) { frames := 3, cells := 0, slots := 0, locals := 66 } [.ref (h0 0), .ref (h1 0)] [gTp d h0 x0_bytes x0_size x0_start x0_end x0_token x0_value, gLd d h1 x1_lineCount x1_goodsCount x1_workCount x1_years x1_lines x1_goods x1_works x1_change x1_coin x1_knownFree x1_isKnown] (fun _ : Unit => (some (.int out.1), [gTp d h0 x0_bytes x0_size (out.2.1) (out.2.2.1) (out.2.2.2.1) (out.2.2.2.2.1), gLd d h1 x1_lineCount x1_goodsCount x1_workCount x1_years x1_lines x1_goods x1_works (out.2.2.2.2.2.1) x1_coin x1_knownFree (out.2.2.2.2.2.2)])) := by
  refine Ct.of (by decide) (Nat.le_of_ble_eq_true rfl) ?_
  intro Φ hl hK hR
  subst hl
  have hK : Ok d Φ RX3 "readChange" cX3_readChange 4 (some .boolean) { frames := 3, cells := 0, slots := 0, locals := 66 } := hK
  unfold fX3_readChange at hf
  have hf := un6 hf
  have hf := un11 hf
  show J d Φ 4 [gTp d h0 x0_bytes x0_size x0_start x0_end x0_token x0_value, gLd d h1 x1_lineCount x1_goodsCount x1_workCount x1_years x1_lines x1_goods x1_works x1_change x1_coin x1_knownFree x1_isKnown] 0 0 0 [(0, .ref (h0 0)), (1, .ref (h1 0))] []
  refine J_aload_n hK dX3_readChange_0 rfl 0 rfl rfl ?_
  obtain ⟨⟨g1, g2, g3, g4⟩, e5, hf⟩ := bs hf
  have hf := un4 hf
  refine J_callV (m' := 2) (ce' := 0) (sl' := 0) (gr := [gLd d h1 x1_lineCount x1_goodsCount x1_workCount x1_years x1_lines x1_goods x1_works x1_change x1_coin x1_knownFree x1_isKnown]) (gs' := fun _ => [gTp d h0 x0_bytes x0_size g1 g2 g3 g4, gLd d h1 x1_lineCount x1_goodsCount x1_workCount x1_years x1_lines x1_goods x1_works x1_change x1_coin x1_knownFree x1_isKnown]) (st' := fun _ => []) (st := []) hK dX3_readChange_1 cv_RX3_22 iv_yX3_next (As := []) (kX3_next _ d h0 n x0_bytes x0_size x0_start x0_end x0_token x0_value e5) rfl rfl (Nat.le_of_ble_eq_true rfl) (by decide) 0 0 rfl rfl rfl [0] [1] rfl rfl rfl rfl [1, 0] rfl (fun _ => rfl) (fun _ => rfl) rfl rfl rfl (fun _ => rfl) (fun _ => ?_)
  refine J_aload_n hK dX3_readChange_4 rfl 0 rfl rfl ?_
  refine J_iconst (v := 0) hK dX3_readChange_5 rfl (by decide) ?_
  refine J_bipush (v := 11) hK dX3_readChange_6 rfl (by decide) ?_
  obtain ⟨⟨v6, g7, g8, g9, g10⟩, e11, hf⟩ := bs hf
  have hf := un5 hf
  refine J_callV (m' := 2) (ce' := 0) (sl' := 0) (gr := [gLd d h1 x1_lineCount x1_goodsCount x1_workCount x1_years x1_lines x1_goods x1_works x1_change x1_coin x1_knownFree x1_isKnown]) (gs' := fun _ => [gTp d h0 x0_bytes x0_size g7 g8 g9 g10, gLd d h1 x1_lineCount x1_goodsCount x1_workCount x1_years x1_lines x1_goods x1_works x1_change x1_coin x1_knownFree x1_isKnown]) (st' := fun _ => [.int v6]) (st := []) hK dX3_readChange_8 cv_RX3_80 iv_yX3_number (As := [.int (0), .int (11)]) (kX3_number _ d h0 n x0_bytes x0_size g1 g2 g3 g4 (0) (11) e11) rfl rfl (Nat.le_of_ble_eq_true rfl) (by decide) 0 0 rfl rfl rfl [0] [1] rfl rfl rfl rfl [1, 0] rfl (fun _ => rfl) (fun _ => rfl) rfl rfl rfl (fun _ => rfl) (fun _ => ?_)
  refine J_istore_n (L' := [(2, .int v6), (0, .ref (h0 0)), (1, .ref (h1 0))]) hK dX3_readChange_11 rfl rfl (by decide) rfl ?_
  refine J_iload_n hK dX3_readChange_12 rfl 0 rfl rfl ?_
  refine J_iconst (v := (-1)) hK dX3_readChange_13 rfl (by decide) ?_
  have j28 : ∀ (x12 : Int32) (x13 : Int32) (x14 : Int32) (x15 : Int32) (y16 : Int32), fX3_readChange_j28 x1_lineCount x1_goodsCount x1_workCount x1_years x1_lines x1_goods x1_works x1_change x1_coin x1_knownFree x1_isKnown v6 x12 x13 x14 x15 y16 = some out → J d Φ 4 [gTp d h0 x0_bytes x0_size x12 x13 x14 x15, gLd d h1 x1_lineCount x1_goodsCount x1_workCount x1_years x1_lines x1_goods x1_works x1_change x1_coin x1_knownFree x1_isKnown] 0 0 28 [(1, .ref (h1 0)), (2, .int v6)] [.int y16] := by
    intro x12 x13 x14 x15 y16 hf
    unfold fX3_readChange_j28 at hf
    refine J_istore_n (L' := [(3, .int y16), (1, .ref (h1 0)), (2, .int v6)]) hK dX3_readChange_28 rfl rfl (by decide) rfl ?_
    refine J_iload_n hK dX3_readChange_29 rfl 0 rfl rfl ?_
    refine J_iconst (v := (-1)) hK dX3_readChange_30 rfl (by decide) ?_
    refine J_icmp_ne (tg := 36) hK dX3_readChange_31 rfl rfl (fun hc31 => ?_) (fun hc31 => ?_)
    · have hf := iq hc31 hf
      refine J_aload_n hK dX3_readChange_36 rfl 1 rfl rfl ?_
      refine J_iload_n hK dX3_readChange_37 rfl 2 rfl rfl ?_
      refine J_iload_n hK dX3_readChange_38 rfl 0 rfl rfl ?_
      obtain ⟨⟨g17, g18⟩, e19, hf⟩ := bs hf
      have hf := un2 hf
      refine J_callV (m' := 2) (ce' := 0) (sl' := 0) (gr := [gTp d h0 x0_bytes x0_size x12 x13 x14 x15]) (gs' := fun _ => [gTp d h0 x0_bytes x0_size x12 x13 x14 x15, gLd d h1 x1_lineCount x1_goodsCount x1_workCount x1_years x1_lines x1_goods x1_works g17 x1_coin x1_knownFree g18]) (st' := fun _ => []) (st := []) hK dX3_readChange_39 cv_RX3_122 iv_yX1_putChange (As := [.int v6, .int y16]) (kX1_putChange _ d h1 x1_lineCount x1_goodsCount x1_workCount x1_years x1_lines x1_goods x1_works x1_change x1_coin x1_knownFree x1_isKnown v6 y16 e19) rfl rfl (Nat.le_of_ble_eq_true rfl) (by decide) 1 0 rfl rfl rfl [1] [0] rfl rfl rfl rfl [0, 1] rfl (fun _ => rfl) (fun _ => rfl) rfl rfl rfl (fun _ => rfl) (fun _ => ?_)
      refine J_iconst (v := 1) hK dX3_readChange_42 rfl (by decide) ?_
      obtain rfl := Option.some.inj hf
      exact J_zret hK hR dX3_readChange_43 () rfl rfl (by decide) (by decide)
    · have hf := ip hc31 hf
      refine J_iconst (v := 0) hK dX3_readChange_34 rfl (by decide) ?_
      obtain rfl := Option.some.inj hf
      exact J_zret hK hR dX3_readChange_35 () rfl rfl (by decide) (by decide)
  refine J_icmp_ne (tg := 21) hK dX3_readChange_14 rfl rfl (fun hc14 => ?_) (fun hc14 => ?_)
  · have hf := iq hc14 hf
    refine J_aload_n hK dX3_readChange_21 rfl 1 rfl rfl ?_
    refine J_iconst (v := 0) hK dX3_readChange_22 rfl (by decide) ?_
    refine J_bipush (v := 99) hK dX3_readChange_23 rfl (by decide) ?_
    obtain ⟨⟨v20, g21, g22, g23, g24⟩, e25, hf⟩ := bs hf
    have hf := un5 hf
    refine J_callV (m' := 2) (ce' := 0) (sl' := 0) (gr := [gLd d h1 x1_lineCount x1_goodsCount x1_workCount x1_years x1_lines x1_goods x1_works x1_change x1_coin x1_knownFree x1_isKnown]) (gs' := fun _ => [gTp d h0 x0_bytes x0_size g21 g22 g23 g24, gLd d h1 x1_lineCount x1_goodsCount x1_workCount x1_years x1_lines x1_goods x1_works x1_change x1_coin x1_knownFree x1_isKnown]) (st' := fun _ => [.int v20]) (st := []) hK dX3_readChange_25 cv_RX3_80 iv_yX3_number (As := [.int (0), .int (99)]) (kX3_number _ d h0 n x0_bytes x0_size g7 g8 g9 g10 (0) (99) e25) rfl rfl (Nat.le_of_ble_eq_true rfl) (by decide) 0 0 rfl rfl rfl [0] [1] rfl rfl rfl rfl [1, 0] rfl (fun _ => rfl) (fun _ => rfl) rfl rfl rfl (fun _ => rfl) (fun _ => ?_)
    exact J_loc [2, 0] rfl (j28 g21 g22 g23 g24 v20 hf)
  · have hf := ip hc14 hf
    refine J_iconst (v := (-1)) hK dX3_readChange_17 rfl (by decide) ?_
    refine J_goto hK dX3_readChange_18 (n := 28) rfl ?_
    exact J_loc [2, 0] rfl (j28 g7 g8 g9 g10 (-1) hf)

def fX3_readCoin_j27 (x1_lineCount : Int32) (x1_goodsCount : Int32) (x1_workCount : Int32) (x1_years : Int32) (x1_lines : (Nat → Int32)) (x1_goods : (Nat → Int32)) (x1_works : (Nat → Int32)) (x1_change : (Nat → Int32)) (x1_coin : (Nat → Int32)) (x1_knownFree : (Nat → Int32)) (x1_isKnown : Int32) (v6 : Int32) (x12 : Int32) (x13 : Int32) (x14 : Int32) (x15 : Int32) (y16 : Int32) : Option (Int32 × Int32 × Int32 × Int32 × Int32 × (Nat → Int32) × Int32) :=
  if y16 = (-1) then (some (0, x12, x13, x14, x15, x1_coin, x1_isKnown)) else ((fX1_putCoin (x1_lineCount, x1_goodsCount, x1_workCount, x1_years, x1_lines, x1_goods, x1_works, x1_change, x1_coin, x1_knownFree, x1_isKnown) v6 y16).bind (u2 fun g17 g18 => some (1, x12, x13, x14, x15, g17, g18)))
def fX3_readCoin (n : Nat) (X0 : TpT) (X1 : LdT) : Option (Int32 × Int32 × Int32 × Int32 × Int32 × (Nat → Int32) × Int32) :=
  u6 (fun (x0_bytes : (Nat → Int32)) (x0_size : Int32) (x0_start : Int32) (x0_end : Int32) (x0_token : Int32) (x0_value : Int32) => u11 (fun (x1_lineCount : Int32) (x1_goodsCount : Int32) (x1_workCount : Int32) (x1_years : Int32) (x1_lines : (Nat → Int32)) (x1_goods : (Nat → Int32)) (x1_works : (Nat → Int32)) (x1_change : (Nat → Int32)) (x1_coin : (Nat → Int32)) (x1_knownFree : (Nat → Int32)) (x1_isKnown : Int32) => (fX3_next n (x0_bytes, x0_size, x0_start, x0_end, x0_token, x0_value)).bind (u4 fun g1 g2 g3 g4 => (fX3_number n (x0_bytes, x0_size, g1, g2, g3, g4) (0) (2)).bind (u5 fun v6 g7 g8 g9 g10 => if v6 = (-1) then (fX3_readCoin_j27 x1_lineCount x1_goodsCount x1_workCount x1_years x1_lines x1_goods x1_works x1_change x1_coin x1_knownFree x1_isKnown v6 g7 g8 g9 g10 (-1)) else ((fX3_number n (x0_bytes, x0_size, g7, g8, g9, g10) (0) (9)).bind (u5 fun v20 g21 g22 g23 g24 => fX3_readCoin_j27 x1_lineCount x1_goodsCount x1_workCount x1_years x1_lines x1_goods x1_works x1_change x1_coin x1_knownFree x1_isKnown v6 g21 g22 g23 g24 v20))))) X1) X0
set_option maxHeartbeats 4000000 in
set_option maxRecDepth 100000 in
theorem kX3_readCoin (l : Launch) (d : DT) (h0 : Nat → Nat) (h1 : Nat → Nat) (n : Nat) (x0_bytes : (Nat → Int32)) (x0_size : Int32) (x0_start : Int32) (x0_end : Int32) (x0_token : Int32) (x0_value : Int32) (x1_lineCount : Int32) (x1_goodsCount : Int32) (x1_workCount : Int32) (x1_years : Int32) (x1_lines : (Nat → Int32)) (x1_goods : (Nat → Int32)) (x1_works : (Nat → Int32)) (x1_change : (Nat → Int32)) (x1_coin : (Nat → Int32)) (x1_knownFree : (Nat → Int32)) (x1_isKnown : Int32)  {out : Int32 × Int32 × Int32 × Int32 × Int32 × (Nat → Int32) × Int32} (hf : fX3_readCoin n (x0_bytes, x0_size, x0_start, x0_end, x0_token, x0_value) (x1_lineCount, x1_goodsCount, x1_workCount, x1_years, x1_lines, x1_goods, x1_works, x1_change, x1_coin, x1_knownFree, x1_isKnown) = some out) : Ct l d yX3_readCoin cX3_readCoin 4 (some .boolean) { frames := 3, cells := 0, slots := 0, locals := 66 } [.ref (h0 0), .ref (h1 0)] [gTp d h0 x0_bytes x0_size x0_start x0_end x0_token x0_value, gLd d h1 x1_lineCount x1_goodsCount x1_workCount x1_years x1_lines x1_goods x1_works x1_change x1_coin x1_knownFree x1_isKnown] (fun _ : Unit => (some (.int out.1), [gTp d h0 x0_bytes x0_size (out.2.1) (out.2.2.1) (out.2.2.2.1) (out.2.2.2.2.1), gLd d h1 x1_lineCount x1_goodsCount x1_workCount x1_years x1_lines x1_goods x1_works x1_change (out.2.2.2.2.2.1) x1_knownFree (out.2.2.2.2.2.2)])) := by
  refine Ct.of (by decide) (Nat.le_of_ble_eq_true rfl) ?_
  intro Φ hl hK hR
  subst hl
  have hK : Ok d Φ RX3 "readCoin" cX3_readCoin 4 (some .boolean) { frames := 3, cells := 0, slots := 0, locals := 66 } := hK
  unfold fX3_readCoin at hf
  have hf := un6 hf
  have hf := un11 hf
  show J d Φ 4 [gTp d h0 x0_bytes x0_size x0_start x0_end x0_token x0_value, gLd d h1 x1_lineCount x1_goodsCount x1_workCount x1_years x1_lines x1_goods x1_works x1_change x1_coin x1_knownFree x1_isKnown] 0 0 0 [(0, .ref (h0 0)), (1, .ref (h1 0))] []
  refine J_aload_n hK dX3_readCoin_0 rfl 0 rfl rfl ?_
  obtain ⟨⟨g1, g2, g3, g4⟩, e5, hf⟩ := bs hf
  have hf := un4 hf
  refine J_callV (m' := 2) (ce' := 0) (sl' := 0) (gr := [gLd d h1 x1_lineCount x1_goodsCount x1_workCount x1_years x1_lines x1_goods x1_works x1_change x1_coin x1_knownFree x1_isKnown]) (gs' := fun _ => [gTp d h0 x0_bytes x0_size g1 g2 g3 g4, gLd d h1 x1_lineCount x1_goodsCount x1_workCount x1_years x1_lines x1_goods x1_works x1_change x1_coin x1_knownFree x1_isKnown]) (st' := fun _ => []) (st := []) hK dX3_readCoin_1 cv_RX3_22 iv_yX3_next (As := []) (kX3_next _ d h0 n x0_bytes x0_size x0_start x0_end x0_token x0_value e5) rfl rfl (Nat.le_of_ble_eq_true rfl) (by decide) 0 0 rfl rfl rfl [0] [1] rfl rfl rfl rfl [1, 0] rfl (fun _ => rfl) (fun _ => rfl) rfl rfl rfl (fun _ => rfl) (fun _ => ?_)
  refine J_aload_n hK dX3_readCoin_4 rfl 0 rfl rfl ?_
  refine J_iconst (v := 0) hK dX3_readCoin_5 rfl (by decide) ?_
  refine J_iconst (v := 2) hK dX3_readCoin_6 rfl (by decide) ?_
  obtain ⟨⟨v6, g7, g8, g9, g10⟩, e11, hf⟩ := bs hf
  have hf := un5 hf
  refine J_callV (m' := 2) (ce' := 0) (sl' := 0) (gr := [gLd d h1 x1_lineCount x1_goodsCount x1_workCount x1_years x1_lines x1_goods x1_works x1_change x1_coin x1_knownFree x1_isKnown]) (gs' := fun _ => [gTp d h0 x0_bytes x0_size g7 g8 g9 g10, gLd d h1 x1_lineCount x1_goodsCount x1_workCount x1_years x1_lines x1_goods x1_works x1_change x1_coin x1_knownFree x1_isKnown]) (st' := fun _ => [.int v6]) (st := []) hK dX3_readCoin_7 cv_RX3_80 iv_yX3_number (As := [.int (0), .int (2)]) (kX3_number _ d h0 n x0_bytes x0_size g1 g2 g3 g4 (0) (2) e11) rfl rfl (Nat.le_of_ble_eq_true rfl) (by decide) 0 0 rfl rfl rfl [0] [1] rfl rfl rfl rfl [1, 0] rfl (fun _ => rfl) (fun _ => rfl) rfl rfl rfl (fun _ => rfl) (fun _ => ?_)
  refine J_istore_n (L' := [(2, .int v6), (0, .ref (h0 0)), (1, .ref (h1 0))]) hK dX3_readCoin_10 rfl rfl (by decide) rfl ?_
  refine J_iload_n hK dX3_readCoin_11 rfl 0 rfl rfl ?_
  refine J_iconst (v := (-1)) hK dX3_readCoin_12 rfl (by decide) ?_
  have j27 : ∀ (x12 : Int32) (x13 : Int32) (x14 : Int32) (x15 : Int32) (y16 : Int32), fX3_readCoin_j27 x1_lineCount x1_goodsCount x1_workCount x1_years x1_lines x1_goods x1_works x1_change x1_coin x1_knownFree x1_isKnown v6 x12 x13 x14 x15 y16 = some out → J d Φ 4 [gTp d h0 x0_bytes x0_size x12 x13 x14 x15, gLd d h1 x1_lineCount x1_goodsCount x1_workCount x1_years x1_lines x1_goods x1_works x1_change x1_coin x1_knownFree x1_isKnown] 0 0 27 [(1, .ref (h1 0)), (2, .int v6)] [.int y16] := by
    intro x12 x13 x14 x15 y16 hf
    unfold fX3_readCoin_j27 at hf
    refine J_istore_n (L' := [(3, .int y16), (1, .ref (h1 0)), (2, .int v6)]) hK dX3_readCoin_27 rfl rfl (by decide) rfl ?_
    refine J_iload_n hK dX3_readCoin_28 rfl 0 rfl rfl ?_
    refine J_iconst (v := (-1)) hK dX3_readCoin_29 rfl (by decide) ?_
    refine J_icmp_ne (tg := 35) hK dX3_readCoin_30 rfl rfl (fun hc30 => ?_) (fun hc30 => ?_)
    · have hf := iq hc30 hf
      refine J_aload_n hK dX3_readCoin_35 rfl 1 rfl rfl ?_
      refine J_iload_n hK dX3_readCoin_36 rfl 2 rfl rfl ?_
      refine J_iload_n hK dX3_readCoin_37 rfl 0 rfl rfl ?_
      obtain ⟨⟨g17, g18⟩, e19, hf⟩ := bs hf
      have hf := un2 hf
      refine J_callV (m' := 2) (ce' := 0) (sl' := 0) (gr := [gTp d h0 x0_bytes x0_size x12 x13 x14 x15]) (gs' := fun _ => [gTp d h0 x0_bytes x0_size x12 x13 x14 x15, gLd d h1 x1_lineCount x1_goodsCount x1_workCount x1_years x1_lines x1_goods x1_works x1_change g17 x1_knownFree g18]) (st' := fun _ => []) (st := []) hK dX3_readCoin_38 cv_RX3_126 iv_yX1_putCoin (As := [.int v6, .int y16]) (kX1_putCoin _ d h1 x1_lineCount x1_goodsCount x1_workCount x1_years x1_lines x1_goods x1_works x1_change x1_coin x1_knownFree x1_isKnown v6 y16 e19) rfl rfl (Nat.le_of_ble_eq_true rfl) (by decide) 1 0 rfl rfl rfl [1] [0] rfl rfl rfl rfl [0, 1] rfl (fun _ => rfl) (fun _ => rfl) rfl rfl rfl (fun _ => rfl) (fun _ => ?_)
      refine J_iconst (v := 1) hK dX3_readCoin_41 rfl (by decide) ?_
      obtain rfl := Option.some.inj hf
      exact J_zret hK hR dX3_readCoin_42 () rfl rfl (by decide) (by decide)
    · have hf := ip hc30 hf
      refine J_iconst (v := 0) hK dX3_readCoin_33 rfl (by decide) ?_
      obtain rfl := Option.some.inj hf
      exact J_zret hK hR dX3_readCoin_34 () rfl rfl (by decide) (by decide)
  refine J_icmp_ne (tg := 20) hK dX3_readCoin_13 rfl rfl (fun hc13 => ?_) (fun hc13 => ?_)
  · have hf := iq hc13 hf
    refine J_aload_n hK dX3_readCoin_20 rfl 1 rfl rfl ?_
    refine J_iconst (v := 0) hK dX3_readCoin_21 rfl (by decide) ?_
    refine J_bipush (v := 9) hK dX3_readCoin_22 rfl (by decide) ?_
    obtain ⟨⟨v20, g21, g22, g23, g24⟩, e25, hf⟩ := bs hf
    have hf := un5 hf
    refine J_callV (m' := 2) (ce' := 0) (sl' := 0) (gr := [gLd d h1 x1_lineCount x1_goodsCount x1_workCount x1_years x1_lines x1_goods x1_works x1_change x1_coin x1_knownFree x1_isKnown]) (gs' := fun _ => [gTp d h0 x0_bytes x0_size g21 g22 g23 g24, gLd d h1 x1_lineCount x1_goodsCount x1_workCount x1_years x1_lines x1_goods x1_works x1_change x1_coin x1_knownFree x1_isKnown]) (st' := fun _ => [.int v20]) (st := []) hK dX3_readCoin_24 cv_RX3_80 iv_yX3_number (As := [.int (0), .int (9)]) (kX3_number _ d h0 n x0_bytes x0_size g7 g8 g9 g10 (0) (9) e25) rfl rfl (Nat.le_of_ble_eq_true rfl) (by decide) 0 0 rfl rfl rfl [0] [1] rfl rfl rfl rfl [1, 0] rfl (fun _ => rfl) (fun _ => rfl) rfl rfl rfl (fun _ => rfl) (fun _ => ?_)
    exact J_loc [2, 0] rfl (j27 g21 g22 g23 g24 v20 hf)
  · have hf := ip hc13 hf
    refine J_iconst (v := (-1)) hK dX3_readCoin_16 rfl (by decide) ?_
    refine J_goto hK dX3_readCoin_17 (n := 27) rfl ?_
    exact J_loc [2, 0] rfl (j27 g7 g8 g9 g10 (-1) hf)

def fX3_readYears (n : Nat) (X0 : TpT) (X1 : LdT) : Option (Int32 × Int32 × Int32 × Int32 × Int32 × Int32) :=
  u6 (fun (x0_bytes : (Nat → Int32)) (x0_size : Int32) (x0_start : Int32) (x0_end : Int32) (x0_token : Int32) (x0_value : Int32) => u11 (fun (x1_lineCount : Int32) (x1_goodsCount : Int32) (x1_workCount : Int32) (x1_years : Int32) (x1_lines : (Nat → Int32)) (x1_goods : (Nat → Int32)) (x1_works : (Nat → Int32)) (x1_change : (Nat → Int32)) (x1_coin : (Nat → Int32)) (x1_knownFree : (Nat → Int32)) (x1_isKnown : Int32) => (fX3_next n (x0_bytes, x0_size, x0_start, x0_end, x0_token, x0_value)).bind (u4 fun g1 g2 g3 g4 => (fX3_number n (x0_bytes, x0_size, g1, g2, g3, g4) (1) (30)).bind (u5 fun v6 g7 g8 g9 g10 => if v6 = (-1) then (some (0, g7, g8, g9, g10, x1_years)) else (some (1, g7, g8, g9, g10, v6))))) X1) X0
set_option maxHeartbeats 4000000 in
set_option maxRecDepth 100000 in
theorem kX3_readYears (l : Launch) (d : DT) (h0 : Nat → Nat) (h1 : Nat → Nat) (n : Nat) (x0_bytes : (Nat → Int32)) (x0_size : Int32) (x0_start : Int32) (x0_end : Int32) (x0_token : Int32) (x0_value : Int32) (x1_lineCount : Int32) (x1_goodsCount : Int32) (x1_workCount : Int32) (x1_years : Int32) (x1_lines : (Nat → Int32)) (x1_goods : (Nat → Int32)) (x1_works : (Nat → Int32)) (x1_change : (Nat → Int32)) (x1_coin : (Nat → Int32)) (x1_knownFree : (Nat → Int32)) (x1_isKnown : Int32)  {out : Int32 × Int32 × Int32 × Int32 × Int32 × Int32} (hf : fX3_readYears n (x0_bytes, x0_size, x0_start, x0_end, x0_token, x0_value) (x1_lineCount, x1_goodsCount, x1_workCount, x1_years, x1_lines, x1_goods, x1_works, x1_change, x1_coin, x1_knownFree, x1_isKnown) = some out) : Ct l d yX3_readYears cX3_readYears 3 (some .boolean) { frames := 3, cells := 0, slots := 0, locals := 66 } [.ref (h0 0), .ref (h1 0)] [gTp d h0 x0_bytes x0_size x0_start x0_end x0_token x0_value, gLd d h1 x1_lineCount x1_goodsCount x1_workCount x1_years x1_lines x1_goods x1_works x1_change x1_coin x1_knownFree x1_isKnown] (fun _ : Unit => (some (.int out.1), [gTp d h0 x0_bytes x0_size (out.2.1) (out.2.2.1) (out.2.2.2.1) (out.2.2.2.2.1), gLd d h1 x1_lineCount x1_goodsCount x1_workCount (out.2.2.2.2.2) x1_lines x1_goods x1_works x1_change x1_coin x1_knownFree x1_isKnown])) := by
  refine Ct.of (by decide) (Nat.le_of_ble_eq_true rfl) ?_
  intro Φ hl hK hR
  subst hl
  have hK : Ok d Φ RX3 "readYears" cX3_readYears 3 (some .boolean) { frames := 3, cells := 0, slots := 0, locals := 66 } := hK
  unfold fX3_readYears at hf
  have hf := un6 hf
  have hf := un11 hf
  show J d Φ 3 [gTp d h0 x0_bytes x0_size x0_start x0_end x0_token x0_value, gLd d h1 x1_lineCount x1_goodsCount x1_workCount x1_years x1_lines x1_goods x1_works x1_change x1_coin x1_knownFree x1_isKnown] 0 0 0 [(0, .ref (h0 0)), (1, .ref (h1 0))] []
  refine J_aload_n hK dX3_readYears_0 rfl 0 rfl rfl ?_
  obtain ⟨⟨g1, g2, g3, g4⟩, e5, hf⟩ := bs hf
  have hf := un4 hf
  refine J_callV (m' := 2) (ce' := 0) (sl' := 0) (gr := [gLd d h1 x1_lineCount x1_goodsCount x1_workCount x1_years x1_lines x1_goods x1_works x1_change x1_coin x1_knownFree x1_isKnown]) (gs' := fun _ => [gTp d h0 x0_bytes x0_size g1 g2 g3 g4, gLd d h1 x1_lineCount x1_goodsCount x1_workCount x1_years x1_lines x1_goods x1_works x1_change x1_coin x1_knownFree x1_isKnown]) (st' := fun _ => []) (st := []) hK dX3_readYears_1 cv_RX3_22 iv_yX3_next (As := []) (kX3_next _ d h0 n x0_bytes x0_size x0_start x0_end x0_token x0_value e5) rfl rfl (Nat.le_of_ble_eq_true rfl) (by decide) 0 0 rfl rfl rfl [0] [1] rfl rfl rfl rfl [1, 0] rfl (fun _ => rfl) (fun _ => rfl) rfl rfl rfl (fun _ => rfl) (fun _ => ?_)
  refine J_aload_n hK dX3_readYears_4 rfl 0 rfl rfl ?_
  refine J_iconst (v := 1) hK dX3_readYears_5 rfl (by decide) ?_
  refine J_bipush (v := 30) hK dX3_readYears_6 rfl (by decide) ?_
  obtain ⟨⟨v6, g7, g8, g9, g10⟩, e11, hf⟩ := bs hf
  have hf := un5 hf
  refine J_callV (m' := 2) (ce' := 0) (sl' := 0) (gr := [gLd d h1 x1_lineCount x1_goodsCount x1_workCount x1_years x1_lines x1_goods x1_works x1_change x1_coin x1_knownFree x1_isKnown]) (gs' := fun _ => [gTp d h0 x0_bytes x0_size g7 g8 g9 g10, gLd d h1 x1_lineCount x1_goodsCount x1_workCount x1_years x1_lines x1_goods x1_works x1_change x1_coin x1_knownFree x1_isKnown]) (st' := fun _ => [.int v6]) (st := []) hK dX3_readYears_8 cv_RX3_80 iv_yX3_number (As := [.int (1), .int (30)]) (kX3_number _ d h0 n x0_bytes x0_size g1 g2 g3 g4 (1) (30) e11) rfl rfl (Nat.le_of_ble_eq_true rfl) (by decide) 0 0 rfl rfl rfl [0] [1] rfl rfl rfl rfl [1, 0] rfl (fun _ => rfl) (fun _ => rfl) rfl rfl rfl (fun _ => rfl) (fun _ => ?_)
  refine J_istore_n (L' := [(2, .int v6), (0, .ref (h0 0)), (1, .ref (h1 0))]) hK dX3_readYears_11 rfl rfl (by decide) rfl ?_
  refine J_iload_n hK dX3_readYears_12 rfl 0 rfl rfl ?_
  refine J_iconst (v := (-1)) hK dX3_readYears_13 rfl (by decide) ?_
  refine J_icmp_ne (tg := 19) hK dX3_readYears_14 rfl rfl (fun hc14 => ?_) (fun hc14 => ?_)
  · have hf := iq hc14 hf
    refine J_aload_n hK dX3_readYears_19 rfl 2 rfl rfl ?_
    refine J_iload_n hK dX3_readYears_20 rfl 0 rfl rfl ?_
    refine J_put (g' := gLd d h1 x1_lineCount x1_goodsCount x1_workCount v6 x1_lines x1_goods x1_works x1_change x1_coin x1_knownFree x1_isKnown) (gs' := [gTp d h0 x0_bytes x0_size g7 g8 g9 g10, gLd d h1 x1_lineCount x1_goodsCount x1_workCount v6 x1_lines x1_goods x1_works x1_change x1_coin x1_knownFree x1_isKnown]) hK fp_RX3_129 dX3_readYears_21 rfl 1 0 rfl rfl rfl rfl (Nat.le_of_ble_eq_true rfl) rfl rfl ?_
    refine J_iconst (v := 1) hK dX3_readYears_24 rfl (by decide) ?_
    obtain rfl := Option.some.inj hf
    exact J_zret hK hR dX3_readYears_25 () rfl rfl (by decide) (by decide)
  · have hf := ip hc14 hf
    refine J_iconst (v := 0) hK dX3_readYears_17 rfl (by decide) ?_
    obtain rfl := Option.some.inj hf
    exact J_zret hK hR dX3_readYears_18 () rfl rfl (by decide) (by decide)

def fX3_readStatement (n : Nat) (X0 : TpT) (X1 : LdT) : Option (Int32 × Int32 × Int32 × Int32 × Int32 × (Int32 × Int32 × Int32 × Int32 × (Nat → Int32) × (Nat → Int32) × (Nat → Int32) × (Nat → Int32) × (Nat → Int32) × Int32)) :=
  u6 (fun (x0_bytes : (Nat → Int32)) (x0_size : Int32) (x0_start : Int32) (x0_end : Int32) (x0_token : Int32) (x0_value : Int32) => u11 (fun (x1_lineCount : Int32) (x1_goodsCount : Int32) (x1_workCount : Int32) (x1_years : Int32) (x1_lines : (Nat → Int32)) (x1_goods : (Nat → Int32)) (x1_works : (Nat → Int32)) (x1_change : (Nat → Int32)) (x1_coin : (Nat → Int32)) (x1_knownFree : (Nat → Int32)) (x1_isKnown : Int32) => (fX3_isWord n (x0_bytes, x0_size, x0_start, x0_end, x0_token, x0_value) 0).bind (fun v1 => if v1 = 0 then ((fX3_isWord n (x0_bytes, x0_size, x0_start, x0_end, x0_token, x0_value) 5).bind (fun v3 => if v3 = 0 then ((fX3_isWord n (x0_bytes, x0_size, x0_start, x0_end, x0_token, x0_value) 6).bind (fun v5 => if v5 = 0 then ((fX3_isWord n (x0_bytes, x0_size, x0_start, x0_end, x0_token, x0_value) 7).bind (fun v7 => if v7 = 0 then ((fX3_isWord n (x0_bytes, x0_size, x0_start, x0_end, x0_token, x0_value) 8).bind (fun v9 => if v9 = 0 then ((fX3_isWord n (x0_bytes, x0_size, x0_start, x0_end, x0_token, x0_value) 9).bind (fun v11 => if v11 = 0 then (some (0, x0_start, x0_end, x0_token, x0_value, (x1_lineCount, x1_goodsCount, x1_workCount, x1_years, x1_lines, x1_goods, x1_works, x1_change, x1_coin, x1_isKnown))) else ((fX3_readYears n (x0_bytes, x0_size, x0_start, x0_end, x0_token, x0_value) (x1_lineCount, x1_goodsCount, x1_workCount, x1_years, x1_lines, x1_goods, x1_works, x1_change, x1_coin, x1_knownFree, x1_isKnown)).bind (u6 fun v13 g14 g15 g16 g17 g18 => if v13 = 0 then (some (0, g14, g15, g16, g17, (x1_lineCount, x1_goodsCount, x1_workCount, g18, x1_lines, x1_goods, x1_works, x1_change, x1_coin, x1_isKnown))) else (some (1, g14, g15, g16, g17, (x1_lineCount, x1_goodsCount, x1_workCount, g18, x1_lines, x1_goods, x1_works, x1_change, x1_coin, x1_isKnown))))))) else ((fX3_readCoin n (x0_bytes, x0_size, x0_start, x0_end, x0_token, x0_value) (x1_lineCount, x1_goodsCount, x1_workCount, x1_years, x1_lines, x1_goods, x1_works, x1_change, x1_coin, x1_knownFree, x1_isKnown)).bind (u7 fun v20 g21 g22 g23 g24 g25 g26 => (zb v20).bind fun v28 => some (v28, g21, g22, g23, g24, (x1_lineCount, x1_goodsCount, x1_workCount, x1_years, x1_lines, x1_goods, x1_works, x1_change, g25, g26)))))) else ((fX3_readChange n (x0_bytes, x0_size, x0_start, x0_end, x0_token, x0_value) (x1_lineCount, x1_goodsCount, x1_workCount, x1_years, x1_lines, x1_goods, x1_works, x1_change, x1_coin, x1_knownFree, x1_isKnown)).bind (u7 fun v29 g30 g31 g32 g33 g34 g35 => (zb v29).bind fun v37 => some (v37, g30, g31, g32, g33, (x1_lineCount, x1_goodsCount, x1_workCount, x1_years, x1_lines, x1_goods, x1_works, g34, x1_coin, g35)))))) else (if 7 ≤ x1_workCount then (some (0, x0_start, x0_end, x0_token, x0_value, (x1_lineCount, x1_goodsCount, x1_workCount, x1_years, x1_lines, x1_goods, x1_works, x1_change, x1_coin, x1_isKnown))) else ((fX3_readWork n (x0_bytes, x0_size, x0_start, x0_end, x0_token, x0_value) (x1_lineCount, x1_goodsCount, x1_workCount, x1_years, x1_lines, x1_goods, x1_works, x1_change, x1_coin, x1_knownFree, x1_isKnown)).bind (u8 fun v38 g39 g40 g41 g42 g43 g44 g45 => if v38 = 0 then (some (0, g39, g40, g41, g42, (x1_lineCount, x1_goodsCount, g43, x1_years, x1_lines, x1_goods, g44, x1_change, x1_coin, g45))) else (some (1, g39, g40, g41, g42, (x1_lineCount, x1_goodsCount, g43, x1_years, x1_lines, x1_goods, g44, x1_change, x1_coin, g45)))))))) else (if 8 ≤ x1_goodsCount then (some (0, x0_start, x0_end, x0_token, x0_value, (x1_lineCount, x1_goodsCount, x1_workCount, x1_years, x1_lines, x1_goods, x1_works, x1_change, x1_coin, x1_isKnown))) else ((fX3_readGoods n (x0_bytes, x0_size, x0_start, x0_end, x0_token, x0_value) (x1_lineCount, x1_goodsCount, x1_workCount, x1_years, x1_lines, x1_goods, x1_works, x1_change, x1_coin, x1_knownFree, x1_isKnown)).bind (u8 fun v47 g48 g49 g50 g51 g52 g53 g54 => if v47 = 0 then (some (0, g48, g49, g50, g51, (x1_lineCount, g52, x1_workCount, x1_years, x1_lines, g53, x1_works, x1_change, x1_coin, g54))) else (some (1, g48, g49, g50, g51, (x1_lineCount, g52, x1_workCount, x1_years, x1_lines, g53, x1_works, x1_change, x1_coin, g54)))))))) else (if 20 ≤ x1_lineCount then (some (0, x0_start, x0_end, x0_token, x0_value, (x1_lineCount, x1_goodsCount, x1_workCount, x1_years, x1_lines, x1_goods, x1_works, x1_change, x1_coin, x1_isKnown))) else ((fX3_readLine n (x0_bytes, x0_size, x0_start, x0_end, x0_token, x0_value) (x1_lineCount, x1_goodsCount, x1_workCount, x1_years, x1_lines, x1_goods, x1_works, x1_change, x1_coin, x1_knownFree, x1_isKnown)).bind (u8 fun v56 g57 g58 g59 g60 g61 g62 g63 => if v56 = 0 then (some (0, g57, g58, g59, g60, (g61, x1_goodsCount, x1_workCount, x1_years, g62, x1_goods, x1_works, x1_change, x1_coin, g63))) else (some (1, g57, g58, g59, g60, (g61, x1_goodsCount, x1_workCount, x1_years, g62, x1_goods, x1_works, x1_change, x1_coin, g63)))))))) X1) X0
set_option maxHeartbeats 4000000 in
set_option maxRecDepth 100000 in
theorem kX3_readStatement (l : Launch) (d : DT) (h0 : Nat → Nat) (h1 : Nat → Nat) (n : Nat) (x0_bytes : (Nat → Int32)) (x0_size : Int32) (x0_start : Int32) (x0_end : Int32) (x0_token : Int32) (x0_value : Int32) (x1_lineCount : Int32) (x1_goodsCount : Int32) (x1_workCount : Int32) (x1_years : Int32) (x1_lines : (Nat → Int32)) (x1_goods : (Nat → Int32)) (x1_works : (Nat → Int32)) (x1_change : (Nat → Int32)) (x1_coin : (Nat → Int32)) (x1_knownFree : (Nat → Int32)) (x1_isKnown : Int32)  {out : Int32 × Int32 × Int32 × Int32 × Int32 × (Int32 × Int32 × Int32 × Int32 × (Nat → Int32) × (Nat → Int32) × (Nat → Int32) × (Nat → Int32) × (Nat → Int32) × Int32)} (hf : fX3_readStatement n (x0_bytes, x0_size, x0_start, x0_end, x0_token, x0_value) (x1_lineCount, x1_goodsCount, x1_workCount, x1_years, x1_lines, x1_goods, x1_works, x1_change, x1_coin, x1_knownFree, x1_isKnown) = some out) : Ct l d yX3_readStatement cX3_readStatement 2 (some .boolean) { frames := 7, cells := 0, slots := 0, locals := 158 } [.ref (h0 0), .ref (h1 0)] [gTp d h0 x0_bytes x0_size x0_start x0_end x0_token x0_value, gLd d h1 x1_lineCount x1_goodsCount x1_workCount x1_years x1_lines x1_goods x1_works x1_change x1_coin x1_knownFree x1_isKnown] (fun _ : Unit => (some (.int out.1), [gTp d h0 x0_bytes x0_size (out.2.1) (out.2.2.1) (out.2.2.2.1) (out.2.2.2.2.1), gLd d h1 (out.2.2.2.2.2.1) (out.2.2.2.2.2.2.1) (out.2.2.2.2.2.2.2.1) (out.2.2.2.2.2.2.2.2.1) (out.2.2.2.2.2.2.2.2.2.1) (out.2.2.2.2.2.2.2.2.2.2.1) (out.2.2.2.2.2.2.2.2.2.2.2.1) (out.2.2.2.2.2.2.2.2.2.2.2.2.1) (out.2.2.2.2.2.2.2.2.2.2.2.2.2.1) x1_knownFree (out.2.2.2.2.2.2.2.2.2.2.2.2.2.2)])) := by
  refine Ct.of (by decide) (Nat.le_of_ble_eq_true rfl) ?_
  intro Φ hl hK hR
  subst hl
  have hK : Ok d Φ RX3 "readStatement" cX3_readStatement 2 (some .boolean) { frames := 7, cells := 0, slots := 0, locals := 158 } := hK
  unfold fX3_readStatement at hf
  have hf := un6 hf
  have hf := un11 hf
  show J d Φ 2 [gTp d h0 x0_bytes x0_size x0_start x0_end x0_token x0_value, gLd d h1 x1_lineCount x1_goodsCount x1_workCount x1_years x1_lines x1_goods x1_works x1_change x1_coin x1_knownFree x1_isKnown] 0 0 0 [(0, .ref (h0 0)), (1, .ref (h1 0))] []
  refine J_aload_n hK dX3_readStatement_0 rfl 0 rfl rfl ?_
  refine J_str hK dX3_readStatement_1 rfl 0 rfl rfl rfl ?_
  obtain ⟨v1, e2, hf⟩ := bs hf
  refine J_callV (m' := 2) (ce' := 0) (sl' := 0) (gr := [gLd d h1 x1_lineCount x1_goodsCount x1_workCount x1_years x1_lines x1_goods x1_works x1_change x1_coin x1_knownFree x1_isKnown]) (gs' := fun _ => [gTp d h0 x0_bytes x0_size x0_start x0_end x0_token x0_value, gLd d h1 x1_lineCount x1_goodsCount x1_workCount x1_years x1_lines x1_goods x1_works x1_change x1_coin x1_knownFree x1_isKnown]) (st' := fun _ => [.int v1]) (st := []) hK dX3_readStatement_3 cv_RX3_37 iv_yX3_isWord (As := [.ref (d.2.2.2.1 0)]) (kX3_isWord _ d h0 n x0_bytes x0_size x0_start x0_end x0_token x0_value 0 e2) rfl rfl (Nat.le_of_ble_eq_true rfl) (by decide) 0 0 rfl rfl rfl [0] [1] rfl rfl rfl rfl [1, 0] rfl (fun _ => rfl) (fun _ => rfl) rfl rfl rfl (fun _ => rfl) (fun _ => ?_)
  refine J_if_eq (tg := 32) hK dX3_readStatement_6 rfl rfl (fun hc6 => ?_) (fun hc6 => ?_)
  · have hf := ip hc6 hf
    refine J_aload_n hK dX3_readStatement_32 rfl 0 rfl rfl ?_
    refine J_str hK dX3_readStatement_33 rfl 5 rfl rfl rfl ?_
    obtain ⟨v3, e4, hf⟩ := bs hf
    refine J_callV (m' := 2) (ce' := 0) (sl' := 0) (gr := [gLd d h1 x1_lineCount x1_goodsCount x1_workCount x1_years x1_lines x1_goods x1_works x1_change x1_coin x1_knownFree x1_isKnown]) (gs' := fun _ => [gTp d h0 x0_bytes x0_size x0_start x0_end x0_token x0_value, gLd d h1 x1_lineCount x1_goodsCount x1_workCount x1_years x1_lines x1_goods x1_works x1_change x1_coin x1_knownFree x1_isKnown]) (st' := fun _ => [.int v3]) (st := []) hK dX3_readStatement_35 cv_RX3_37 iv_yX3_isWord (As := [.ref (d.2.2.2.1 5)]) (kX3_isWord _ d h0 n x0_bytes x0_size x0_start x0_end x0_token x0_value 5 e4) rfl rfl (Nat.le_of_ble_eq_true rfl) (by decide) 0 0 rfl rfl rfl [0] [1] rfl rfl rfl rfl [1, 0] rfl (fun _ => rfl) (fun _ => rfl) rfl rfl rfl (fun _ => rfl) (fun _ => ?_)
    refine J_if_eq (tg := 64) hK dX3_readStatement_38 rfl rfl (fun hc38 => ?_) (fun hc38 => ?_)
    · have hf := ip hc38 hf
      refine J_aload_n hK dX3_readStatement_64 rfl 0 rfl rfl ?_
      refine J_str hK dX3_readStatement_65 rfl 6 rfl rfl rfl ?_
      obtain ⟨v5, e6, hf⟩ := bs hf
      refine J_callV (m' := 2) (ce' := 0) (sl' := 0) (gr := [gLd d h1 x1_lineCount x1_goodsCount x1_workCount x1_years x1_lines x1_goods x1_works x1_change x1_coin x1_knownFree x1_isKnown]) (gs' := fun _ => [gTp d h0 x0_bytes x0_size x0_start x0_end x0_token x0_value, gLd d h1 x1_lineCount x1_goodsCount x1_workCount x1_years x1_lines x1_goods x1_works x1_change x1_coin x1_knownFree x1_isKnown]) (st' := fun _ => [.int v5]) (st := []) hK dX3_readStatement_67 cv_RX3_37 iv_yX3_isWord (As := [.ref (d.2.2.2.1 6)]) (kX3_isWord _ d h0 n x0_bytes x0_size x0_start x0_end x0_token x0_value 6 e6) rfl rfl (Nat.le_of_ble_eq_true rfl) (by decide) 0 0 rfl rfl rfl [0] [1] rfl rfl rfl rfl [1, 0] rfl (fun _ => rfl) (fun _ => rfl) rfl rfl rfl (fun _ => rfl) (fun _ => ?_)
      refine J_if_eq (tg := 96) hK dX3_readStatement_70 rfl rfl (fun hc70 => ?_) (fun hc70 => ?_)
      · have hf := ip hc70 hf
        refine J_aload_n hK dX3_readStatement_96 rfl 0 rfl rfl ?_
        refine J_str hK dX3_readStatement_97 rfl 7 rfl rfl rfl ?_
        obtain ⟨v7, e8, hf⟩ := bs hf
        refine J_callV (m' := 2) (ce' := 0) (sl' := 0) (gr := [gLd d h1 x1_lineCount x1_goodsCount x1_workCount x1_years x1_lines x1_goods x1_works x1_change x1_coin x1_knownFree x1_isKnown]) (gs' := fun _ => [gTp d h0 x0_bytes x0_size x0_start x0_end x0_token x0_value, gLd d h1 x1_lineCount x1_goodsCount x1_workCount x1_years x1_lines x1_goods x1_works x1_change x1_coin x1_knownFree x1_isKnown]) (st' := fun _ => [.int v7]) (st := []) hK dX3_readStatement_99 cv_RX3_37 iv_yX3_isWord (As := [.ref (d.2.2.2.1 7)]) (kX3_isWord _ d h0 n x0_bytes x0_size x0_start x0_end x0_token x0_value 7 e8) rfl rfl (Nat.le_of_ble_eq_true rfl) (by decide) 0 0 rfl rfl rfl [0] [1] rfl rfl rfl rfl [1, 0] rfl (fun _ => rfl) (fun _ => rfl) rfl rfl rfl (fun _ => rfl) (fun _ => ?_)
        refine J_if_eq (tg := 111) hK dX3_readStatement_102 rfl rfl (fun hc102 => ?_) (fun hc102 => ?_)
        · have hf := ip hc102 hf
          refine J_aload_n hK dX3_readStatement_111 rfl 0 rfl rfl ?_
          refine J_str hK dX3_readStatement_112 rfl 8 rfl rfl rfl ?_
          obtain ⟨v9, e10, hf⟩ := bs hf
          refine J_callV (m' := 2) (ce' := 0) (sl' := 0) (gr := [gLd d h1 x1_lineCount x1_goodsCount x1_workCount x1_years x1_lines x1_goods x1_works x1_change x1_coin x1_knownFree x1_isKnown]) (gs' := fun _ => [gTp d h0 x0_bytes x0_size x0_start x0_end x0_token x0_value, gLd d h1 x1_lineCount x1_goodsCount x1_workCount x1_years x1_lines x1_goods x1_works x1_change x1_coin x1_knownFree x1_isKnown]) (st' := fun _ => [.int v9]) (st := []) hK dX3_readStatement_114 cv_RX3_37 iv_yX3_isWord (As := [.ref (d.2.2.2.1 8)]) (kX3_isWord _ d h0 n x0_bytes x0_size x0_start x0_end x0_token x0_value 8 e10) rfl rfl (Nat.le_of_ble_eq_true rfl) (by decide) 0 0 rfl rfl rfl [0] [1] rfl rfl rfl rfl [1, 0] rfl (fun _ => rfl) (fun _ => rfl) rfl rfl rfl (fun _ => rfl) (fun _ => ?_)
          refine J_if_eq (tg := 126) hK dX3_readStatement_117 rfl rfl (fun hc117 => ?_) (fun hc117 => ?_)
          · have hf := ip hc117 hf
            refine J_aload_n hK dX3_readStatement_126 rfl 0 rfl rfl ?_
            refine J_str hK dX3_readStatement_127 rfl 9 rfl rfl rfl ?_
            obtain ⟨v11, e12, hf⟩ := bs hf
            refine J_callV (m' := 2) (ce' := 0) (sl' := 0) (gr := [gLd d h1 x1_lineCount x1_goodsCount x1_workCount x1_years x1_lines x1_goods x1_works x1_change x1_coin x1_knownFree x1_isKnown]) (gs' := fun _ => [gTp d h0 x0_bytes x0_size x0_start x0_end x0_token x0_value, gLd d h1 x1_lineCount x1_goodsCount x1_workCount x1_years x1_lines x1_goods x1_works x1_change x1_coin x1_knownFree x1_isKnown]) (st' := fun _ => [.int v11]) (st := []) hK dX3_readStatement_129 cv_RX3_37 iv_yX3_isWord (As := [.ref (d.2.2.2.1 9)]) (kX3_isWord _ d h0 n x0_bytes x0_size x0_start x0_end x0_token x0_value 9 e12) rfl rfl (Nat.le_of_ble_eq_true rfl) (by decide) 0 0 rfl rfl rfl [0] [1] rfl rfl rfl rfl [1, 0] rfl (fun _ => rfl) (fun _ => rfl) rfl rfl rfl (fun _ => rfl) (fun _ => ?_)
            refine J_if_eq (tg := 147) hK dX3_readStatement_132 rfl rfl (fun hc132 => ?_) (fun hc132 => ?_)
            · have hf := ip hc132 hf
              refine J_iconst (v := 0) hK dX3_readStatement_147 rfl (by decide) ?_
              obtain rfl := Option.some.inj hf
              exact J_zret hK hR dX3_readStatement_148 () rfl rfl (by decide) (by decide)
            · have hf := iq hc132 hf
              refine J_aload_n hK dX3_readStatement_135 rfl 0 rfl rfl ?_
              refine J_aload_n hK dX3_readStatement_136 rfl 1 rfl rfl ?_
              obtain ⟨⟨v13, g14, g15, g16, g17, g18⟩, e19, hf⟩ := bs hf
              have hf := un6 hf
              refine J_callV (m' := 2) (ce' := 0) (sl' := 0) (gr := []) (gs' := fun _ => [gTp d h0 x0_bytes x0_size g14 g15 g16 g17, gLd d h1 x1_lineCount x1_goodsCount x1_workCount g18 x1_lines x1_goods x1_works x1_change x1_coin x1_knownFree x1_isKnown]) (st' := fun _ => [.int v13]) (st := []) hK dX3_readStatement_137 cv_RX3_77 iv_yX3_readYears (As := [.ref (h1 0)]) (kX3_readYears _ d h0 h1 n x0_bytes x0_size x0_start x0_end x0_token x0_value x1_lineCount x1_goodsCount x1_workCount x1_years x1_lines x1_goods x1_works x1_change x1_coin x1_knownFree x1_isKnown e19) rfl rfl (Nat.le_of_ble_eq_true rfl) (by decide) 0 0 rfl rfl rfl [0, 1] [] rfl rfl rfl rfl [0, 1] rfl (fun _ => rfl) (fun _ => rfl) rfl rfl rfl (fun _ => rfl) (fun _ => ?_)
              refine J_if_eq (tg := 147) hK dX3_readStatement_140 rfl rfl (fun hc140 => ?_) (fun hc140 => ?_)
              · have hf := ip hc140 hf
                refine J_iconst (v := 0) hK dX3_readStatement_147 rfl (by decide) ?_
                obtain rfl := Option.some.inj hf
                exact J_zret hK hR dX3_readStatement_148 () rfl rfl (by decide) (by decide)
              · have hf := iq hc140 hf
                refine J_iconst (v := 1) hK dX3_readStatement_143 rfl (by decide) ?_
                refine J_goto hK dX3_readStatement_144 (n := 148) rfl ?_
                obtain rfl := Option.some.inj hf
                exact J_zret hK hR dX3_readStatement_148 () rfl rfl (by decide) (by decide)
          · have hf := iq hc117 hf
            refine J_aload_n hK dX3_readStatement_120 rfl 0 rfl rfl ?_
            refine J_aload_n hK dX3_readStatement_121 rfl 1 rfl rfl ?_
            obtain ⟨⟨v20, g21, g22, g23, g24, g25, g26⟩, e27, hf⟩ := bs hf
            have hf := un7 hf
            refine J_callV (m' := 2) (ce' := 0) (sl' := 0) (gr := []) (gs' := fun _ => [gTp d h0 x0_bytes x0_size g21 g22 g23 g24, gLd d h1 x1_lineCount x1_goodsCount x1_workCount x1_years x1_lines x1_goods x1_works x1_change g25 x1_knownFree g26]) (st' := fun _ => [.int v20]) (st := []) hK dX3_readStatement_122 cv_RX3_72 iv_yX3_readCoin (As := [.ref (h1 0)]) (kX3_readCoin _ d h0 h1 n x0_bytes x0_size x0_start x0_end x0_token x0_value x1_lineCount x1_goodsCount x1_workCount x1_years x1_lines x1_goods x1_works x1_change x1_coin x1_knownFree x1_isKnown e27) rfl rfl (Nat.le_of_ble_eq_true rfl) (by decide) 0 0 rfl rfl rfl [0, 1] [] rfl rfl rfl rfl [0, 1] rfl (fun _ => rfl) (fun _ => rfl) rfl rfl rfl (fun _ => rfl) (fun _ => ?_)
            obtain ⟨v28, ev28, hf⟩ := bs hf
            obtain rfl := Option.some.inj hf
            exact J_zret hK hR dX3_readStatement_125 () (zb_ok ev28).2 (by rw [(zb_ok ev28).1]) (by decide) (by decide)
        · have hf := iq hc102 hf
          refine J_aload_n hK dX3_readStatement_105 rfl 0 rfl rfl ?_
          refine J_aload_n hK dX3_readStatement_106 rfl 1 rfl rfl ?_
          obtain ⟨⟨v29, g30, g31, g32, g33, g34, g35⟩, e36, hf⟩ := bs hf
          have hf := un7 hf
          refine J_callV (m' := 2) (ce' := 0) (sl' := 0) (gr := []) (gs' := fun _ => [gTp d h0 x0_bytes x0_size g30 g31 g32 g33, gLd d h1 x1_lineCount x1_goodsCount x1_workCount x1_years x1_lines x1_goods x1_works g34 x1_coin x1_knownFree g35]) (st' := fun _ => [.int v29]) (st := []) hK dX3_readStatement_107 cv_RX3_67 iv_yX3_readChange (As := [.ref (h1 0)]) (kX3_readChange _ d h0 h1 n x0_bytes x0_size x0_start x0_end x0_token x0_value x1_lineCount x1_goodsCount x1_workCount x1_years x1_lines x1_goods x1_works x1_change x1_coin x1_knownFree x1_isKnown e36) rfl rfl (Nat.le_of_ble_eq_true rfl) (by decide) 0 0 rfl rfl rfl [0, 1] [] rfl rfl rfl rfl [0, 1] rfl (fun _ => rfl) (fun _ => rfl) rfl rfl rfl (fun _ => rfl) (fun _ => ?_)
          obtain ⟨v37, ev37, hf⟩ := bs hf
          obtain rfl := Option.some.inj hf
          exact J_zret hK hR dX3_readStatement_110 () (zb_ok ev37).2 (by rw [(zb_ok ev37).1]) (by decide) (by decide)
      · have hf := iq hc70 hf
        refine J_aload_n hK dX3_readStatement_73 rfl 1 rfl rfl ?_
        refine J_get hK fo_RX3_59 dX3_readStatement_74 rfl 1 0 rfl rfl rfl ?_
        refine J_bipush (v := 7) hK dX3_readStatement_77 rfl (by decide) ?_
        refine J_icmp_ge (tg := 94) hK dX3_readStatement_79 rfl rfl (fun hc79 => ?_) (fun hc79 => ?_)
        · have hf := ip hc79 hf
          refine J_iconst (v := 0) hK dX3_readStatement_94 rfl (by decide) ?_
          obtain rfl := Option.some.inj hf
          exact J_zret hK hR dX3_readStatement_95 () rfl rfl (by decide) (by decide)
        · have hf := iq hc79 hf
          refine J_aload_n hK dX3_readStatement_82 rfl 0 rfl rfl ?_
          refine J_aload_n hK dX3_readStatement_83 rfl 1 rfl rfl ?_
          obtain ⟨⟨v38, g39, g40, g41, g42, g43, g44, g45⟩, e46, hf⟩ := bs hf
          have hf := un8 hf
          refine J_callV (m' := 2) (ce' := 0) (sl' := 0) (gr := []) (gs' := fun _ => [gTp d h0 x0_bytes x0_size g39 g40 g41 g42, gLd d h1 x1_lineCount x1_goodsCount g43 x1_years x1_lines x1_goods g44 x1_change x1_coin x1_knownFree g45]) (st' := fun _ => [.int v38]) (st := []) hK dX3_readStatement_84 cv_RX3_62 iv_yX3_readWork (As := [.ref (h1 0)]) (kX3_readWork _ d h0 h1 n x0_bytes x0_size x0_start x0_end x0_token x0_value x1_lineCount x1_goodsCount x1_workCount x1_years x1_lines x1_goods x1_works x1_change x1_coin x1_knownFree x1_isKnown e46) rfl rfl (Nat.le_of_ble_eq_true rfl) (by decide) 0 0 rfl rfl rfl [0, 1] [] rfl rfl rfl rfl [0, 1] rfl (fun _ => rfl) (fun _ => rfl) rfl rfl rfl (fun _ => rfl) (fun _ => ?_)
          refine J_if_eq (tg := 94) hK dX3_readStatement_87 rfl rfl (fun hc87 => ?_) (fun hc87 => ?_)
          · have hf := ip hc87 hf
            refine J_iconst (v := 0) hK dX3_readStatement_94 rfl (by decide) ?_
            obtain rfl := Option.some.inj hf
            exact J_zret hK hR dX3_readStatement_95 () rfl rfl (by decide) (by decide)
          · have hf := iq hc87 hf
            refine J_iconst (v := 1) hK dX3_readStatement_90 rfl (by decide) ?_
            refine J_goto hK dX3_readStatement_91 (n := 95) rfl ?_
            obtain rfl := Option.some.inj hf
            exact J_zret hK hR dX3_readStatement_95 () rfl rfl (by decide) (by decide)
    · have hf := iq hc38 hf
      refine J_aload_n hK dX3_readStatement_41 rfl 1 rfl rfl ?_
      refine J_get hK fo_RX3_51 dX3_readStatement_42 rfl 1 0 rfl rfl rfl ?_
      refine J_bipush (v := 8) hK dX3_readStatement_45 rfl (by decide) ?_
      refine J_icmp_ge (tg := 62) hK dX3_readStatement_47 rfl rfl (fun hc47 => ?_) (fun hc47 => ?_)
      · have hf := ip hc47 hf
        refine J_iconst (v := 0) hK dX3_readStatement_62 rfl (by decide) ?_
        obtain rfl := Option.some.inj hf
        exact J_zret hK hR dX3_readStatement_63 () rfl rfl (by decide) (by decide)
      · have hf := iq hc47 hf
        refine J_aload_n hK dX3_readStatement_50 rfl 0 rfl rfl ?_
        refine J_aload_n hK dX3_readStatement_51 rfl 1 rfl rfl ?_
        obtain ⟨⟨v47, g48, g49, g50, g51, g52, g53, g54⟩, e55, hf⟩ := bs hf
        have hf := un8 hf
        refine J_callV (m' := 2) (ce' := 0) (sl' := 0) (gr := []) (gs' := fun _ => [gTp d h0 x0_bytes x0_size g48 g49 g50 g51, gLd d h1 x1_lineCount g52 x1_workCount x1_years x1_lines g53 x1_works x1_change x1_coin x1_knownFree g54]) (st' := fun _ => [.int v47]) (st := []) hK dX3_readStatement_52 cv_RX3_54 iv_yX3_readGoods (As := [.ref (h1 0)]) (kX3_readGoods _ d h0 h1 n x0_bytes x0_size x0_start x0_end x0_token x0_value x1_lineCount x1_goodsCount x1_workCount x1_years x1_lines x1_goods x1_works x1_change x1_coin x1_knownFree x1_isKnown e55) rfl rfl (Nat.le_of_ble_eq_true rfl) (by decide) 0 0 rfl rfl rfl [0, 1] [] rfl rfl rfl rfl [0, 1] rfl (fun _ => rfl) (fun _ => rfl) rfl rfl rfl (fun _ => rfl) (fun _ => ?_)
        refine J_if_eq (tg := 62) hK dX3_readStatement_55 rfl rfl (fun hc55 => ?_) (fun hc55 => ?_)
        · have hf := ip hc55 hf
          refine J_iconst (v := 0) hK dX3_readStatement_62 rfl (by decide) ?_
          obtain rfl := Option.some.inj hf
          exact J_zret hK hR dX3_readStatement_63 () rfl rfl (by decide) (by decide)
        · have hf := iq hc55 hf
          refine J_iconst (v := 1) hK dX3_readStatement_58 rfl (by decide) ?_
          refine J_goto hK dX3_readStatement_59 (n := 63) rfl ?_
          obtain rfl := Option.some.inj hf
          exact J_zret hK hR dX3_readStatement_63 () rfl rfl (by decide) (by decide)
  · have hf := iq hc6 hf
    refine J_aload_n hK dX3_readStatement_9 rfl 1 rfl rfl ?_
    refine J_get hK fo_RX3_41 dX3_readStatement_10 rfl 1 0 rfl rfl rfl ?_
    refine J_bipush (v := 20) hK dX3_readStatement_13 rfl (by decide) ?_
    refine J_icmp_ge (tg := 30) hK dX3_readStatement_15 rfl rfl (fun hc15 => ?_) (fun hc15 => ?_)
    · have hf := ip hc15 hf
      refine J_iconst (v := 0) hK dX3_readStatement_30 rfl (by decide) ?_
      obtain rfl := Option.some.inj hf
      exact J_zret hK hR dX3_readStatement_31 () rfl rfl (by decide) (by decide)
    · have hf := iq hc15 hf
      refine J_aload_n hK dX3_readStatement_18 rfl 0 rfl rfl ?_
      refine J_aload_n hK dX3_readStatement_19 rfl 1 rfl rfl ?_
      obtain ⟨⟨v56, g57, g58, g59, g60, g61, g62, g63⟩, e64, hf⟩ := bs hf
      have hf := un8 hf
      refine J_callV (m' := 2) (ce' := 0) (sl' := 0) (gr := []) (gs' := fun _ => [gTp d h0 x0_bytes x0_size g57 g58 g59 g60, gLd d h1 g61 x1_goodsCount x1_workCount x1_years g62 x1_goods x1_works x1_change x1_coin x1_knownFree g63]) (st' := fun _ => [.int v56]) (st := []) hK dX3_readStatement_20 cv_RX3_46 iv_yX3_readLine (As := [.ref (h1 0)]) (kX3_readLine _ d h0 h1 n x0_bytes x0_size x0_start x0_end x0_token x0_value x1_lineCount x1_goodsCount x1_workCount x1_years x1_lines x1_goods x1_works x1_change x1_coin x1_knownFree x1_isKnown e64) rfl rfl (Nat.le_of_ble_eq_true rfl) (by decide) 0 0 rfl rfl rfl [0, 1] [] rfl rfl rfl rfl [0, 1] rfl (fun _ => rfl) (fun _ => rfl) rfl rfl rfl (fun _ => rfl) (fun _ => ?_)
      refine J_if_eq (tg := 30) hK dX3_readStatement_23 rfl rfl (fun hc23 => ?_) (fun hc23 => ?_)
      · have hf := ip hc23 hf
        refine J_iconst (v := 0) hK dX3_readStatement_30 rfl (by decide) ?_
        obtain rfl := Option.some.inj hf
        exact J_zret hK hR dX3_readStatement_31 () rfl rfl (by decide) (by decide)
      · have hf := iq hc23 hf
        refine J_iconst (v := 1) hK dX3_readStatement_26 rfl (by decide) ?_
        refine J_goto hK dX3_readStatement_27 (n := 31) rfl ?_
        obtain rfl := Option.some.inj hf
        exact J_zret hK hR dX3_readStatement_31 () rfl rfl (by decide) (by decide)

def fX3_readInto_s11 (n : Nat) (x0_bytes : (Nat → Int32)) (x0_size : Int32) (x1_knownFree : (Nat → Int32)) (z7 : Int32) (z8 : Int32) (z9 : Int32) (z10 : Int32) (z11 : Int32) (z12 : Int32) (z13 : Int32) (z14 : Int32) (z15 : Int32) (z16 : (Nat → Int32)) (z17 : (Nat → Int32)) (z18 : (Nat → Int32)) (z19 : (Nat → Int32)) (z20 : (Nat → Int32)) (z21 : Int32) : Option ((Int32 × Int32 × Int32 × Int32 × Int32 × Int32 × Int32 × Int32 × Int32 × (Nat → Int32) × (Nat → Int32) × (Nat → Int32) × (Nat → Int32) × (Nat → Int32) × Int32) ⊕ (((Int32 × Int32 × Int32 × Int32 × Int32 × Int32 × Int32 × Int32 × (Nat → Int32) × (Nat → Int32) × (Nat → Int32) × (Nat → Int32) × (Nat → Int32) × Int32) ⊕ ((Int32 × Int32 × Int32 × Int32 × Int32 × Int32 × Int32 × Int32 × Int32 × (Nat → Int32) × (Nat → Int32) × (Nat → Int32) × (Nat → Int32) × (Nat → Int32) × Int32) ⊕ ((Int32 × Int32 × Int32 × Int32 × Int32 × Int32 × Int32 × Int32 × (Nat → Int32) × (Nat → Int32) × (Nat → Int32) × (Nat → Int32) × (Nat → Int32) × Int32) ⊕ (Int32 × Int32 × Int32 × Int32 × Int32 × Int32 × Int32 × Int32 × (Nat → Int32) × (Nat → Int32) × (Nat → Int32) × (Nat → Int32) × (Nat → Int32) × Int32)))))) :=
  if 250 < z7 then (some (.inr (.inr (.inr (.inr (z8, z9, z10, z11, z12, z13, z14, z15, z16, z17, z18, z19, z20, z21)))))) else ((fX3_readStatement n (x0_bytes, x0_size, z8, z9, z10, z11) (z12, z13, z14, z15, z16, z17, z18, z19, z20, x1_knownFree, z21)).bind (u6 fun v80 g81 g82 g83 g84 G85 => u10 (fun g86 g87 g88 g89 g90 g91 g92 g93 g94 g95 => if v80 = 0 then (some (.inr (.inl (g81, g82, g83, g84, g86, g87, g88, g89, g90, g91, g92, g93, g94, g95)))) else (if g83 = 0 then (some (.inr (.inr (.inl (z7, g81, g82, g83, g84, g86, g87, g88, g89, g90, g91, g92, g93, g94, g95))))) else (if g83 = 3 then ((fX3_next n (x0_bytes, x0_size, g81, g82, g83, g84)).bind (u4 fun g97 g98 g99 g100 => some (.inl ((z7 + 1), g97, g98, g99, g100, g86, g87, g88, g89, g90, g91, g92, g93, g94, g95)))) else (some (.inr (.inr (.inr (.inl (g81, g82, g83, g84, g86, g87, g88, g89, g90, g91, g92, g93, g94, g95))))))))) G85))
def fX3_readInto (n : Nat) (X0 : TpT) (X1 : LdT) : Option (Int32 × Int32 × Int32 × Int32 × Int32 × (Int32 × Int32 × Int32 × Int32 × (Nat → Int32) × (Nat → Int32) × (Nat → Int32) × (Nat → Int32) × (Nat → Int32) × Int32)) :=
  u6 (fun (x0_bytes : (Nat → Int32)) (x0_size : Int32) (x0_start : Int32) (x0_end : Int32) (x0_token : Int32) (x0_value : Int32) => u11 (fun (x1_lineCount : Int32) (x1_goodsCount : Int32) (x1_workCount : Int32) (x1_years : Int32) (x1_lines : (Nat → Int32)) (x1_goods : (Nat → Int32)) (x1_works : (Nat → Int32)) (x1_change : (Nat → Int32)) (x1_coin : (Nat → Int32)) (x1_knownFree : (Nat → Int32)) (x1_isKnown : Int32) => (fX3_next n (x0_bytes, x0_size, x0_start, 0, x0_token, x0_value)).bind (u4 fun g1 g2 g3 g4 => (lp (u15 (fX3_readInto_s11 n x0_bytes x0_size x1_knownFree)) n (1, g1, g2, g3, g4, x1_lineCount, x1_goodsCount, x1_workCount, x1_years, x1_lines, x1_goods, x1_works, x1_change, x1_coin, x1_isKnown)).bind (Sum.elim (u14 fun w23 w24 w25 w26 w27 w28 w29 w30 w31 w32 w33 w34 w35 w36 => some (((-20) - w23), w23, w24, w25, w26, (w27, w28, w29, w30, w31, w32, w33, w34, w35, w36))) (Sum.elim (u15 fun w37 w38 w39 w40 w41 w42 w43 w44 w45 w46 w47 w48 w49 w50 w51 => some (w37, w38, w39, w40, w41, (w42, w43, w44, w45, w46, w47, w48, w49, w50, w51))) (Sum.elim (u14 fun w52 w53 w54 w55 w56 w57 w58 w59 w60 w61 w62 w63 w64 w65 => some (((-20) - w52), w52, w53, w54, w55, (w56, w57, w58, w59, w60, w61, w62, w63, w64, w65))) (u14 fun w66 w67 w68 w69 w70 w71 w72 w73 w74 w75 w76 w77 w78 w79 => some (((-20) - w66), w66, w67, w68, w69, (w70, w71, w72, w73, w74, w75, w76, w77, w78, w79)))))))) X1) X0
set_option maxHeartbeats 4000000 in
set_option maxRecDepth 100000 in
theorem kX3_readInto (l : Launch) (d : DT) (h0 : Nat → Nat) (h1 : Nat → Nat) (n : Nat) (x0_bytes : (Nat → Int32)) (x0_size : Int32) (x0_start : Int32) (x0_end : Int32) (x0_token : Int32) (x0_value : Int32) (x1_lineCount : Int32) (x1_goodsCount : Int32) (x1_workCount : Int32) (x1_years : Int32) (x1_lines : (Nat → Int32)) (x1_goods : (Nat → Int32)) (x1_works : (Nat → Int32)) (x1_change : (Nat → Int32)) (x1_coin : (Nat → Int32)) (x1_knownFree : (Nat → Int32)) (x1_isKnown : Int32)  {out : Int32 × Int32 × Int32 × Int32 × Int32 × (Int32 × Int32 × Int32 × Int32 × (Nat → Int32) × (Nat → Int32) × (Nat → Int32) × (Nat → Int32) × (Nat → Int32) × Int32)} (hf : fX3_readInto n (x0_bytes, x0_size, x0_start, x0_end, x0_token, x0_value) (x1_lineCount, x1_goodsCount, x1_workCount, x1_years, x1_lines, x1_goods, x1_works, x1_change, x1_coin, x1_knownFree, x1_isKnown) = some out) : Ct l d yX3_readInto cX3_readInto 3 (some .int) { frames := 8, cells := 0, slots := 0, locals := 179 } [.ref (h0 0), .ref (h1 0)] [gTp d h0 x0_bytes x0_size x0_start x0_end x0_token x0_value, gLd d h1 x1_lineCount x1_goodsCount x1_workCount x1_years x1_lines x1_goods x1_works x1_change x1_coin x1_knownFree x1_isKnown] (fun _ : Unit => (some (.int out.1), [gTp d h0 x0_bytes x0_size (out.2.1) (out.2.2.1) (out.2.2.2.1) (out.2.2.2.2.1), gLd d h1 (out.2.2.2.2.2.1) (out.2.2.2.2.2.2.1) (out.2.2.2.2.2.2.2.1) (out.2.2.2.2.2.2.2.2.1) (out.2.2.2.2.2.2.2.2.2.1) (out.2.2.2.2.2.2.2.2.2.2.1) (out.2.2.2.2.2.2.2.2.2.2.2.1) (out.2.2.2.2.2.2.2.2.2.2.2.2.1) (out.2.2.2.2.2.2.2.2.2.2.2.2.2.1) x1_knownFree (out.2.2.2.2.2.2.2.2.2.2.2.2.2.2)])) := by
  refine Ct.of (by decide) (Nat.le_of_ble_eq_true rfl) ?_
  intro Φ hl hK hR
  subst hl
  have hK : Ok d Φ RX3 "readInto" cX3_readInto 3 (some .int) { frames := 8, cells := 0, slots := 0, locals := 179 } := hK
  unfold fX3_readInto at hf
  have hf := un6 hf
  have hf := un11 hf
  show J d Φ 3 [gTp d h0 x0_bytes x0_size x0_start x0_end x0_token x0_value, gLd d h1 x1_lineCount x1_goodsCount x1_workCount x1_years x1_lines x1_goods x1_works x1_change x1_coin x1_knownFree x1_isKnown] 0 0 0 [(0, .ref (h0 0)), (1, .ref (h1 0))] []
  refine J_aload_n hK dX3_readInto_0 rfl 0 rfl rfl ?_
  refine J_iconst (v := 0) hK dX3_readInto_1 rfl (by decide) ?_
  refine J_put (g' := gTp d h0 x0_bytes x0_size x0_start (0) x0_token x0_value) (gs' := [gTp d h0 x0_bytes x0_size x0_start (0) x0_token x0_value, gLd d h1 x1_lineCount x1_goodsCount x1_workCount x1_years x1_lines x1_goods x1_works x1_change x1_coin x1_knownFree x1_isKnown]) hK fp_RX3_19 dX3_readInto_2 rfl 0 0 rfl rfl rfl rfl (Nat.le_of_ble_eq_true rfl) rfl rfl ?_
  refine J_aload_n hK dX3_readInto_5 rfl 0 rfl rfl ?_
  obtain ⟨⟨g1, g2, g3, g4⟩, e5, hf⟩ := bs hf
  have hf := un4 hf
  refine J_callV (m' := 2) (ce' := 0) (sl' := 0) (gr := [gLd d h1 x1_lineCount x1_goodsCount x1_workCount x1_years x1_lines x1_goods x1_works x1_change x1_coin x1_knownFree x1_isKnown]) (gs' := fun _ => [gTp d h0 x0_bytes x0_size g1 g2 g3 g4, gLd d h1 x1_lineCount x1_goodsCount x1_workCount x1_years x1_lines x1_goods x1_works x1_change x1_coin x1_knownFree x1_isKnown]) (st' := fun _ => []) (st := []) hK dX3_readInto_6 cv_RX3_22 iv_yX3_next (As := []) (kX3_next _ d h0 n x0_bytes x0_size x0_start (0) x0_token x0_value e5) rfl rfl (Nat.le_of_ble_eq_true rfl) (by decide) 0 0 rfl rfl rfl [0] [1] rfl rfl rfl rfl [1, 0] rfl (fun _ => rfl) (fun _ => rfl) rfl rfl rfl (fun _ => rfl) (fun _ => ?_)
  refine J_iconst (v := 1) hK dX3_readInto_9 rfl (by decide) ?_
  refine J_istore_n (L' := [(2, .int (1)), (0, .ref (h0 0)), (1, .ref (h1 0))]) hK dX3_readInto_10 rfl rfl (by decide) rfl ?_
  obtain ⟨e22, hl6, hf⟩ := bs hf
  have hx6_26 : ∀ (w23 : Int32) (w24 : Int32) (w25 : Int32) (w26 : Int32) (w27 : Int32) (w28 : Int32) (w29 : Int32) (w30 : Int32) (w31 : (Nat → Int32)) (w32 : (Nat → Int32)) (w33 : (Nat → Int32)) (w34 : (Nat → Int32)) (w35 : (Nat → Int32)) (w36 : Int32), (.inl (w23, w24, w25, w26, w27, w28, w29, w30, w31, w32, w33, w34, w35, w36)) = e22 → J d Φ 3 [gTp d h0 x0_bytes x0_size w23 w24 w25 w26, gLd d h1 w27 w28 w29 w30 w31 w32 w33 w34 w35 x1_knownFree w36] 0 0 26 [(0, .ref (h0 0))] [] := by
    intro w23 w24 w25 w26 w27 w28 w29 w30 w31 w32 w33 w34 w35 w36 he
    rw [← he] at hf
    simp only [Sum.elim_inl, Sum.elim_inr] at hf
    have hf := un14 hf
    refine J_bipush (v := (-20)) hK dX3_readInto_26 rfl (by decide) ?_
    refine J_aload_n hK dX3_readInto_28 rfl 0 rfl rfl ?_
    refine J_get hK fo_RX3_29 dX3_readInto_29 rfl 0 0 rfl rfl rfl ?_
    refine J_isub hK dX3_readInto_32 rfl ?_
    obtain rfl := Option.some.inj hf
    exact J_iret hK hR dX3_readInto_33 () rfl (by decide) (by decide)
  have hx6_41 : ∀ (w37 : Int32) (w38 : Int32) (w39 : Int32) (w40 : Int32) (w41 : Int32) (w42 : Int32) (w43 : Int32) (w44 : Int32) (w45 : Int32) (w46 : (Nat → Int32)) (w47 : (Nat → Int32)) (w48 : (Nat → Int32)) (w49 : (Nat → Int32)) (w50 : (Nat → Int32)) (w51 : Int32), (.inr (.inl (w37, w38, w39, w40, w41, w42, w43, w44, w45, w46, w47, w48, w49, w50, w51))) = e22 → J d Φ 3 [gTp d h0 x0_bytes x0_size w38 w39 w40 w41, gLd d h1 w42 w43 w44 w45 w46 w47 w48 w49 w50 x1_knownFree w51] 0 0 41 [(2, .int w37)] [] := by
    intro w37 w38 w39 w40 w41 w42 w43 w44 w45 w46 w47 w48 w49 w50 w51 he
    rw [← he] at hf
    simp only [Sum.elim_inl, Sum.elim_inr] at hf
    have hf := un15 hf
    refine J_iload_n hK dX3_readInto_41 rfl 0 rfl rfl ?_
    obtain rfl := Option.some.inj hf
    exact J_iret hK hR dX3_readInto_42 () rfl (by decide) (by decide)
  have hx6_51 : ∀ (w52 : Int32) (w53 : Int32) (w54 : Int32) (w55 : Int32) (w56 : Int32) (w57 : Int32) (w58 : Int32) (w59 : Int32) (w60 : (Nat → Int32)) (w61 : (Nat → Int32)) (w62 : (Nat → Int32)) (w63 : (Nat → Int32)) (w64 : (Nat → Int32)) (w65 : Int32), (.inr (.inr (.inl (w52, w53, w54, w55, w56, w57, w58, w59, w60, w61, w62, w63, w64, w65)))) = e22 → J d Φ 3 [gTp d h0 x0_bytes x0_size w52 w53 w54 w55, gLd d h1 w56 w57 w58 w59 w60 w61 w62 w63 w64 x1_knownFree w65] 0 0 51 [(0, .ref (h0 0))] [] := by
    intro w52 w53 w54 w55 w56 w57 w58 w59 w60 w61 w62 w63 w64 w65 he
    rw [← he] at hf
    simp only [Sum.elim_inl, Sum.elim_inr] at hf
    have hf := un14 hf
    refine J_bipush (v := (-20)) hK dX3_readInto_51 rfl (by decide) ?_
    refine J_aload_n hK dX3_readInto_53 rfl 0 rfl rfl ?_
    refine J_get hK fo_RX3_29 dX3_readInto_54 rfl 0 0 rfl rfl rfl ?_
    refine J_isub hK dX3_readInto_57 rfl ?_
    obtain rfl := Option.some.inj hf
    exact J_iret hK hR dX3_readInto_58 () rfl (by decide) (by decide)
  have hx6_69 : ∀ (w66 : Int32) (w67 : Int32) (w68 : Int32) (w69 : Int32) (w70 : Int32) (w71 : Int32) (w72 : Int32) (w73 : Int32) (w74 : (Nat → Int32)) (w75 : (Nat → Int32)) (w76 : (Nat → Int32)) (w77 : (Nat → Int32)) (w78 : (Nat → Int32)) (w79 : Int32), (.inr (.inr (.inr (w66, w67, w68, w69, w70, w71, w72, w73, w74, w75, w76, w77, w78, w79)))) = e22 → J d Φ 3 [gTp d h0 x0_bytes x0_size w66 w67 w68 w69, gLd d h1 w70 w71 w72 w73 w74 w75 w76 w77 w78 x1_knownFree w79] 0 0 69 [(0, .ref (h0 0))] [] := by
    intro w66 w67 w68 w69 w70 w71 w72 w73 w74 w75 w76 w77 w78 w79 he
    rw [← he] at hf
    simp only [Sum.elim_inl, Sum.elim_inr] at hf
    have hf := un14 hf
    refine J_bipush (v := (-20)) hK dX3_readInto_69 rfl (by decide) ?_
    refine J_aload_n hK dX3_readInto_71 rfl 0 rfl rfl ?_
    refine J_get hK fo_RX3_29 dX3_readInto_72 rfl 0 0 rfl rfl rfl ?_
    refine J_isub hK dX3_readInto_75 rfl ?_
    obtain rfl := Option.some.inj hf
    exact J_iret hK hR dX3_readInto_76 () rfl (by decide) (by decide)
  have lo6 : ∀ (k : Nat) (z7 : Int32) (z8 : Int32) (z9 : Int32) (z10 : Int32) (z11 : Int32) (z12 : Int32) (z13 : Int32) (z14 : Int32) (z15 : Int32) (z16 : (Nat → Int32)) (z17 : (Nat → Int32)) (z18 : (Nat → Int32)) (z19 : (Nat → Int32)) (z20 : (Nat → Int32)) (z21 : Int32), lp (u15 (fX3_readInto_s11 n x0_bytes x0_size x1_knownFree)) k (z7, z8, z9, z10, z11, z12, z13, z14, z15, z16, z17, z18, z19, z20, z21) = some e22 → J d Φ 3 [gTp d h0 x0_bytes x0_size z8 z9 z10 z11, gLd d h1 z12 z13 z14 z15 z16 z17 z18 z19 z20 x1_knownFree z21] 0 0 11 [(0, .ref (h0 0)), (1, .ref (h1 0)), (2, .int z7)] [] := by
    intro k
    induction k with
    | zero => intro z7 z8 z9 z10 z11 z12 z13 z14 z15 z16 z17 z18 z19 z20 z21 h; cases h
    | succ k ih6 =>
      intro z7 z8 z9 z10 z11 z12 z13 z14 z15 z16 z17 z18 z19 z20 z21 h
      obtain ⟨k2, rr6, hk2, hs6, hr6⟩ := lp_ok h
      cases hk2
      have hs6 : fX3_readInto_s11 n x0_bytes x0_size x1_knownFree z7 z8 z9 z10 z11 z12 z13 z14 z15 z16 z17 z18 z19 z20 z21 = some rr6 := hs6
      unfold fX3_readInto_s11 at hs6
      refine J_iload_n hK dX3_readInto_11 rfl 2 rfl rfl ?_
      refine J_sipush (v := 250) hK dX3_readInto_12 rfl (by decide) ?_
      refine J_icmp_gt (tg := 69) hK dX3_readInto_15 rfl rfl (fun hc15 => ?_) (fun hc15 => ?_)
      · have hs6 := ip hc15 hs6
        exact J_loc [0] rfl (hx6_69 z8 z9 z10 z11 z12 z13 z14 z15 z16 z17 z18 z19 z20 z21 (lpx hs6 hr6))
      · have hs6 := iq hc15 hs6
        refine J_aload_n hK dX3_readInto_18 rfl 0 rfl rfl ?_
        refine J_aload_n hK dX3_readInto_19 rfl 1 rfl rfl ?_
        obtain ⟨⟨v80, g81, g82, g83, g84, ⟨g86, g87, g88, g89, g90, g91, g92, g93, g94, g95⟩⟩, e96, hs6⟩ := bs hs6
        have hs6 := un6 hs6
        have hs6 := un10 hs6
        refine J_callV (m' := 2) (ce' := 0) (sl' := 0) (gr := []) (gs' := fun _ => [gTp d h0 x0_bytes x0_size g81 g82 g83 g84, gLd d h1 g86 g87 g88 g89 g90 g91 g92 g93 g94 x1_knownFree g95]) (st' := fun _ => [.int v80]) (st := []) hK dX3_readInto_20 cv_RX3_25 iv_yX3_readStatement (As := [.ref (h1 0)]) (kX3_readStatement _ d h0 h1 n x0_bytes x0_size z8 z9 z10 z11 z12 z13 z14 z15 z16 z17 z18 z19 z20 x1_knownFree z21 e96) rfl rfl (Nat.le_of_ble_eq_true rfl) (by decide) 0 0 rfl rfl rfl [0, 1] [] rfl rfl rfl rfl [0, 1] rfl (fun _ => rfl) (fun _ => rfl) rfl rfl rfl (fun _ => rfl) (fun _ => ?_)
        refine J_if_ne (tg := 34) hK dX3_readInto_23 rfl rfl (fun hc23 => ?_) (fun hc23 => ?_)
        · have hs6 := iq hc23 hs6
          refine J_aload_n hK dX3_readInto_34 rfl 0 rfl rfl ?_
          refine J_get hK fo_RX3_32 dX3_readInto_35 rfl 0 0 rfl rfl rfl ?_
          refine J_if_ne (tg := 43) hK dX3_readInto_38 rfl rfl (fun hc38 => ?_) (fun hc38 => ?_)
          · have hs6 := iq hc38 hs6
            refine J_aload_n hK dX3_readInto_43 rfl 0 rfl rfl ?_
            refine J_get hK fo_RX3_32 dX3_readInto_44 rfl 0 0 rfl rfl rfl ?_
            refine J_iconst (v := 3) hK dX3_readInto_47 rfl (by decide) ?_
            refine J_icmp_eq (tg := 59) hK dX3_readInto_48 rfl rfl (fun hc48 => ?_) (fun hc48 => ?_)
            · have hs6 := ip hc48 hs6
              refine J_aload_n hK dX3_readInto_59 rfl 0 rfl rfl ?_
              obtain ⟨⟨g97, g98, g99, g100⟩, e101, hs6⟩ := bs hs6
              have hs6 := un4 hs6
              refine J_callV (m' := 2) (ce' := 0) (sl' := 0) (gr := [gLd d h1 g86 g87 g88 g89 g90 g91 g92 g93 g94 x1_knownFree g95]) (gs' := fun _ => [gTp d h0 x0_bytes x0_size g97 g98 g99 g100, gLd d h1 g86 g87 g88 g89 g90 g91 g92 g93 g94 x1_knownFree g95]) (st' := fun _ => []) (st := []) hK dX3_readInto_60 cv_RX3_22 iv_yX3_next (As := []) (kX3_next _ d h0 n x0_bytes x0_size g81 g82 g83 g84 e101) rfl rfl (Nat.le_of_ble_eq_true rfl) (by decide) 0 0 rfl rfl rfl [0] [1] rfl rfl rfl rfl [1, 0] rfl (fun _ => rfl) (fun _ => rfl) rfl rfl rfl (fun _ => rfl) (fun _ => ?_)
              refine J_iinc (L' := [(2, .int (z7 + 1)), (0, .ref (h0 0)), (1, .ref (h1 0))]) (v := (z7 + 1)) hK dX3_readInto_63 rfl 2 rfl rfl (by decide) rfl ?_
              refine J_goto hK dX3_readInto_66 (n := 11) rfl ?_
              exact J_loc [1, 2, 0] rfl (ih6 (z7 + 1) g97 g98 g99 g100 g86 g87 g88 g89 g90 g91 g92 g93 g94 g95 (lpc hs6 hr6))
            · have hs6 := iq hc48 hs6
              exact J_loc [0] rfl (hx6_51 g81 g82 g83 g84 g86 g87 g88 g89 g90 g91 g92 g93 g94 g95 (lpx hs6 hr6))
          · have hs6 := ip hc38 hs6
            exact J_loc [2] rfl (hx6_41 z7 g81 g82 g83 g84 g86 g87 g88 g89 g90 g91 g92 g93 g94 g95 (lpx hs6 hr6))
        · have hs6 := ip hc23 hs6
          exact J_loc [0] rfl (hx6_26 g81 g82 g83 g84 g86 g87 g88 g89 g90 g91 g92 g93 g94 g95 (lpx hs6 hr6))
  exact J_loc [1, 2, 0] rfl (lo6 n (1) g1 g2 g3 g4 x1_lineCount x1_goodsCount x1_workCount x1_years x1_lines x1_goods x1_works x1_change x1_coin x1_isKnown hl6)

def fX4_costBetween (n : Nat) (X0 : TrT) (X1 : WyT) (X2 : LdT) (p2 : Int32) (p3 : Int32) : Option (Int32 × ((Nat → Int32) × (Nat → Int32) × (Nat → Int32) × (Nat → Int32) × (Nat → Int32) × (Nat → Int32) × Int32 × Int32)) :=
  u4 (fun (x0_left : (Nat → Int32)) (x0_earned : (Nat → Int32)) (x0_turnCost : Int32) (x0_turnWayless : Int32) => u14 (fun (x1_edgeA : (Nat → Int32)) (x1_edgeB : (Nat → Int32)) (x1_edgeCost : (Nat → Int32)) (x1_edgeLine : (Nat → Int32)) (x1_change : (Nat → Int32)) (x1_away : (Nat → Int32)) (x1_steps : (Nat → Int32)) (x1_nodes : (Nat → Int32)) (x1_stepCount : Int32) (x1_open : (Nat → Int32)) (x1_openCount : Int32) (x1_seen : Int64) (x1_edgeCount : Int32) (x1_aim : Int32) => u11 (fun (x2_lineCount : Int32) (x2_goodsCount : Int32) (x2_workCount : Int32) (x2_years : Int32) (x2_lines : (Nat → Int32)) (x2_goods : (Nat → Int32)) (x2_works : (Nat → Int32)) (x2_change : (Nat → Int32)) (x2_coin : (Nat → Int32)) (x2_knownFree : (Nat → Int32)) (x2_isKnown : Int32) => (fX1_linesThere n (x2_lineCount, x2_goodsCount, x2_workCount, x2_years, x2_lines, x2_goods, x2_works, x2_change, x2_coin, x2_knownFree, x2_isKnown)).bind (fun v1 => (fX5_prepare n (x1_edgeA, x1_edgeB, x1_edgeCost, x1_edgeLine, x1_change, x1_away, x1_steps, x1_nodes, x1_stepCount, x1_open, x1_openCount, x1_seen, x1_edgeCount, x1_aim) (x2_lineCount, x2_goodsCount, x2_workCount, x2_years, x2_lines, x2_goods, x2_works, x2_change, x2_coin, x2_knownFree, x2_isKnown) v1).bind (fun G3 => u7 (fun g4 g5 g6 g7 g8 g9 g10 => (fX5_aimAt n (g4, g5, g6, g7, g8, x1_away, x1_steps, x1_nodes, x1_stepCount, x1_open, x1_openCount, x1_seen, g9, g10) p3).bind (u2 fun g12 g13 => (fX5_costFrom n (g4, g5, g6, g7, g8, g12, x1_steps, x1_nodes, x1_stepCount, x1_open, x1_openCount, x1_seen, g9, g13) p2).bind (fun v15 => some (v15, (g4, g5, g6, g7, g8, g12, g9, g13))))) G3))) X2) X1) X0
set_option maxHeartbeats 4000000 in
set_option maxRecDepth 100000 in
theorem kX4_costBetween (l : Launch) (d : DT) (h0 : Nat → Nat) (h1 : Nat → Nat) (h2 : Nat → Nat) (n : Nat) (x0_left : (Nat → Int32)) (x0_earned : (Nat → Int32)) (x0_turnCost : Int32) (x0_turnWayless : Int32) (x1_edgeA : (Nat → Int32)) (x1_edgeB : (Nat → Int32)) (x1_edgeCost : (Nat → Int32)) (x1_edgeLine : (Nat → Int32)) (x1_change : (Nat → Int32)) (x1_away : (Nat → Int32)) (x1_steps : (Nat → Int32)) (x1_nodes : (Nat → Int32)) (x1_stepCount : Int32) (x1_open : (Nat → Int32)) (x1_openCount : Int32) (x1_seen : Int64) (x1_edgeCount : Int32) (x1_aim : Int32) (x2_lineCount : Int32) (x2_goodsCount : Int32) (x2_workCount : Int32) (x2_years : Int32) (x2_lines : (Nat → Int32)) (x2_goods : (Nat → Int32)) (x2_works : (Nat → Int32)) (x2_change : (Nat → Int32)) (x2_coin : (Nat → Int32)) (x2_knownFree : (Nat → Int32)) (x2_isKnown : Int32) (p2 : Int32) (p3 : Int32)  {out : Int32 × ((Nat → Int32) × (Nat → Int32) × (Nat → Int32) × (Nat → Int32) × (Nat → Int32) × (Nat → Int32) × Int32 × Int32)} (hf : fX4_costBetween n (x0_left, x0_earned, x0_turnCost, x0_turnWayless) (x1_edgeA, x1_edgeB, x1_edgeCost, x1_edgeLine, x1_change, x1_away, x1_steps, x1_nodes, x1_stepCount, x1_open, x1_openCount, x1_seen, x1_edgeCount, x1_aim) (x2_lineCount, x2_goodsCount, x2_workCount, x2_years, x2_lines, x2_goods, x2_works, x2_change, x2_coin, x2_knownFree, x2_isKnown) p2 p3 = some out) : Ct l d yX4_costBetween cX4_costBetween 4 (some .int) { frames := 2, cells := 0, slots := 0, locals := 51 } [.ref (h0 0), .ref (h2 0), .int p2, .int p3] [gTr d h0 (h1 0) x0_left x0_earned x0_turnCost x0_turnWayless, gWy d h1 x1_edgeA x1_edgeB x1_edgeCost x1_edgeLine x1_change x1_away x1_steps x1_nodes x1_stepCount x1_open x1_openCount x1_seen x1_edgeCount x1_aim, gLd d h2 x2_lineCount x2_goodsCount x2_workCount x2_years x2_lines x2_goods x2_works x2_change x2_coin x2_knownFree x2_isKnown] (fun _ : Unit => (some (.int out.1), [gTr d h0 (h1 0) x0_left x0_earned x0_turnCost x0_turnWayless, gWy d h1 (out.2.1) (out.2.2.1) (out.2.2.2.1) (out.2.2.2.2.1) (out.2.2.2.2.2.1) (out.2.2.2.2.2.2.1) x1_steps x1_nodes x1_stepCount x1_open x1_openCount x1_seen (out.2.2.2.2.2.2.2.1) (out.2.2.2.2.2.2.2.2), gLd d h2 x2_lineCount x2_goodsCount x2_workCount x2_years x2_lines x2_goods x2_works x2_change x2_coin x2_knownFree x2_isKnown])) := by
  refine Ct.of (by decide) (Nat.le_of_ble_eq_true rfl) ?_
  intro Φ hl hK hR
  subst hl
  have hK : Ok d Φ RX4 "costBetween" cX4_costBetween 4 (some .int) { frames := 2, cells := 0, slots := 0, locals := 51 } := hK
  unfold fX4_costBetween at hf
  have hf := un4 hf
  have hf := un14 hf
  have hf := un11 hf
  show J d Φ 4 [gTr d h0 (h1 0) x0_left x0_earned x0_turnCost x0_turnWayless, gWy d h1 x1_edgeA x1_edgeB x1_edgeCost x1_edgeLine x1_change x1_away x1_steps x1_nodes x1_stepCount x1_open x1_openCount x1_seen x1_edgeCount x1_aim, gLd d h2 x2_lineCount x2_goodsCount x2_workCount x2_years x2_lines x2_goods x2_works x2_change x2_coin x2_knownFree x2_isKnown] 0 0 0 [(0, .ref (h0 0)), (1, .ref (h2 0)), (2, .int p2), (3, .int p3)] []
  refine J_aload_n hK dX4_costBetween_0 rfl 0 rfl rfl ?_
  refine J_get hK fo_RX4_12 dX4_costBetween_1 rfl 0 0 rfl rfl rfl ?_
  refine J_aload_n hK dX4_costBetween_4 rfl 1 rfl rfl ?_
  refine J_aload_n hK dX4_costBetween_5 rfl 1 rfl rfl ?_
  obtain ⟨v1, e2, hf⟩ := bs hf
  refine J_callV (m' := 3) (ce' := 0) (sl' := 0) (gr := [gTr d h0 (h1 0) x0_left x0_earned x0_turnCost x0_turnWayless, gWy d h1 x1_edgeA x1_edgeB x1_edgeCost x1_edgeLine x1_change x1_away x1_steps x1_nodes x1_stepCount x1_open x1_openCount x1_seen x1_edgeCount x1_aim]) (gs' := fun _ => [gTr d h0 (h1 0) x0_left x0_earned x0_turnCost x0_turnWayless, gWy d h1 x1_edgeA x1_edgeB x1_edgeCost x1_edgeLine x1_change x1_away x1_steps x1_nodes x1_stepCount x1_open x1_openCount x1_seen x1_edgeCount x1_aim, gLd d h2 x2_lineCount x2_goodsCount x2_workCount x2_years x2_lines x2_goods x2_works x2_change x2_coin x2_knownFree x2_isKnown]) (st' := fun _ => [.int v1, .ref (h2 0), .ref (h1 0)]) (st := [.ref (h2 0), .ref (h1 0)]) hK dX4_costBetween_6 cv_RX4_25 iv_yX1_linesThere (As := []) (kX1_linesThere _ d h2 n x2_lineCount x2_goodsCount x2_workCount x2_years x2_lines x2_goods x2_works x2_change x2_coin x2_knownFree x2_isKnown e2) rfl rfl (Nat.le_of_ble_eq_true rfl) (by decide) 2 0 rfl rfl rfl [2] [0, 1] rfl rfl rfl rfl [0, 1, 2] rfl (fun _ => rfl) (fun _ => rfl) rfl rfl rfl (fun _ => rfl) (fun _ => ?_)
  obtain ⟨⟨g4, g5, g6, g7, g8, g9, g10⟩, e11, hf⟩ := bs hf
  have hf := un7 hf
  refine J_callV (m' := 3) (ce' := 0) (sl' := 0) (gr := [gTr d h0 (h1 0) x0_left x0_earned x0_turnCost x0_turnWayless]) (gs' := fun _ => [gTr d h0 (h1 0) x0_left x0_earned x0_turnCost x0_turnWayless, gWy d h1 g4 g5 g6 g7 g8 x1_away x1_steps x1_nodes x1_stepCount x1_open x1_openCount x1_seen g9 g10, gLd d h2 x2_lineCount x2_goodsCount x2_workCount x2_years x2_lines x2_goods x2_works x2_change x2_coin x2_knownFree x2_isKnown]) (st' := fun _ => []) (st := []) hK dX4_costBetween_9 cv_RX4_31 iv_yX5_prepare (As := [.ref (h2 0), .int v1]) (kX5_prepare _ d h1 h2 n x1_edgeA x1_edgeB x1_edgeCost x1_edgeLine x1_change x1_away x1_steps x1_nodes x1_stepCount x1_open x1_openCount x1_seen x1_edgeCount x1_aim x2_lineCount x2_goodsCount x2_workCount x2_years x2_lines x2_goods x2_works x2_change x2_coin x2_knownFree x2_isKnown v1 e11) rfl rfl (Nat.le_of_ble_eq_true rfl) (by decide) 1 0 rfl rfl rfl [1, 2] [0] rfl rfl rfl rfl [0, 1, 2] rfl (fun _ => rfl) (fun _ => rfl) rfl rfl rfl (fun _ => rfl) (fun _ => ?_)
  refine J_aload_n hK dX4_costBetween_12 rfl 0 rfl rfl ?_
  refine J_get hK fo_RX4_12 dX4_costBetween_13 rfl 0 0 rfl rfl rfl ?_
  refine J_iload_n hK dX4_costBetween_16 rfl 3 rfl rfl ?_
  obtain ⟨⟨g12, g13⟩, e14, hf⟩ := bs hf
  have hf := un2 hf
  refine J_callV (m' := 3) (ce' := 0) (sl' := 0) (gr := [gTr d h0 (h1 0) x0_left x0_earned x0_turnCost x0_turnWayless, gLd d h2 x2_lineCount x2_goodsCount x2_workCount x2_years x2_lines x2_goods x2_works x2_change x2_coin x2_knownFree x2_isKnown]) (gs' := fun _ => [gTr d h0 (h1 0) x0_left x0_earned x0_turnCost x0_turnWayless, gWy d h1 g4 g5 g6 g7 g8 g12 x1_steps x1_nodes x1_stepCount x1_open x1_openCount x1_seen g9 g13, gLd d h2 x2_lineCount x2_goodsCount x2_workCount x2_years x2_lines x2_goods x2_works x2_change x2_coin x2_knownFree x2_isKnown]) (st' := fun _ => []) (st := []) hK dX4_costBetween_17 cv_RX4_35 iv_yX5_aimAt (As := [.int p3]) (kX5_aimAt _ d h1 n g4 g5 g6 g7 g8 x1_away x1_steps x1_nodes x1_stepCount x1_open x1_openCount x1_seen g9 g10 p3 e14) rfl rfl (Nat.le_of_ble_eq_true rfl) (by decide) 1 0 rfl rfl rfl [1] [0, 2] rfl rfl rfl rfl [0, 2, 1] rfl (fun _ => rfl) (fun _ => rfl) rfl rfl rfl (fun _ => rfl) (fun _ => ?_)
  refine J_aload_n hK dX4_costBetween_20 rfl 0 rfl rfl ?_
  refine J_get hK fo_RX4_12 dX4_costBetween_21 rfl 0 0 rfl rfl rfl ?_
  refine J_iload_n hK dX4_costBetween_24 rfl 2 rfl rfl ?_
  obtain ⟨v15, e16, hf⟩ := bs hf
  refine J_callV (m' := 3) (ce' := 0) (sl' := 0) (gr := [gTr d h0 (h1 0) x0_left x0_earned x0_turnCost x0_turnWayless, gLd d h2 x2_lineCount x2_goodsCount x2_workCount x2_years x2_lines x2_goods x2_works x2_change x2_coin x2_knownFree x2_isKnown]) (gs' := fun _ => [gTr d h0 (h1 0) x0_left x0_earned x0_turnCost x0_turnWayless, gWy d h1 g4 g5 g6 g7 g8 g12 x1_steps x1_nodes x1_stepCount x1_open x1_openCount x1_seen g9 g13, gLd d h2 x2_lineCount x2_goodsCount x2_workCount x2_years x2_lines x2_goods x2_works x2_change x2_coin x2_knownFree x2_isKnown]) (st' := fun _ => [.int v15]) (st := []) hK dX4_costBetween_25 cv_RX4_39 iv_yX5_costFrom (As := [.int p2]) (kX5_costFrom _ d h1 n g4 g5 g6 g7 g8 g12 x1_steps x1_nodes x1_stepCount x1_open x1_openCount x1_seen g9 g13 p2 e16) rfl rfl (Nat.le_of_ble_eq_true rfl) (by decide) 1 0 rfl rfl rfl [1] [0, 2] rfl rfl rfl rfl [0, 2, 1] rfl (fun _ => rfl) (fun _ => rfl) rfl rfl rfl (fun _ => rfl) (fun _ => ?_)
  obtain rfl := Option.some.inj hf
  exact J_iret hK hR dX4_costBetween_28 () rfl (by decide) (by decide)

def fX4_linesBearing_s8 (p2 : Int32) (x0_left : (Nat → Int32)) (x1_lineCount : Int32) (z4 : Int32) (z5 : Int32) : Option ((Int32 × Int32) ⊕ (Int32)) :=
  if x1_lineCount ≤ z5 then (some (.inr z4)) else ((rd 20 x0_left z5).bind fun v8 => if p2 ≤ v8 then (some (.inl (z4, (z5 + 1)))) else ((some (z4 &&& (((1 : Int32) <<< (z5 &&& 31)) ^^^ (-1)))).bind fun t9 => some (.inl (t9, (z5 + 1)))))
def fX4_linesBearing (n : Nat) (X0 : TrT) (X1 : LdT) (p2 : Int32) : Option (Int32) :=
  u4 (fun (x0_left : (Nat → Int32)) (x0_earned : (Nat → Int32)) (x0_turnCost : Int32) (x0_turnWayless : Int32) => u11 (fun (x1_lineCount : Int32) (x1_goodsCount : Int32) (x1_workCount : Int32) (x1_years : Int32) (x1_lines : (Nat → Int32)) (x1_goods : (Nat → Int32)) (x1_works : (Nat → Int32)) (x1_change : (Nat → Int32)) (x1_coin : (Nat → Int32)) (x1_knownFree : (Nat → Int32)) (x1_isKnown : Int32) => (fX1_linesThere n (x1_lineCount, x1_goodsCount, x1_workCount, x1_years, x1_lines, x1_goods, x1_works, x1_change, x1_coin, x1_knownFree, x1_isKnown)).bind (fun v1 => (lp (u2 (fX4_linesBearing_s8 p2 x0_left x1_lineCount)) n (v1, 0)).bind (fun w7 => some w7))) X1) X0
set_option maxHeartbeats 4000000 in
set_option maxRecDepth 100000 in
theorem kX4_linesBearing (l : Launch) (d : DT) (h0 : Nat → Nat) (a0_ways : Nat) (h1 : Nat → Nat) (n : Nat) (x0_left : (Nat → Int32)) (x0_earned : (Nat → Int32)) (x0_turnCost : Int32) (x0_turnWayless : Int32) (x1_lineCount : Int32) (x1_goodsCount : Int32) (x1_workCount : Int32) (x1_years : Int32) (x1_lines : (Nat → Int32)) (x1_goods : (Nat → Int32)) (x1_works : (Nat → Int32)) (x1_change : (Nat → Int32)) (x1_coin : (Nat → Int32)) (x1_knownFree : (Nat → Int32)) (x1_isKnown : Int32) (p2 : Int32)  {out : Int32} (hf : fX4_linesBearing n (x0_left, x0_earned, x0_turnCost, x0_turnWayless) (x1_lineCount, x1_goodsCount, x1_workCount, x1_years, x1_lines, x1_goods, x1_works, x1_change, x1_coin, x1_knownFree, x1_isKnown) p2 = some out) : Ct l d yX4_linesBearing cX4_linesBearing 5 (some .int) { frames := 2, cells := 0, slots := 0, locals := 44 } [.ref (h0 0), .ref (h1 0), .int p2] [gTr d h0 a0_ways x0_left x0_earned x0_turnCost x0_turnWayless, gLd d h1 x1_lineCount x1_goodsCount x1_workCount x1_years x1_lines x1_goods x1_works x1_change x1_coin x1_knownFree x1_isKnown] (fun _ : Unit => (some (.int out), [gTr d h0 a0_ways x0_left x0_earned x0_turnCost x0_turnWayless, gLd d h1 x1_lineCount x1_goodsCount x1_workCount x1_years x1_lines x1_goods x1_works x1_change x1_coin x1_knownFree x1_isKnown])) := by
  refine Ct.of (by decide) (Nat.le_of_ble_eq_true rfl) ?_
  intro Φ hl hK hR
  subst hl
  have hK : Ok d Φ RX4 "linesBearing" cX4_linesBearing 5 (some .int) { frames := 2, cells := 0, slots := 0, locals := 44 } := hK
  unfold fX4_linesBearing at hf
  have hf := un4 hf
  have hf := un11 hf
  show J d Φ 5 [gTr d h0 a0_ways x0_left x0_earned x0_turnCost x0_turnWayless, gLd d h1 x1_lineCount x1_goodsCount x1_workCount x1_years x1_lines x1_goods x1_works x1_change x1_coin x1_knownFree x1_isKnown] 0 0 0 [(0, .ref (h0 0)), (1, .ref (h1 0)), (2, .int p2)] []
  refine J_aload_n hK dX4_linesBearing_0 rfl 1 rfl rfl ?_
  obtain ⟨v1, e2, hf⟩ := bs hf
  refine J_callV (m' := 2) (ce' := 0) (sl' := 0) (gr := [gTr d h0 a0_ways x0_left x0_earned x0_turnCost x0_turnWayless]) (gs' := fun _ => [gTr d h0 a0_ways x0_left x0_earned x0_turnCost x0_turnWayless, gLd d h1 x1_lineCount x1_goodsCount x1_workCount x1_years x1_lines x1_goods x1_works x1_change x1_coin x1_knownFree x1_isKnown]) (st' := fun _ => [.int v1]) (st := []) hK dX4_linesBearing_1 cv_RX4_25 iv_yX1_linesThere (As := []) (kX1_linesThere _ d h1 n x1_lineCount x1_goodsCount x1_workCount x1_years x1_lines x1_goods x1_works x1_change x1_coin x1_knownFree x1_isKnown e2) rfl rfl (Nat.le_of_ble_eq_true rfl) (by decide) 1 0 rfl rfl rfl [1] [0] rfl rfl rfl rfl [0, 1] rfl (fun _ => rfl) (fun _ => rfl) rfl rfl rfl (fun _ => rfl) (fun _ => ?_)
  refine J_istore_n (L' := [(3, .int v1), (0, .ref (h0 0)), (1, .ref (h1 0)), (2, .int p2)]) hK dX4_linesBearing_4 rfl rfl (by decide) rfl ?_
  refine J_iconst (v := 0) hK dX4_linesBearing_5 rfl (by decide) ?_
  refine J_istore (L' := [(4, .int (0)), (3, .int v1), (0, .ref (h0 0)), (1, .ref (h1 0)), (2, .int p2)]) hK dX4_linesBearing_6 rfl (by decide) rfl ?_
  obtain ⟨e6, hl3, hf⟩ := bs hf
  have hx3_43 : ∀ (w7 : Int32), w7 = e6 → J d Φ 5 [gTr d h0 a0_ways x0_left x0_earned x0_turnCost x0_turnWayless, gLd d h1 x1_lineCount x1_goodsCount x1_workCount x1_years x1_lines x1_goods x1_works x1_change x1_coin x1_knownFree x1_isKnown] 0 0 43 [(3, .int w7)] [] := by
    intro w7 he
    rw [← he] at hf
    refine J_iload_n hK dX4_linesBearing_43 rfl 0 rfl rfl ?_
    obtain rfl := Option.some.inj hf
    exact J_iret hK hR dX4_linesBearing_44 () rfl (by decide) (by decide)
  have lo3 : ∀ (k : Nat) (z4 : Int32) (z5 : Int32), lp (u2 (fX4_linesBearing_s8 p2 x0_left x1_lineCount)) k (z4, z5) = some e6 → J d Φ 5 [gTr d h0 a0_ways x0_left x0_earned x0_turnCost x0_turnWayless, gLd d h1 x1_lineCount x1_goodsCount x1_workCount x1_years x1_lines x1_goods x1_works x1_change x1_coin x1_knownFree x1_isKnown] 0 0 8 [(0, .ref (h0 0)), (1, .ref (h1 0)), (2, .int p2), (3, .int z4), (4, .int z5)] [] := by
    intro k
    induction k with
    | zero => intro z4 z5 h; cases h
    | succ k ih3 =>
      intro z4 z5 h
      obtain ⟨k2, rr3, hk2, hs3, hr3⟩ := lp_ok h
      cases hk2
      have hs3 : fX4_linesBearing_s8 p2 x0_left x1_lineCount z4 z5 = some rr3 := hs3
      unfold fX4_linesBearing_s8 at hs3
      refine J_iload hK dX4_linesBearing_8 rfl 4 rfl ?_
      refine J_aload_n hK dX4_linesBearing_10 rfl 1 rfl rfl ?_
      refine J_get hK fo_RX4_57 dX4_linesBearing_11 rfl 1 0 rfl rfl rfl ?_
      refine J_icmp_ge (tg := 43) hK dX4_linesBearing_14 rfl rfl (fun hc14 => ?_) (fun hc14 => ?_)
      · have hs3 := ip hc14 hs3
        exact J_loc [3] rfl (hx3_43 z4 (lpx hs3 hr3))
      · have hs3 := iq hc14 hs3
        refine J_aload_n hK dX4_linesBearing_17 rfl 0 rfl rfl ?_
        refine J_get hK fo_RX4_18 dX4_linesBearing_18 rfl 0 0 rfl rfl rfl ?_
        refine J_iload hK dX4_linesBearing_21 rfl 4 rfl ?_
        obtain ⟨v8, ev8, hs3⟩ := bs hs3
        refine J_iald hK dX4_linesBearing_23 rfl 0 1 rfl rfl ev8 ?_
        refine J_iload_n hK dX4_linesBearing_24 rfl 2 rfl rfl ?_
        refine J_icmp_ge (tg := 37) hK dX4_linesBearing_25 rfl rfl (fun hc25 => ?_) (fun hc25 => ?_)
        · have hs3 := ip hc25 hs3
          refine J_iinc (L' := [(4, .int (z5 + 1)), (0, .ref (h0 0)), (1, .ref (h1 0)), (2, .int p2), (3, .int z4)]) (v := (z5 + 1)) hK dX4_linesBearing_37 rfl 4 rfl rfl (by decide) rfl ?_
          refine J_goto hK dX4_linesBearing_40 (n := 8) rfl ?_
          exact J_loc [1, 2, 3, 4, 0] rfl (ih3 z4 (z5 + 1) (lpc hs3 hr3))
        · have hs3 := iq hc25 hs3
          refine J_iload_n hK dX4_linesBearing_28 rfl 3 rfl rfl ?_
          refine J_iconst (v := 1) hK dX4_linesBearing_29 rfl (by decide) ?_
          refine J_iload hK dX4_linesBearing_30 rfl 4 rfl ?_
          refine J_ishl hK dX4_linesBearing_32 rfl ?_
          refine J_iconst (v := (-1)) hK dX4_linesBearing_33 rfl (by decide) ?_
          refine J_ixor hK dX4_linesBearing_34 rfl ?_
          refine J_iand hK dX4_linesBearing_35 rfl ?_
          obtain ⟨t9, et9, hs3⟩ := bs hs3
          refine J_nmi et9 ?_
          refine J_istore_n (L' := [(3, .int t9), (0, .ref (h0 0)), (1, .ref (h1 0)), (2, .int p2), (4, .int z5)]) hK dX4_linesBearing_36 rfl rfl (by decide) rfl ?_
          refine J_iinc (L' := [(4, .int (z5 + 1)), (3, .int t9), (0, .ref (h0 0)), (1, .ref (h1 0)), (2, .int p2)]) (v := (z5 + 1)) hK dX4_linesBearing_37 rfl 4 rfl rfl (by decide) rfl ?_
          refine J_goto hK dX4_linesBearing_40 (n := 8) rfl ?_
          exact J_loc [2, 3, 4, 1, 0] rfl (ih3 t9 (z5 + 1) (lpc hs3 hr3))
  exact J_loc [2, 3, 4, 1, 0] rfl (lo3 n v1 (0) hl3)

def fX4_load_s2 (p1 : Int32) (x1_edgeA : (Nat → Int32)) (x1_edgeB : (Nat → Int32)) (x1_edgeCost : (Nat → Int32)) (x1_edgeLine : (Nat → Int32)) (x1_change : (Nat → Int32)) (x1_away : (Nat → Int32)) (x1_steps : (Nat → Int32)) (x1_nodes : (Nat → Int32)) (x1_stepCount : Int32) (x1_open : (Nat → Int32)) (x1_openCount : Int32) (x1_seen : Int64) (x1_edgeCount : Int32) (x1_aim : Int32) (z2 : Int32) (z3 : (Nat → Int32)) : Option ((Int32 × (Nat → Int32)) ⊕ ((Nat → Int32))) :=
  if x1_stepCount ≤ z2 then (some (.inr z3)) else ((fX5_lineOn (x1_edgeA, x1_edgeB, x1_edgeCost, x1_edgeLine, x1_change, x1_away, x1_steps, x1_nodes, x1_stepCount, x1_open, x1_openCount, x1_seen, x1_edgeCount, x1_aim) z2).bind (fun v6 => if v6 = (-1) then (some (.inl ((z2 + 1), z3))) else ((rd 20 z3 v6).bind fun v8 => (wr 20 z3 v6 (mmax (0) (v8 - p1))).bind fun f9 => some (.inl ((z2 + 1), f9)))))
def fX4_load (n : Nat) (X0 : TrT) (X1 : WyT) (p1 : Int32) : Option ((Nat → Int32)) :=
  u4 (fun (x0_left : (Nat → Int32)) (x0_earned : (Nat → Int32)) (x0_turnCost : Int32) (x0_turnWayless : Int32) => u14 (fun (x1_edgeA : (Nat → Int32)) (x1_edgeB : (Nat → Int32)) (x1_edgeCost : (Nat → Int32)) (x1_edgeLine : (Nat → Int32)) (x1_change : (Nat → Int32)) (x1_away : (Nat → Int32)) (x1_steps : (Nat → Int32)) (x1_nodes : (Nat → Int32)) (x1_stepCount : Int32) (x1_open : (Nat → Int32)) (x1_openCount : Int32) (x1_seen : Int64) (x1_edgeCount : Int32) (x1_aim : Int32) => (lp (u2 (fX4_load_s2 p1 x1_edgeA x1_edgeB x1_edgeCost x1_edgeLine x1_change x1_away x1_steps x1_nodes x1_stepCount x1_open x1_openCount x1_seen x1_edgeCount x1_aim)) n (1, x0_left)).bind (fun w5 => some w5)) X1) X0
set_option maxHeartbeats 4000000 in
set_option maxRecDepth 100000 in
theorem kX4_load (l : Launch) (d : DT) (h0 : Nat → Nat) (h1 : Nat → Nat) (n : Nat) (x0_left : (Nat → Int32)) (x0_earned : (Nat → Int32)) (x0_turnCost : Int32) (x0_turnWayless : Int32) (x1_edgeA : (Nat → Int32)) (x1_edgeB : (Nat → Int32)) (x1_edgeCost : (Nat → Int32)) (x1_edgeLine : (Nat → Int32)) (x1_change : (Nat → Int32)) (x1_away : (Nat → Int32)) (x1_steps : (Nat → Int32)) (x1_nodes : (Nat → Int32)) (x1_stepCount : Int32) (x1_open : (Nat → Int32)) (x1_openCount : Int32) (x1_seen : Int64) (x1_edgeCount : Int32) (x1_aim : Int32) (p1 : Int32)  {out : (Nat → Int32)} (hf : fX4_load n (x0_left, x0_earned, x0_turnCost, x0_turnWayless) (x1_edgeA, x1_edgeB, x1_edgeCost, x1_edgeLine, x1_change, x1_away, x1_steps, x1_nodes, x1_stepCount, x1_open, x1_openCount, x1_seen, x1_edgeCount, x1_aim) p1 = some out) : Ct l d yX4_load cX4_load 4 none { frames := 2, cells := 0, slots := 0, locals := 43 } [.ref (h0 0), .int p1] [gTr d h0 (h1 0) x0_left x0_earned x0_turnCost x0_turnWayless, gWy d h1 x1_edgeA x1_edgeB x1_edgeCost x1_edgeLine x1_change x1_away x1_steps x1_nodes x1_stepCount x1_open x1_openCount x1_seen x1_edgeCount x1_aim] (fun _ : Unit => (none, [gTr d h0 (h1 0) out x0_earned x0_turnCost x0_turnWayless, gWy d h1 x1_edgeA x1_edgeB x1_edgeCost x1_edgeLine x1_change x1_away x1_steps x1_nodes x1_stepCount x1_open x1_openCount x1_seen x1_edgeCount x1_aim])) := by
  refine Ct.of (by decide) (Nat.le_of_ble_eq_true rfl) ?_
  intro Φ hl hK hR
  subst hl
  have hK : Ok d Φ RX4 "load" cX4_load 4 none { frames := 2, cells := 0, slots := 0, locals := 43 } := hK
  unfold fX4_load at hf
  have hf := un4 hf
  have hf := un14 hf
  show J d Φ 4 [gTr d h0 (h1 0) x0_left x0_earned x0_turnCost x0_turnWayless, gWy d h1 x1_edgeA x1_edgeB x1_edgeCost x1_edgeLine x1_change x1_away x1_steps x1_nodes x1_stepCount x1_open x1_openCount x1_seen x1_edgeCount x1_aim] 0 0 0 [(0, .ref (h0 0)), (1, .int p1)] []
  refine J_iconst (v := 1) hK dX4_load_0 rfl (by decide) ?_
  refine J_istore_n (L' := [(2, .int (1)), (0, .ref (h0 0)), (1, .int p1)]) hK dX4_load_1 rfl rfl (by decide) rfl ?_
  obtain ⟨e4, hl1, hf⟩ := bs hf
  have hx1_51 : ∀ (w5 : (Nat → Int32)), w5 = e4 → J d Φ 4 [gTr d h0 (h1 0) w5 x0_earned x0_turnCost x0_turnWayless, gWy d h1 x1_edgeA x1_edgeB x1_edgeCost x1_edgeLine x1_change x1_away x1_steps x1_nodes x1_stepCount x1_open x1_openCount x1_seen x1_edgeCount x1_aim] 0 0 51 [] [] := by
    intro w5 he
    rw [← he] at hf
    obtain rfl := Option.some.inj hf
    exact J_vret hK hR dX4_load_51 () rfl (by decide) (by decide)
  have lo1 : ∀ (k : Nat) (z2 : Int32) (z3 : (Nat → Int32)), lp (u2 (fX4_load_s2 p1 x1_edgeA x1_edgeB x1_edgeCost x1_edgeLine x1_change x1_away x1_steps x1_nodes x1_stepCount x1_open x1_openCount x1_seen x1_edgeCount x1_aim)) k (z2, z3) = some e4 → J d Φ 4 [gTr d h0 (h1 0) z3 x0_earned x0_turnCost x0_turnWayless, gWy d h1 x1_edgeA x1_edgeB x1_edgeCost x1_edgeLine x1_change x1_away x1_steps x1_nodes x1_stepCount x1_open x1_openCount x1_seen x1_edgeCount x1_aim] 0 0 2 [(0, .ref (h0 0)), (1, .int p1), (2, .int z2)] [] := by
    intro k
    induction k with
    | zero => intro z2 z3 h; cases h
    | succ k ih1 =>
      intro z2 z3 h
      obtain ⟨k2, rr1, hk2, hs1, hr1⟩ := lp_ok h
      cases hk2
      have hs1 : fX4_load_s2 p1 x1_edgeA x1_edgeB x1_edgeCost x1_edgeLine x1_change x1_away x1_steps x1_nodes x1_stepCount x1_open x1_openCount x1_seen x1_edgeCount x1_aim z2 z3 = some rr1 := hs1
      unfold fX4_load_s2 at hs1
      refine J_iload_n hK dX4_load_2 rfl 2 rfl rfl ?_
      refine J_aload_n hK dX4_load_3 rfl 0 rfl rfl ?_
      refine J_get hK fo_RX4_12 dX4_load_4 rfl 0 0 rfl rfl rfl ?_
      refine J_get hK fo_RX4_74 dX4_load_7 rfl 1 0 rfl rfl rfl ?_
      refine J_icmp_ge (tg := 51) hK dX4_load_10 rfl rfl (fun hc10 => ?_) (fun hc10 => ?_)
      · have hs1 := ip hc10 hs1
        exact J_loc [] rfl (hx1_51 z3 (lpx hs1 hr1))
      · have hs1 := iq hc10 hs1
        refine J_aload_n hK dX4_load_13 rfl 0 rfl rfl ?_
        refine J_get hK fo_RX4_12 dX4_load_14 rfl 0 0 rfl rfl rfl ?_
        refine J_iload_n hK dX4_load_17 rfl 2 rfl rfl ?_
        obtain ⟨v6, e7, hs1⟩ := bs hs1
        refine J_callV (m' := 2) (ce' := 0) (sl' := 0) (gr := [gTr d h0 (h1 0) z3 x0_earned x0_turnCost x0_turnWayless]) (gs' := fun _ => [gTr d h0 (h1 0) z3 x0_earned x0_turnCost x0_turnWayless, gWy d h1 x1_edgeA x1_edgeB x1_edgeCost x1_edgeLine x1_change x1_away x1_steps x1_nodes x1_stepCount x1_open x1_openCount x1_seen x1_edgeCount x1_aim]) (st' := fun _ => [.int v6]) (st := []) hK dX4_load_18 cv_RX4_77 iv_yX5_lineOn (As := [.int z2]) (kX5_lineOn _ d h1 x1_edgeA x1_edgeB x1_edgeCost x1_edgeLine x1_change x1_away x1_steps x1_nodes x1_stepCount x1_open x1_openCount x1_seen x1_edgeCount x1_aim z2 e7) rfl rfl (Nat.le_of_ble_eq_true rfl) (by decide) 1 0 rfl rfl rfl [1] [0] rfl rfl rfl rfl [0, 1] rfl (fun _ => rfl) (fun _ => rfl) rfl rfl rfl (fun _ => rfl) (fun _ => ?_)
        refine J_istore_n (L' := [(3, .int v6), (0, .ref (h0 0)), (1, .int p1), (2, .int z2)]) hK dX4_load_21 rfl rfl (by decide) rfl ?_
        refine J_iload_n hK dX4_load_22 rfl 0 rfl rfl ?_
        refine J_iconst (v := (-1)) hK dX4_load_23 rfl (by decide) ?_
        refine J_icmp_eq (tg := 45) hK dX4_load_24 rfl rfl (fun hc24 => ?_) (fun hc24 => ?_)
        · have hs1 := ip hc24 hs1
          refine J_iinc (L' := [(2, .int (z2 + 1)), (3, .int v6), (0, .ref (h0 0)), (1, .int p1)]) (v := (z2 + 1)) hK dX4_load_45 rfl 3 rfl rfl (by decide) rfl ?_
          refine J_goto hK dX4_load_48 (n := 2) rfl ?_
          exact J_loc [2, 3, 0] rfl (ih1 (z2 + 1) z3 (lpc hs1 hr1))
        · have hs1 := iq hc24 hs1
          refine J_aload_n hK dX4_load_27 rfl 1 rfl rfl ?_
          refine J_get hK fo_RX4_18 dX4_load_28 rfl 0 0 rfl rfl rfl ?_
          refine J_iload_n hK dX4_load_31 rfl 0 rfl rfl ?_
          refine J_iconst (v := 0) hK dX4_load_32 rfl (by decide) ?_
          refine J_aload_n hK dX4_load_33 rfl 1 rfl rfl ?_
          refine J_get hK fo_RX4_18 dX4_load_34 rfl 0 0 rfl rfl rfl ?_
          refine J_iload_n hK dX4_load_37 rfl 0 rfl rfl ?_
          obtain ⟨v8, ev8, hs1⟩ := bs hs1
          refine J_iald hK dX4_load_38 rfl 0 1 rfl rfl ev8 ?_
          refine J_iload_n hK dX4_load_39 rfl 2 rfl rfl ?_
          refine J_isub hK dX4_load_40 rfl ?_
          refine J_max hK dX4_load_41 rfl mm_RX4_80 (by decide) (Nat.le_of_ble_eq_true rfl) (by decide) (by decide) ?_
          obtain ⟨f9, ef9, hs1⟩ := bs hs1
          refine J_iast (g' := gTr d h0 (h1 0) f9 x0_earned x0_turnCost x0_turnWayless) (gs' := [gTr d h0 (h1 0) f9 x0_earned x0_turnCost x0_turnWayless, gWy d h1 x1_edgeA x1_edgeB x1_edgeCost x1_edgeLine x1_change x1_away x1_steps x1_nodes x1_stepCount x1_open x1_openCount x1_seen x1_edgeCount x1_aim]) hK dX4_load_44 rfl 0 1 rfl rfl ef9 rfl rfl ?_
          refine J_iinc (L' := [(2, .int (z2 + 1)), (3, .int v6), (0, .ref (h0 0)), (1, .int p1)]) (v := (z2 + 1)) hK dX4_load_45 rfl 3 rfl rfl (by decide) rfl ?_
          refine J_goto hK dX4_load_48 (n := 2) rfl ?_
          exact J_loc [2, 3, 0] rfl (ih1 (z2 + 1) f9 (lpc hs1 hr1))
  exact J_loc [1, 2, 0] rfl (lo1 n (1) x0_left hl1)

def fX4_sendInTurn_s40 (n : Nat) (x0_earned : (Nat → Int32)) (x2_lineCount : Int32) (x2_goodsCount : Int32) (x2_workCount : Int32) (x2_years : Int32) (x2_lines : (Nat → Int32)) (x2_goods : (Nat → Int32)) (x2_works : (Nat → Int32)) (x2_change : (Nat → Int32)) (x2_coin : (Nat → Int32)) (x2_knownFree : (Nat → Int32)) (x2_isKnown : Int32) (z7 : Int32) (z8 : (Nat → Int32)) (z9 : Int32) (z10 : Int32) (z11 : (Nat → Int32)) (z12 : (Nat → Int32)) (z13 : (Nat → Int32)) (z14 : (Nat → Int32)) (z15 : (Nat → Int32)) (z16 : (Nat → Int32)) (z17 : (Nat → Int32)) (z18 : (Nat → Int32)) (z19 : Int32) (z20 : (Nat → Int32)) (z21 : Int32) (z22 : Int64) (z23 : Int32) (z24 : Int32) : Option ((Int32 × (Nat → Int32) × Int32 × Int32 × (Nat → Int32) × (Nat → Int32) × (Nat → Int32) × (Nat → Int32) × (Nat → Int32) × (Nat → Int32) × (Nat → Int32) × (Nat → Int32) × Int32 × (Nat → Int32) × Int32 × Int64 × Int32 × Int32) ⊕ ((Nat → Int32) × Int32 × Int32 × (Nat → Int32) × (Nat → Int32) × (Nat → Int32) × (Nat → Int32) × (Nat → Int32) × (Nat → Int32) × (Nat → Int32) × (Nat → Int32) × Int32 × (Nat → Int32) × Int32 × Int64 × Int32 × Int32)) :=
  if x2_goodsCount ≤ z7 then (some (.inr (z8, z9, z10, z11, z12, z13, z14, z15, z16, z17, z18, z19, z20, z21, z22, z23, z24))) else ((fX1_ofGoods (x2_lineCount, x2_goodsCount, x2_workCount, x2_years, x2_lines, x2_goods, x2_works, x2_change, x2_coin, x2_knownFree, x2_isKnown) z7 (2)).bind (fun v43 => (fX1_ofGoods (x2_lineCount, x2_goodsCount, x2_workCount, x2_years, x2_lines, x2_goods, x2_works, x2_change, x2_coin, x2_knownFree, x2_isKnown) z7 (0)).bind (fun v45 => (fX1_ofGoods (x2_lineCount, x2_goodsCount, x2_workCount, x2_years, x2_lines, x2_goods, x2_works, x2_change, x2_coin, x2_knownFree, x2_isKnown) z7 (1)).bind (fun v47 => (fX4_linesBearing n (z8, x0_earned, z9, z10) (x2_lineCount, x2_goodsCount, x2_workCount, x2_years, x2_lines, x2_goods, x2_works, x2_change, x2_coin, x2_knownFree, x2_isKnown) v43).bind (fun v49 => (fX5_prepare n (z11, z12, z13, z14, z15, z16, z17, z18, z19, z20, z21, z22, z23, z24) (x2_lineCount, x2_goodsCount, x2_workCount, x2_years, x2_lines, x2_goods, x2_works, x2_change, x2_coin, x2_knownFree, x2_isKnown) v49).bind (fun G51 => u7 (fun g52 g53 g54 g55 g56 g57 g58 => (fX5_trace n (g52, g53, g54, g55, g56, z16, z17, z18, z19, z20, z21, z22, g57, g58) v45 v47).bind (u2 fun v60 G61 => u8 (fun g62 g63 g64 g65 g66 g67 g68 g69 => if v60 = 0 then (some (.inl ((z7 + 1), z8, (z9 + (v43 * 999)), (z10 + v43), g52, g53, g54, g55, g56, g62, g63, g64, g65, g66, g67, g68, g57, g69))) else ((fX5_costFrom n (g52, g53, g54, g55, g56, g62, g63, g64, g65, g66, g67, g68, g57, g69) v45).bind (fun v71 => (fX4_load n (z8, x0_earned, (z9 + (v43 * v71)), z10) (g52, g53, g54, g55, g56, g62, g63, g64, g65, g66, g67, g68, g57, g69) v43).bind (fun g73 => some (.inl ((z7 + 1), g73, (z9 + (v43 * v71)), z10, g52, g53, g54, g55, g56, g62, g63, g64, g65, g66, g67, g68, g57, g69)))))) G61)) G51))))))
def fX4_sendInTurn_s12 (x2_lineCount : Int32) (x2_goodsCount : Int32) (x2_workCount : Int32) (x2_years : Int32) (x2_lines : (Nat → Int32)) (x2_goods : (Nat → Int32)) (x2_works : (Nat → Int32)) (x2_change : (Nat → Int32)) (x2_coin : (Nat → Int32)) (x2_knownFree : (Nat → Int32)) (x2_isKnown : Int32) (z2 : Int32) (z3 : (Nat → Int32)) : Option ((Int32 × (Nat → Int32)) ⊕ ((Nat → Int32))) :=
  if x2_lineCount ≤ z2 then (some (.inr z3)) else ((fX1_ofLine (x2_lineCount, x2_goodsCount, x2_workCount, x2_years, x2_lines, x2_goods, x2_works, x2_change, x2_coin, x2_knownFree, x2_isKnown) z2 (4)).bind (fun v75 => (wr 20 z3 z2 v75).bind fun f77 => some (.inl ((z2 + 1), f77))))
def fX4_sendInTurn (n : Nat) (X0 : TrT) (X1 : WyT) (X2 : LdT) : Option ((Nat → Int32) × Int32 × Int32 × ((Nat → Int32) × (Nat → Int32) × (Nat → Int32) × (Nat → Int32) × (Nat → Int32) × (Nat → Int32) × (Nat → Int32) × (Nat → Int32) × Int32 × (Nat → Int32) × Int32 × Int64 × Int32 × Int32)) :=
  u4 (fun (x0_left : (Nat → Int32)) (x0_earned : (Nat → Int32)) (x0_turnCost : Int32) (x0_turnWayless : Int32) => u14 (fun (x1_edgeA : (Nat → Int32)) (x1_edgeB : (Nat → Int32)) (x1_edgeCost : (Nat → Int32)) (x1_edgeLine : (Nat → Int32)) (x1_change : (Nat → Int32)) (x1_away : (Nat → Int32)) (x1_steps : (Nat → Int32)) (x1_nodes : (Nat → Int32)) (x1_stepCount : Int32) (x1_open : (Nat → Int32)) (x1_openCount : Int32) (x1_seen : Int64) (x1_edgeCount : Int32) (x1_aim : Int32) => u11 (fun (x2_lineCount : Int32) (x2_goodsCount : Int32) (x2_workCount : Int32) (x2_years : Int32) (x2_lines : (Nat → Int32)) (x2_goods : (Nat → Int32)) (x2_works : (Nat → Int32)) (x2_change : (Nat → Int32)) (x2_coin : (Nat → Int32)) (x2_knownFree : (Nat → Int32)) (x2_isKnown : Int32) => (lp (u2 (fX4_sendInTurn_s12 x2_lineCount x2_goodsCount x2_workCount x2_years x2_lines x2_goods x2_works x2_change x2_coin x2_knownFree x2_isKnown)) n (0, x0_left)).bind (fun w5 => (lp (u18 (fX4_sendInTurn_s40 n x0_earned x2_lineCount x2_goodsCount x2_workCount x2_years x2_lines x2_goods x2_works x2_change x2_coin x2_knownFree x2_isKnown)) n (0, w5, 0, 0, x1_edgeA, x1_edgeB, x1_edgeCost, x1_edgeLine, x1_change, x1_away, x1_steps, x1_nodes, x1_stepCount, x1_open, x1_openCount, x1_seen, x1_edgeCount, x1_aim)).bind (u17 fun w26 w27 w28 w29 w30 w31 w32 w33 w34 w35 w36 w37 w38 w39 w40 w41 w42 => some (w26, w27, w28, (w29, w30, w31, w32, w33, w34, w35, w36, w37, w38, w39, w40, w41, w42))))) X2) X1) X0
set_option maxHeartbeats 4000000 in
set_option maxRecDepth 100000 in
theorem kX4_sendInTurn (l : Launch) (d : DT) (h0 : Nat → Nat) (h1 : Nat → Nat) (h2 : Nat → Nat) (n : Nat) (x0_left : (Nat → Int32)) (x0_earned : (Nat → Int32)) (x0_turnCost : Int32) (x0_turnWayless : Int32) (x1_edgeA : (Nat → Int32)) (x1_edgeB : (Nat → Int32)) (x1_edgeCost : (Nat → Int32)) (x1_edgeLine : (Nat → Int32)) (x1_change : (Nat → Int32)) (x1_away : (Nat → Int32)) (x1_steps : (Nat → Int32)) (x1_nodes : (Nat → Int32)) (x1_stepCount : Int32) (x1_open : (Nat → Int32)) (x1_openCount : Int32) (x1_seen : Int64) (x1_edgeCount : Int32) (x1_aim : Int32) (x2_lineCount : Int32) (x2_goodsCount : Int32) (x2_workCount : Int32) (x2_years : Int32) (x2_lines : (Nat → Int32)) (x2_goods : (Nat → Int32)) (x2_works : (Nat → Int32)) (x2_change : (Nat → Int32)) (x2_coin : (Nat → Int32)) (x2_knownFree : (Nat → Int32)) (x2_isKnown : Int32)  {out : (Nat → Int32) × Int32 × Int32 × ((Nat → Int32) × (Nat → Int32) × (Nat → Int32) × (Nat → Int32) × (Nat → Int32) × (Nat → Int32) × (Nat → Int32) × (Nat → Int32) × Int32 × (Nat → Int32) × Int32 × Int64 × Int32 × Int32)} (hf : fX4_sendInTurn n (x0_left, x0_earned, x0_turnCost, x0_turnWayless) (x1_edgeA, x1_edgeB, x1_edgeCost, x1_edgeLine, x1_change, x1_away, x1_steps, x1_nodes, x1_stepCount, x1_open, x1_openCount, x1_seen, x1_edgeCount, x1_aim) (x2_lineCount, x2_goodsCount, x2_workCount, x2_years, x2_lines, x2_goods, x2_works, x2_change, x2_coin, x2_knownFree, x2_isKnown) = some out) : Ct l d yX4_sendInTurn cX4_sendInTurn 6 none { frames := 5, cells := 0, slots := 0, locals := 131 } [.ref (h0 0), .ref (h2 0)] [gTr d h0 (h1 0) x0_left x0_earned x0_turnCost x0_turnWayless, gWy d h1 x1_edgeA x1_edgeB x1_edgeCost x1_edgeLine x1_change x1_away x1_steps x1_nodes x1_stepCount x1_open x1_openCount x1_seen x1_edgeCount x1_aim, gLd d h2 x2_lineCount x2_goodsCount x2_workCount x2_years x2_lines x2_goods x2_works x2_change x2_coin x2_knownFree x2_isKnown] (fun _ : Unit => (none, [gTr d h0 (h1 0) (out.1) x0_earned (out.2.1) (out.2.2.1), gWy d h1 (out.2.2.2.1) (out.2.2.2.2.1) (out.2.2.2.2.2.1) (out.2.2.2.2.2.2.1) (out.2.2.2.2.2.2.2.1) (out.2.2.2.2.2.2.2.2.1) (out.2.2.2.2.2.2.2.2.2.1) (out.2.2.2.2.2.2.2.2.2.2.1) (out.2.2.2.2.2.2.2.2.2.2.2.1) (out.2.2.2.2.2.2.2.2.2.2.2.2.1) (out.2.2.2.2.2.2.2.2.2.2.2.2.2.1) (out.2.2.2.2.2.2.2.2.2.2.2.2.2.2.1) (out.2.2.2.2.2.2.2.2.2.2.2.2.2.2.2.1) (out.2.2.2.2.2.2.2.2.2.2.2.2.2.2.2.2), gLd d h2 x2_lineCount x2_goodsCount x2_workCount x2_years x2_lines x2_goods x2_works x2_change x2_coin x2_knownFree x2_isKnown])) := by
  refine Ct.of (by decide) (Nat.le_of_ble_eq_true rfl) ?_
  intro Φ hl hK hR
  subst hl
  have hK : Ok d Φ RX4 "sendInTurn" cX4_sendInTurn 6 none { frames := 5, cells := 0, slots := 0, locals := 131 } := hK
  unfold fX4_sendInTurn at hf
  have hf := un4 hf
  have hf := un14 hf
  have hf := un11 hf
  show J d Φ 6 [gTr d h0 (h1 0) x0_left x0_earned x0_turnCost x0_turnWayless, gWy d h1 x1_edgeA x1_edgeB x1_edgeCost x1_edgeLine x1_change x1_away x1_steps x1_nodes x1_stepCount x1_open x1_openCount x1_seen x1_edgeCount x1_aim, gLd d h2 x2_lineCount x2_goodsCount x2_workCount x2_years x2_lines x2_goods x2_works x2_change x2_coin x2_knownFree x2_isKnown] 0 0 0 [(0, .ref (h0 0)), (1, .ref (h2 0))] []
  refine J_aload_n hK dX4_sendInTurn_0 rfl 0 rfl rfl ?_
  refine J_iconst (v := 0) hK dX4_sendInTurn_1 rfl (by decide) ?_
  refine J_put (g' := gTr d h0 (h1 0) x0_left x0_earned (0) x0_turnWayless) (gs' := [gTr d h0 (h1 0) x0_left x0_earned (0) x0_turnWayless, gWy d h1 x1_edgeA x1_edgeB x1_edgeCost x1_edgeLine x1_change x1_away x1_steps x1_nodes x1_stepCount x1_open x1_openCount x1_seen x1_edgeCount x1_aim, gLd d h2 x2_lineCount x2_goodsCount x2_workCount x2_years x2_lines x2_goods x2_works x2_change x2_coin x2_knownFree x2_isKnown]) hK fp_RX4_51 dX4_sendInTurn_2 rfl 0 0 rfl rfl rfl rfl (Nat.le_of_ble_eq_true rfl) rfl rfl ?_
  refine J_aload_n hK dX4_sendInTurn_5 rfl 0 rfl rfl ?_
  refine J_iconst (v := 0) hK dX4_sendInTurn_6 rfl (by decide) ?_
  refine J_put (g' := gTr d h0 (h1 0) x0_left x0_earned (0) (0)) (gs' := [gTr d h0 (h1 0) x0_left x0_earned (0) (0), gWy d h1 x1_edgeA x1_edgeB x1_edgeCost x1_edgeLine x1_change x1_away x1_steps x1_nodes x1_stepCount x1_open x1_openCount x1_seen x1_edgeCount x1_aim, gLd d h2 x2_lineCount x2_goodsCount x2_workCount x2_years x2_lines x2_goods x2_works x2_change x2_coin x2_knownFree x2_isKnown]) hK fp_RX4_54 dX4_sendInTurn_7 rfl 0 0 rfl rfl rfl rfl (Nat.le_of_ble_eq_true rfl) rfl rfl ?_
  refine J_iconst (v := 0) hK dX4_sendInTurn_10 rfl (by decide) ?_
  refine J_istore_n (L' := [(2, .int (0)), (0, .ref (h0 0)), (1, .ref (h2 0))]) hK dX4_sendInTurn_11 rfl rfl (by decide) rfl ?_
  obtain ⟨e4, hl1, hf⟩ := bs hf
  have hx1_38 : ∀ (w5 : (Nat → Int32)), w5 = e4 → J d Φ 6 [gTr d h0 (h1 0) w5 x0_earned (0) (0), gWy d h1 x1_edgeA x1_edgeB x1_edgeCost x1_edgeLine x1_change x1_away x1_steps x1_nodes x1_stepCount x1_open x1_openCount x1_seen x1_edgeCount x1_aim, gLd d h2 x2_lineCount x2_goodsCount x2_workCount x2_years x2_lines x2_goods x2_works x2_change x2_coin x2_knownFree x2_isKnown] 0 0 38 [(0, .ref (h0 0)), (1, .ref (h2 0))] [] := by
    intro w5 he
    rw [← he] at hf
    refine J_iconst (v := 0) hK dX4_sendInTurn_38 rfl (by decide) ?_
    refine J_istore_n (L' := [(2, .int (0)), (0, .ref (h0 0)), (1, .ref (h2 0))]) hK dX4_sendInTurn_39 rfl rfl (by decide) rfl ?_
    obtain ⟨e25, hl6, hf⟩ := bs hf
    have hx6_157 : ∀ (w26 : (Nat → Int32)) (w27 : Int32) (w28 : Int32) (w29 : (Nat → Int32)) (w30 : (Nat → Int32)) (w31 : (Nat → Int32)) (w32 : (Nat → Int32)) (w33 : (Nat → Int32)) (w34 : (Nat → Int32)) (w35 : (Nat → Int32)) (w36 : (Nat → Int32)) (w37 : Int32) (w38 : (Nat → Int32)) (w39 : Int32) (w40 : Int64) (w41 : Int32) (w42 : Int32), (w26, w27, w28, w29, w30, w31, w32, w33, w34, w35, w36, w37, w38, w39, w40, w41, w42) = e25 → J d Φ 6 [gTr d h0 (h1 0) w26 x0_earned w27 w28, gWy d h1 w29 w30 w31 w32 w33 w34 w35 w36 w37 w38 w39 w40 w41 w42, gLd d h2 x2_lineCount x2_goodsCount x2_workCount x2_years x2_lines x2_goods x2_works x2_change x2_coin x2_knownFree x2_isKnown] 0 0 157 [] [] := by
      intro w26 w27 w28 w29 w30 w31 w32 w33 w34 w35 w36 w37 w38 w39 w40 w41 w42 he
      rw [← he] at hf
      have hf := un17 hf
      obtain rfl := Option.some.inj hf
      exact J_vret hK hR dX4_sendInTurn_157 () rfl (by decide) (by decide)
    have lo6 : ∀ (k : Nat) (z7 : Int32) (z8 : (Nat → Int32)) (z9 : Int32) (z10 : Int32) (z11 : (Nat → Int32)) (z12 : (Nat → Int32)) (z13 : (Nat → Int32)) (z14 : (Nat → Int32)) (z15 : (Nat → Int32)) (z16 : (Nat → Int32)) (z17 : (Nat → Int32)) (z18 : (Nat → Int32)) (z19 : Int32) (z20 : (Nat → Int32)) (z21 : Int32) (z22 : Int64) (z23 : Int32) (z24 : Int32), lp (u18 (fX4_sendInTurn_s40 n x0_earned x2_lineCount x2_goodsCount x2_workCount x2_years x2_lines x2_goods x2_works x2_change x2_coin x2_knownFree x2_isKnown)) k (z7, z8, z9, z10, z11, z12, z13, z14, z15, z16, z17, z18, z19, z20, z21, z22, z23, z24) = some e25 → J d Φ 6 [gTr d h0 (h1 0) z8 x0_earned z9 z10, gWy d h1 z11 z12 z13 z14 z15 z16 z17 z18 z19 z20 z21 z22 z23 z24, gLd d h2 x2_lineCount x2_goodsCount x2_workCount x2_years x2_lines x2_goods x2_works x2_change x2_coin x2_knownFree x2_isKnown] 0 0 40 [(0, .ref (h0 0)), (1, .ref (h2 0)), (2, .int z7)] [] := by
      intro k
      induction k with
      | zero => intro z7 z8 z9 z10 z11 z12 z13 z14 z15 z16 z17 z18 z19 z20 z21 z22 z23 z24 h; cases h
      | succ k ih6 =>
        intro z7 z8 z9 z10 z11 z12 z13 z14 z15 z16 z17 z18 z19 z20 z21 z22 z23 z24 h
        obtain ⟨k2, rr6, hk2, hs6, hr6⟩ := lp_ok h
        cases hk2
        have hs6 : fX4_sendInTurn_s40 n x0_earned x2_lineCount x2_goodsCount x2_workCount x2_years x2_lines x2_goods x2_works x2_change x2_coin x2_knownFree x2_isKnown z7 z8 z9 z10 z11 z12 z13 z14 z15 z16 z17 z18 z19 z20 z21 z22 z23 z24 = some rr6 := hs6
        unfold fX4_sendInTurn_s40 at hs6
        refine J_iload_n hK dX4_sendInTurn_40 rfl 2 rfl rfl ?_
        refine J_aload_n hK dX4_sendInTurn_41 rfl 1 rfl rfl ?_
        refine J_get hK fo_RX4_43 dX4_sendInTurn_42 rfl 2 0 rfl rfl rfl ?_
        refine J_icmp_ge (tg := 157) hK dX4_sendInTurn_45 rfl rfl (fun hc45 => ?_) (fun hc45 => ?_)
        · have hs6 := ip hc45 hs6
          exact J_loc [] rfl (hx6_157 z8 z9 z10 z11 z12 z13 z14 z15 z16 z17 z18 z19 z20 z21 z22 z23 z24 (lpx hs6 hr6))
        · have hs6 := iq hc45 hs6
          refine J_aload_n hK dX4_sendInTurn_48 rfl 1 rfl rfl ?_
          refine J_iload_n hK dX4_sendInTurn_49 rfl 2 rfl rfl ?_
          refine J_iconst (v := 2) hK dX4_sendInTurn_50 rfl (by decide) ?_
          obtain ⟨v43, e44, hs6⟩ := bs hs6
          refine J_callV (m' := 3) (ce' := 0) (sl' := 0) (gr := [gTr d h0 (h1 0) z8 x0_earned z9 z10, gWy d h1 z11 z12 z13 z14 z15 z16 z17 z18 z19 z20 z21 z22 z23 z24]) (gs' := fun _ => [gTr d h0 (h1 0) z8 x0_earned z9 z10, gWy d h1 z11 z12 z13 z14 z15 z16 z17 z18 z19 z20 z21 z22 z23 z24, gLd d h2 x2_lineCount x2_goodsCount x2_workCount x2_years x2_lines x2_goods x2_works x2_change x2_coin x2_knownFree x2_isKnown]) (st' := fun _ => [.int v43]) (st := []) hK dX4_sendInTurn_51 cv_RX4_47 iv_yX1_ofGoods (As := [.int z7, .int (2)]) (kX1_ofGoods _ d h2 x2_lineCount x2_goodsCount x2_workCount x2_years x2_lines x2_goods x2_works x2_change x2_coin x2_knownFree x2_isKnown z7 (2) e44) rfl rfl (Nat.le_of_ble_eq_true rfl) (by decide) 2 0 rfl rfl rfl [2] [0, 1] rfl rfl rfl rfl [0, 1, 2] rfl (fun _ => rfl) (fun _ => rfl) rfl rfl rfl (fun _ => rfl) (fun _ => ?_)
          refine J_istore_n (L' := [(3, .int v43), (0, .ref (h0 0)), (1, .ref (h2 0)), (2, .int z7)]) hK dX4_sendInTurn_54 rfl rfl (by decide) rfl ?_
          refine J_aload_n hK dX4_sendInTurn_55 rfl 2 rfl rfl ?_
          refine J_iload_n hK dX4_sendInTurn_56 rfl 3 rfl rfl ?_
          refine J_iconst (v := 0) hK dX4_sendInTurn_57 rfl (by decide) ?_
          obtain ⟨v45, e46, hs6⟩ := bs hs6
          refine J_callV (m' := 3) (ce' := 0) (sl' := 0) (gr := [gTr d h0 (h1 0) z8 x0_earned z9 z10, gWy d h1 z11 z12 z13 z14 z15 z16 z17 z18 z19 z20 z21 z22 z23 z24]) (gs' := fun _ => [gTr d h0 (h1 0) z8 x0_earned z9 z10, gWy d h1 z11 z12 z13 z14 z15 z16 z17 z18 z19 z20 z21 z22 z23 z24, gLd d h2 x2_lineCount x2_goodsCount x2_workCount x2_years x2_lines x2_goods x2_works x2_change x2_coin x2_knownFree x2_isKnown]) (st' := fun _ => [.int v45]) (st := []) hK dX4_sendInTurn_58 cv_RX4_47 iv_yX1_ofGoods (As := [.int z7, .int (0)]) (kX1_ofGoods _ d h2 x2_lineCount x2_goodsCount x2_workCount x2_years x2_lines x2_goods x2_works x2_change x2_coin x2_knownFree x2_isKnown z7 (0) e46) rfl rfl (Nat.le_of_ble_eq_true rfl) (by decide) 2 0 rfl rfl rfl [2] [0, 1] rfl rfl rfl rfl [0, 1, 2] rfl (fun _ => rfl) (fun _ => rfl) rfl rfl rfl (fun _ => rfl) (fun _ => ?_)
          refine J_istore (L' := [(4, .int v45), (3, .int v43), (0, .ref (h0 0)), (1, .ref (h2 0)), (2, .int z7)]) hK dX4_sendInTurn_61 rfl (by decide) rfl ?_
          refine J_aload_n hK dX4_sendInTurn_63 rfl 3 rfl rfl ?_
          refine J_iload_n hK dX4_sendInTurn_64 rfl 4 rfl rfl ?_
          refine J_iconst (v := 1) hK dX4_sendInTurn_65 rfl (by decide) ?_
          obtain ⟨v47, e48, hs6⟩ := bs hs6
          refine J_callV (m' := 3) (ce' := 0) (sl' := 0) (gr := [gTr d h0 (h1 0) z8 x0_earned z9 z10, gWy d h1 z11 z12 z13 z14 z15 z16 z17 z18 z19 z20 z21 z22 z23 z24]) (gs' := fun _ => [gTr d h0 (h1 0) z8 x0_earned z9 z10, gWy d h1 z11 z12 z13 z14 z15 z16 z17 z18 z19 z20 z21 z22 z23 z24, gLd d h2 x2_lineCount x2_goodsCount x2_workCount x2_years x2_lines x2_goods x2_works x2_change x2_coin x2_knownFree x2_isKnown]) (st' := fun _ => [.int v47]) (st := []) hK dX4_sendInTurn_66 cv_RX4_47 iv_yX1_ofGoods (As := [.int z7, .int (1)]) (kX1_ofGoods _ d h2 x2_lineCount x2_goodsCount x2_workCount x2_years x2_lines x2_goods x2_works x2_change x2_coin x2_knownFree x2_isKnown z7 (1) e48) rfl rfl (Nat.le_of_ble_eq_true rfl) (by decide) 2 0 rfl rfl rfl [2] [0, 1] rfl rfl rfl rfl [0, 1, 2] rfl (fun _ => rfl) (fun _ => rfl) rfl rfl rfl (fun _ => rfl) (fun _ => ?_)
          refine J_istore (L' := [(5, .int v47), (4, .int v45), (3, .int v43), (0, .ref (h0 0)), (1, .ref (h2 0)), (2, .int z7)]) hK dX4_sendInTurn_69 rfl (by decide) rfl ?_
          refine J_aload_n hK dX4_sendInTurn_71 rfl 3 rfl rfl ?_
          refine J_get hK fo_RX4_12 dX4_sendInTurn_72 rfl 0 0 rfl rfl rfl ?_
          refine J_aload_n hK dX4_sendInTurn_75 rfl 4 rfl rfl ?_
          refine J_aload_n hK dX4_sendInTurn_76 rfl 3 rfl rfl ?_
          refine J_aload_n hK dX4_sendInTurn_77 rfl 4 rfl rfl ?_
          refine J_iload_n hK dX4_sendInTurn_78 rfl 2 rfl rfl ?_
          obtain ⟨v49, e50, hs6⟩ := bs hs6
          refine J_callV (m' := 3) (ce' := 0) (sl' := 0) (gr := [gWy d h1 z11 z12 z13 z14 z15 z16 z17 z18 z19 z20 z21 z22 z23 z24]) (gs' := fun _ => [gTr d h0 (h1 0) z8 x0_earned z9 z10, gWy d h1 z11 z12 z13 z14 z15 z16 z17 z18 z19 z20 z21 z22 z23 z24, gLd d h2 x2_lineCount x2_goodsCount x2_workCount x2_years x2_lines x2_goods x2_works x2_change x2_coin x2_knownFree x2_isKnown]) (st' := fun _ => [.int v49, .ref (h2 0), .ref (h1 0)]) (st := [.ref (h2 0), .ref (h1 0)]) hK dX4_sendInTurn_79 cv_RX4_63 iv_yX4_linesBearing (As := [.ref (h2 0), .int v43]) (kX4_linesBearing _ d h0 (h1 0) h2 n z8 x0_earned z9 z10 x2_lineCount x2_goodsCount x2_workCount x2_years x2_lines x2_goods x2_works x2_change x2_coin x2_knownFree x2_isKnown v43 e50) rfl rfl (Nat.le_of_ble_eq_true rfl) (by decide) 0 0 rfl rfl rfl [0, 2] [1] rfl rfl rfl rfl [1, 0, 2] rfl (fun _ => rfl) (fun _ => rfl) rfl rfl rfl (fun _ => rfl) (fun _ => ?_)
          obtain ⟨⟨g52, g53, g54, g55, g56, g57, g58⟩, e59, hs6⟩ := bs hs6
          have hs6 := un7 hs6
          refine J_callV (m' := 3) (ce' := 0) (sl' := 0) (gr := [gTr d h0 (h1 0) z8 x0_earned z9 z10]) (gs' := fun _ => [gTr d h0 (h1 0) z8 x0_earned z9 z10, gWy d h1 g52 g53 g54 g55 g56 z16 z17 z18 z19 z20 z21 z22 g57 g58, gLd d h2 x2_lineCount x2_goodsCount x2_workCount x2_years x2_lines x2_goods x2_works x2_change x2_coin x2_knownFree x2_isKnown]) (st' := fun _ => []) (st := []) hK dX4_sendInTurn_82 cv_RX4_31 iv_yX5_prepare (As := [.ref (h2 0), .int v49]) (kX5_prepare _ d h1 h2 n z11 z12 z13 z14 z15 z16 z17 z18 z19 z20 z21 z22 z23 z24 x2_lineCount x2_goodsCount x2_workCount x2_years x2_lines x2_goods x2_works x2_change x2_coin x2_knownFree x2_isKnown v49 e59) rfl rfl (Nat.le_of_ble_eq_true rfl) (by decide) 1 0 rfl rfl rfl [1, 2] [0] rfl rfl rfl rfl [0, 1, 2] rfl (fun _ => rfl) (fun _ => rfl) rfl rfl rfl (fun _ => rfl) (fun _ => ?_)
          refine J_aload_n hK dX4_sendInTurn_85 rfl 3 rfl rfl ?_
          refine J_get hK fo_RX4_12 dX4_sendInTurn_86 rfl 0 0 rfl rfl rfl ?_
          refine J_iload hK dX4_sendInTurn_89 rfl 1 rfl ?_
          refine J_iload hK dX4_sendInTurn_91 rfl 0 rfl ?_
          obtain ⟨⟨v60, ⟨g62, g63, g64, g65, g66, g67, g68, g69⟩⟩, e70, hs6⟩ := bs hs6
          have hs6 := un2 hs6
          have hs6 := un8 hs6
          refine J_callV (m' := 3) (ce' := 0) (sl' := 0) (gr := [gTr d h0 (h1 0) z8 x0_earned z9 z10, gLd d h2 x2_lineCount x2_goodsCount x2_workCount x2_years x2_lines x2_goods x2_works x2_change x2_coin x2_knownFree x2_isKnown]) (gs' := fun _ => [gTr d h0 (h1 0) z8 x0_earned z9 z10, gWy d h1 g52 g53 g54 g55 g56 g62 g63 g64 g65 g66 g67 g68 g57 g69, gLd d h2 x2_lineCount x2_goodsCount x2_workCount x2_years x2_lines x2_goods x2_works x2_change x2_coin x2_knownFree x2_isKnown]) (st' := fun _ => [.int v60]) (st := []) hK dX4_sendInTurn_93 cv_RX4_67 iv_yX5_trace (As := [.int v45, .int v47]) (kX5_trace _ d h1 n g52 g53 g54 g55 g56 z16 z17 z18 z19 z20 z21 z22 g57 g58 v45 v47 e70) rfl rfl (Nat.le_of_ble_eq_true rfl) (by decide) 1 0 rfl rfl rfl [1] [0, 2] rfl rfl rfl rfl [0, 2, 1] rfl (fun _ => rfl) (fun _ => rfl) rfl rfl rfl (fun _ => rfl) (fun _ => ?_)
          refine J_if_eq (tg := 127) hK dX4_sendInTurn_96 rfl rfl (fun hc96 => ?_) (fun hc96 => ?_)
          · have hs6 := ip hc96 hs6
            refine J_aload_n hK dX4_sendInTurn_127 rfl 3 rfl rfl ?_
            refine J_dup hK dX4_sendInTurn_128 rfl rfl ?_
            refine J_get hK fo_RX4_51 dX4_sendInTurn_129 rfl 0 0 rfl rfl rfl ?_
            refine J_iload_n hK dX4_sendInTurn_132 rfl 2 rfl rfl ?_
            refine J_sipush (v := 999) hK dX4_sendInTurn_133 rfl (by decide) ?_
            refine J_imul hK dX4_sendInTurn_136 rfl ?_
            refine J_iadd hK dX4_sendInTurn_137 rfl ?_
            refine J_put (g' := gTr d h0 (h1 0) z8 x0_earned (z9 + (v43 * 999)) z10) (gs' := [gTr d h0 (h1 0) z8 x0_earned (z9 + (v43 * 999)) z10, gWy d h1 g52 g53 g54 g55 g56 g62 g63 g64 g65 g66 g67 g68 g57 g69, gLd d h2 x2_lineCount x2_goodsCount x2_workCount x2_years x2_lines x2_goods x2_works x2_change x2_coin x2_knownFree x2_isKnown]) hK fp_RX4_51 dX4_sendInTurn_138 rfl 0 0 rfl rfl rfl rfl (Nat.le_of_ble_eq_true rfl) rfl rfl ?_
            refine J_aload_n hK dX4_sendInTurn_141 rfl 3 rfl rfl ?_
            refine J_dup hK dX4_sendInTurn_142 rfl rfl ?_
            refine J_get hK fo_RX4_54 dX4_sendInTurn_143 rfl 0 0 rfl rfl rfl ?_
            refine J_iload_n hK dX4_sendInTurn_146 rfl 2 rfl rfl ?_
            refine J_iadd hK dX4_sendInTurn_147 rfl ?_
            refine J_put (g' := gTr d h0 (h1 0) z8 x0_earned (z9 + (v43 * 999)) (z10 + v43)) (gs' := [gTr d h0 (h1 0) z8 x0_earned (z9 + (v43 * 999)) (z10 + v43), gWy d h1 g52 g53 g54 g55 g56 g62 g63 g64 g65 g66 g67 g68 g57 g69, gLd d h2 x2_lineCount x2_goodsCount x2_workCount x2_years x2_lines x2_goods x2_works x2_change x2_coin x2_knownFree x2_isKnown]) hK fp_RX4_54 dX4_sendInTurn_148 rfl 0 0 rfl rfl rfl rfl (Nat.le_of_ble_eq_true rfl) rfl rfl ?_
            refine J_iinc (L' := [(2, .int (z7 + 1)), (5, .int v47), (4, .int v45), (3, .int v43), (0, .ref (h0 0)), (1, .ref (h2 0))]) (v := (z7 + 1)) hK dX4_sendInTurn_151 rfl 5 rfl rfl (by decide) rfl ?_
            refine J_goto hK dX4_sendInTurn_154 (n := 40) rfl ?_
            exact J_loc [4, 5, 0] rfl (ih6 (z7 + 1) z8 (z9 + (v43 * 999)) (z10 + v43) g52 g53 g54 g55 g56 g62 g63 g64 g65 g66 g67 g68 g57 g69 (lpc hs6 hr6))
          · have hs6 := iq hc96 hs6
            refine J_aload_n hK dX4_sendInTurn_99 rfl 3 rfl rfl ?_
            refine J_dup hK dX4_sendInTurn_100 rfl rfl ?_
            refine J_get hK fo_RX4_51 dX4_sendInTurn_101 rfl 0 0 rfl rfl rfl ?_
            refine J_iload_n hK dX4_sendInTurn_104 rfl 2 rfl rfl ?_
            refine J_aload_n hK dX4_sendInTurn_105 rfl 3 rfl rfl ?_
            refine J_get hK fo_RX4_12 dX4_sendInTurn_106 rfl 0 0 rfl rfl rfl ?_
            refine J_iload hK dX4_sendInTurn_109 rfl 1 rfl ?_
            obtain ⟨v71, e72, hs6⟩ := bs hs6
            refine J_callV (m' := 3) (ce' := 0) (sl' := 0) (gr := [gTr d h0 (h1 0) z8 x0_earned z9 z10, gLd d h2 x2_lineCount x2_goodsCount x2_workCount x2_years x2_lines x2_goods x2_works x2_change x2_coin x2_knownFree x2_isKnown]) (gs' := fun _ => [gTr d h0 (h1 0) z8 x0_earned z9 z10, gWy d h1 g52 g53 g54 g55 g56 g62 g63 g64 g65 g66 g67 g68 g57 g69, gLd d h2 x2_lineCount x2_goodsCount x2_workCount x2_years x2_lines x2_goods x2_works x2_change x2_coin x2_knownFree x2_isKnown]) (st' := fun _ => [.int v71, .int v43, .int z9, .ref (h0 0)]) (st := [.int v43, .int z9, .ref (h0 0)]) hK dX4_sendInTurn_111 cv_RX4_39 iv_yX5_costFrom (As := [.int v45]) (kX5_costFrom _ d h1 n g52 g53 g54 g55 g56 g62 g63 g64 g65 g66 g67 g68 g57 g69 v45 e72) rfl rfl (Nat.le_of_ble_eq_true rfl) (by decide) 1 0 rfl rfl rfl [1] [0, 2] rfl rfl rfl rfl [0, 2, 1] rfl (fun _ => rfl) (fun _ => rfl) rfl rfl rfl (fun _ => rfl) (fun _ => ?_)
            refine J_imul hK dX4_sendInTurn_114 rfl ?_
            refine J_iadd hK dX4_sendInTurn_115 rfl ?_
            refine J_put (g' := gTr d h0 (h1 0) z8 x0_earned (z9 + (v43 * v71)) z10) (gs' := [gTr d h0 (h1 0) z8 x0_earned (z9 + (v43 * v71)) z10, gWy d h1 g52 g53 g54 g55 g56 g62 g63 g64 g65 g66 g67 g68 g57 g69, gLd d h2 x2_lineCount x2_goodsCount x2_workCount x2_years x2_lines x2_goods x2_works x2_change x2_coin x2_knownFree x2_isKnown]) hK fp_RX4_51 dX4_sendInTurn_116 rfl 0 0 rfl rfl rfl rfl (Nat.le_of_ble_eq_true rfl) rfl rfl ?_
            refine J_aload_n hK dX4_sendInTurn_119 rfl 3 rfl rfl ?_
            refine J_iload_n hK dX4_sendInTurn_120 rfl 2 rfl rfl ?_
            obtain ⟨g73, e74, hs6⟩ := bs hs6
            refine J_callV (m' := 3) (ce' := 0) (sl' := 0) (gr := [gLd d h2 x2_lineCount x2_goodsCount x2_workCount x2_years x2_lines x2_goods x2_works x2_change x2_coin x2_knownFree x2_isKnown]) (gs' := fun _ => [gTr d h0 (h1 0) g73 x0_earned (z9 + (v43 * v71)) z10, gWy d h1 g52 g53 g54 g55 g56 g62 g63 g64 g65 g66 g67 g68 g57 g69, gLd d h2 x2_lineCount x2_goodsCount x2_workCount x2_years x2_lines x2_goods x2_works x2_change x2_coin x2_knownFree x2_isKnown]) (st' := fun _ => []) (st := []) hK dX4_sendInTurn_121 cv_RX4_71 iv_yX4_load (As := [.int v43]) (kX4_load _ d h0 h1 n z8 x0_earned (z9 + (v43 * v71)) z10 g52 g53 g54 g55 g56 g62 g63 g64 g65 g66 g67 g68 g57 g69 v43 e74) rfl rfl (Nat.le_of_ble_eq_true rfl) (by decide) 0 0 rfl rfl rfl [0, 1] [2] rfl rfl rfl rfl [1, 2, 0] rfl (fun _ => rfl) (fun _ => rfl) rfl rfl rfl (fun _ => rfl) (fun _ => ?_)
            refine J_goto hK dX4_sendInTurn_124 (n := 151) rfl ?_
            refine J_iinc (L' := [(2, .int (z7 + 1)), (5, .int v47), (4, .int v45), (3, .int v43), (0, .ref (h0 0)), (1, .ref (h2 0))]) (v := (z7 + 1)) hK dX4_sendInTurn_151 rfl 5 rfl rfl (by decide) rfl ?_
            refine J_goto hK dX4_sendInTurn_154 (n := 40) rfl ?_
            exact J_loc [4, 5, 0] rfl (ih6 (z7 + 1) g73 (z9 + (v43 * v71)) z10 g52 g53 g54 g55 g56 g62 g63 g64 g65 g66 g67 g68 g57 g69 (lpc hs6 hr6))
    exact J_loc [1, 2, 0] rfl (lo6 n (0) w5 (0) (0) x1_edgeA x1_edgeB x1_edgeCost x1_edgeLine x1_change x1_away x1_steps x1_nodes x1_stepCount x1_open x1_openCount x1_seen x1_edgeCount x1_aim hl6)
  have lo1 : ∀ (k : Nat) (z2 : Int32) (z3 : (Nat → Int32)), lp (u2 (fX4_sendInTurn_s12 x2_lineCount x2_goodsCount x2_workCount x2_years x2_lines x2_goods x2_works x2_change x2_coin x2_knownFree x2_isKnown)) k (z2, z3) = some e4 → J d Φ 6 [gTr d h0 (h1 0) z3 x0_earned (0) (0), gWy d h1 x1_edgeA x1_edgeB x1_edgeCost x1_edgeLine x1_change x1_away x1_steps x1_nodes x1_stepCount x1_open x1_openCount x1_seen x1_edgeCount x1_aim, gLd d h2 x2_lineCount x2_goodsCount x2_workCount x2_years x2_lines x2_goods x2_works x2_change x2_coin x2_knownFree x2_isKnown] 0 0 12 [(0, .ref (h0 0)), (1, .ref (h2 0)), (2, .int z2)] [] := by
    intro k
    induction k with
    | zero => intro z2 z3 h; cases h
    | succ k ih1 =>
      intro z2 z3 h
      obtain ⟨k2, rr1, hk2, hs1, hr1⟩ := lp_ok h
      cases hk2
      have hs1 : fX4_sendInTurn_s12 x2_lineCount x2_goodsCount x2_workCount x2_years x2_lines x2_goods x2_works x2_change x2_coin x2_knownFree x2_isKnown z2 z3 = some rr1 := hs1
      unfold fX4_sendInTurn_s12 at hs1
      refine J_iload_n hK dX4_sendInTurn_12 rfl 2 rfl rfl ?_
      refine J_aload_n hK dX4_sendInTurn_13 rfl 1 rfl rfl ?_
      refine J_get hK fo_RX4_57 dX4_sendInTurn_14 rfl 2 0 rfl rfl rfl ?_
      refine J_icmp_ge (tg := 38) hK dX4_sendInTurn_17 rfl rfl (fun hc17 => ?_) (fun hc17 => ?_)
      · have hs1 := ip hc17 hs1
        exact J_loc [0, 1] rfl (hx1_38 z3 (lpx hs1 hr1))
      · have hs1 := iq hc17 hs1
        refine J_aload_n hK dX4_sendInTurn_20 rfl 0 rfl rfl ?_
        refine J_get hK fo_RX4_18 dX4_sendInTurn_21 rfl 0 0 rfl rfl rfl ?_
        refine J_iload_n hK dX4_sendInTurn_24 rfl 2 rfl rfl ?_
        refine J_aload_n hK dX4_sendInTurn_25 rfl 1 rfl rfl ?_
        refine J_iload_n hK dX4_sendInTurn_26 rfl 2 rfl rfl ?_
        refine J_iconst (v := 4) hK dX4_sendInTurn_27 rfl (by decide) ?_
        obtain ⟨v75, e76, hs1⟩ := bs hs1
        refine J_callV (m' := 3) (ce' := 0) (sl' := 0) (gr := [gTr d h0 (h1 0) z3 x0_earned (0) (0), gWy d h1 x1_edgeA x1_edgeB x1_edgeCost x1_edgeLine x1_change x1_away x1_steps x1_nodes x1_stepCount x1_open x1_openCount x1_seen x1_edgeCount x1_aim]) (gs' := fun _ => [gTr d h0 (h1 0) z3 x0_earned (0) (0), gWy d h1 x1_edgeA x1_edgeB x1_edgeCost x1_edgeLine x1_change x1_away x1_steps x1_nodes x1_stepCount x1_open x1_openCount x1_seen x1_edgeCount x1_aim, gLd d h2 x2_lineCount x2_goodsCount x2_workCount x2_years x2_lines x2_goods x2_works x2_change x2_coin x2_knownFree x2_isKnown]) (st' := fun _ => [.int v75, .int z2, .ref (h0 1)]) (st := [.int z2, .ref (h0 1)]) hK dX4_sendInTurn_28 cv_RX4_60 iv_yX1_ofLine (As := [.int z2, .int (4)]) (kX1_ofLine _ d h2 x2_lineCount x2_goodsCount x2_workCount x2_years x2_lines x2_goods x2_works x2_change x2_coin x2_knownFree x2_isKnown z2 (4) e76) rfl rfl (Nat.le_of_ble_eq_true rfl) (by decide) 2 0 rfl rfl rfl [2] [0, 1] rfl rfl rfl rfl [0, 1, 2] rfl (fun _ => rfl) (fun _ => rfl) rfl rfl rfl (fun _ => rfl) (fun _ => ?_)
        obtain ⟨f77, ef77, hs1⟩ := bs hs1
        refine J_iast (g' := gTr d h0 (h1 0) f77 x0_earned (0) (0)) (gs' := [gTr d h0 (h1 0) f77 x0_earned (0) (0), gWy d h1 x1_edgeA x1_edgeB x1_edgeCost x1_edgeLine x1_change x1_away x1_steps x1_nodes x1_stepCount x1_open x1_openCount x1_seen x1_edgeCount x1_aim, gLd d h2 x2_lineCount x2_goodsCount x2_workCount x2_years x2_lines x2_goods x2_works x2_change x2_coin x2_knownFree x2_isKnown]) hK dX4_sendInTurn_31 rfl 0 1 rfl rfl ef77 rfl rfl ?_
        refine J_iinc (L' := [(2, .int (z2 + 1)), (0, .ref (h0 0)), (1, .ref (h2 0))]) (v := (z2 + 1)) hK dX4_sendInTurn_32 rfl 2 rfl rfl (by decide) rfl ?_
        refine J_goto hK dX4_sendInTurn_35 (n := 12) rfl ?_
        exact J_loc [1, 2, 0] rfl (ih1 (z2 + 1) f77 (lpc hs1 hr1))
  exact J_loc [1, 2, 0] rfl (lo1 n (0) x0_left hl1)

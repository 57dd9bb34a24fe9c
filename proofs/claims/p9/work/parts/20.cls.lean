def fX1_ofWork (X0 : LdT) (p1 : Int32) (p2 : Int32) : Option (Int32) :=
  u11 (fun (x0_lineCount : Int32) (x0_goodsCount : Int32) (x0_workCount : Int32) (x0_years : Int32) (x0_lines : (Nat → Int32)) (x0_goods : (Nat → Int32)) (x0_works : (Nat → Int32)) (x0_change : (Nat → Int32)) (x0_coin : (Nat → Int32)) (x0_knownFree : (Nat → Int32)) (x0_isKnown : Int32) => (rd 35 x0_works ((p1 * 5) + p2)).bind fun v1 => some v1) X0
set_option maxHeartbeats 4000000 in
set_option maxRecDepth 100000 in
theorem kX1_ofWork (l : Launch) (d : DT) (h0 : Nat → Nat) (x0_lineCount : Int32) (x0_goodsCount : Int32) (x0_workCount : Int32) (x0_years : Int32) (x0_lines : (Nat → Int32)) (x0_goods : (Nat → Int32)) (x0_works : (Nat → Int32)) (x0_change : (Nat → Int32)) (x0_coin : (Nat → Int32)) (x0_knownFree : (Nat → Int32)) (x0_isKnown : Int32) (p1 : Int32) (p2 : Int32)  {out : Int32} (hf : fX1_ofWork (x0_lineCount, x0_goodsCount, x0_workCount, x0_years, x0_lines, x0_goods, x0_works, x0_change, x0_coin, x0_knownFree, x0_isKnown) p1 p2 = some out) : Ct l d yX1_ofWork cX1_ofWork 3 (some .int) { frames := 0, cells := 0, slots := 0, locals := 0 } [.ref (h0 0), .int p1, .int p2] [gLd d h0 x0_lineCount x0_goodsCount x0_workCount x0_years x0_lines x0_goods x0_works x0_change x0_coin x0_knownFree x0_isKnown] (fun _ : Unit => (some (.int out), [gLd d h0 x0_lineCount x0_goodsCount x0_workCount x0_years x0_lines x0_goods x0_works x0_change x0_coin x0_knownFree x0_isKnown])) := by
  refine Ct.of (by decide) (Nat.le_of_ble_eq_true rfl) ?_
  intro Φ hl hK hR
  subst hl
  have hK : Ok d Φ RX1 "ofWork" cX1_ofWork 3 (some .int) { frames := 0, cells := 0, slots := 0, locals := 0 } := hK
  unfold fX1_ofWork at hf
  have hf := un11 hf
  show J d Φ 3 [gLd d h0 x0_lineCount x0_goodsCount x0_workCount x0_years x0_lines x0_goods x0_works x0_change x0_coin x0_knownFree x0_isKnown] 0 0 0 [(0, .ref (h0 0)), (1, .int p1), (2, .int p2)] []
  refine J_aload_n hK dX1_ofWork_0 rfl 0 rfl rfl ?_
  refine J_get hK fo_RX1_18 dX1_ofWork_1 rfl 0 0 rfl rfl rfl ?_
  refine J_iload_n hK dX1_ofWork_4 rfl 1 rfl rfl ?_
  refine J_iconst (v := 5) hK dX1_ofWork_5 rfl (by decide) ?_
  refine J_imul hK dX1_ofWork_6 rfl ?_
  refine J_iload_n hK dX1_ofWork_7 rfl 2 rfl rfl ?_
  refine J_iadd hK dX1_ofWork_8 rfl ?_
  obtain ⟨v1, ev1, hf⟩ := bs hf
  refine J_iald hK dX1_ofWork_9 rfl 0 3 rfl rfl ev1 ?_
  obtain rfl := Option.some.inj hf
  exact J_iret hK hR dX1_ofWork_10 () rfl (by decide) (by decide)

def fX1_isDone (X0 : LdT) (p1 : Int32) : Option (Int32) :=
  u11 (fun (x0_lineCount : Int32) (x0_goodsCount : Int32) (x0_workCount : Int32) (x0_years : Int32) (x0_lines : (Nat → Int32)) (x0_goods : (Nat → Int32)) (x0_works : (Nat → Int32)) (x0_change : (Nat → Int32)) (x0_coin : (Nat → Int32)) (x0_knownFree : (Nat → Int32)) (x0_isKnown : Int32) => (fX1_ofWork (x0_lineCount, x0_goodsCount, x0_workCount, x0_years, x0_lines, x0_goods, x0_works, x0_change, x0_coin, x0_knownFree, x0_isKnown) p1 (4)).bind (fun v1 => if v1 = 0 then (some (0)) else (some (1)))) X0
set_option maxHeartbeats 4000000 in
set_option maxRecDepth 100000 in
theorem kX1_isDone (l : Launch) (d : DT) (h0 : Nat → Nat) (x0_lineCount : Int32) (x0_goodsCount : Int32) (x0_workCount : Int32) (x0_years : Int32) (x0_lines : (Nat → Int32)) (x0_goods : (Nat → Int32)) (x0_works : (Nat → Int32)) (x0_change : (Nat → Int32)) (x0_coin : (Nat → Int32)) (x0_knownFree : (Nat → Int32)) (x0_isKnown : Int32) (p1 : Int32)  {out : Int32} (hf : fX1_isDone (x0_lineCount, x0_goodsCount, x0_workCount, x0_years, x0_lines, x0_goods, x0_works, x0_change, x0_coin, x0_knownFree, x0_isKnown) p1 = some out) : Ct l d yX1_isDone cX1_isDone 2 (some .boolean) { frames := 1, cells := 0, slots := 0, locals := 22 } [.ref (h0 0), .int p1] [gLd d h0 x0_lineCount x0_goodsCount x0_workCount x0_years x0_lines x0_goods x0_works x0_change x0_coin x0_knownFree x0_isKnown] (fun _ : Unit => (some (.int out), [gLd d h0 x0_lineCount x0_goodsCount x0_workCount x0_years x0_lines x0_goods x0_works x0_change x0_coin x0_knownFree x0_isKnown])) := by
  refine Ct.of (by decide) (Nat.le_of_ble_eq_true rfl) ?_
  intro Φ hl hK hR
  subst hl
  have hK : Ok d Φ RX1 "isDone" cX1_isDone 2 (some .boolean) { frames := 1, cells := 0, slots := 0, locals := 22 } := hK
  unfold fX1_isDone at hf
  have hf := un11 hf
  show J d Φ 2 [gLd d h0 x0_lineCount x0_goodsCount x0_workCount x0_years x0_lines x0_goods x0_works x0_change x0_coin x0_knownFree x0_isKnown] 0 0 0 [(0, .ref (h0 0)), (1, .int p1)] []
  refine J_aload_n hK dX1_isDone_0 rfl 0 rfl rfl ?_
  refine J_iload_n hK dX1_isDone_1 rfl 1 rfl rfl ?_
  refine J_iconst (v := 4) hK dX1_isDone_2 rfl (by decide) ?_
  obtain ⟨v1, e2, hf⟩ := bs hf
  refine J_callV (m' := 1) (ce' := 0) (sl' := 0) (gr := []) (gs' := fun _ => [gLd d h0 x0_lineCount x0_goodsCount x0_workCount x0_years x0_lines x0_goods x0_works x0_change x0_coin x0_knownFree x0_isKnown]) (st' := fun _ => [.int v1]) (st := []) hK dX1_isDone_3 cv_RX1_63 iv_yX1_ofWork (As := [.int p1, .int (4)]) (kX1_ofWork _ d h0 x0_lineCount x0_goodsCount x0_workCount x0_years x0_lines x0_goods x0_works x0_change x0_coin x0_knownFree x0_isKnown p1 (4) e2) rfl rfl (Nat.le_of_ble_eq_true rfl) (by decide) 0 0 rfl rfl rfl [0] [] rfl rfl rfl rfl [0] rfl (fun _ => rfl) (fun _ => rfl) rfl rfl rfl (fun _ => rfl) (fun _ => ?_)
  refine J_if_eq (tg := 13) hK dX1_isDone_6 rfl rfl (fun hc6 => ?_) (fun hc6 => ?_)
  · have hf := ip hc6 hf
    refine J_iconst (v := 0) hK dX1_isDone_13 rfl (by decide) ?_
    obtain rfl := Option.some.inj hf
    exact J_zret hK hR dX1_isDone_14 () rfl rfl (by decide) (by decide)
  · have hf := iq hc6 hf
    refine J_iconst (v := 1) hK dX1_isDone_9 rfl (by decide) ?_
    refine J_goto hK dX1_isDone_10 (n := 14) rfl ?_
    obtain rfl := Option.some.inj hf
    exact J_zret hK hR dX1_isDone_14 () rfl rfl (by decide) (by decide)

def fX1_doneWorks_s4 (x0_lineCount : Int32) (x0_goodsCount : Int32) (x0_workCount : Int32) (x0_years : Int32) (x0_lines : (Nat → Int32)) (x0_goods : (Nat → Int32)) (x0_works : (Nat → Int32)) (x0_change : (Nat → Int32)) (x0_coin : (Nat → Int32)) (x0_knownFree : (Nat → Int32)) (x0_isKnown : Int32) (z2 : Int32) (z3 : Int32) : Option ((Int32 × Int32) ⊕ (Int32)) :=
  if x0_workCount ≤ z3 then (some (.inr z2)) else ((fX1_isDone (x0_lineCount, x0_goodsCount, x0_workCount, x0_years, x0_lines, x0_goods, x0_works, x0_change, x0_coin, x0_knownFree, x0_isKnown) z3).bind (fun v6 => if v6 = 0 then (some (.inl (z2, (z3 + 1)))) else ((some (z2 ||| ((1 : Int32) <<< (z3 &&& 31)))).bind fun t8 => some (.inl (t8, (z3 + 1))))))
def fX1_doneWorks (n : Nat) (X0 : LdT) : Option (Int32) :=
  u11 (fun (x0_lineCount : Int32) (x0_goodsCount : Int32) (x0_workCount : Int32) (x0_years : Int32) (x0_lines : (Nat → Int32)) (x0_goods : (Nat → Int32)) (x0_works : (Nat → Int32)) (x0_change : (Nat → Int32)) (x0_coin : (Nat → Int32)) (x0_knownFree : (Nat → Int32)) (x0_isKnown : Int32) => (lp (u2 (fX1_doneWorks_s4 x0_lineCount x0_goodsCount x0_workCount x0_years x0_lines x0_goods x0_works x0_change x0_coin x0_knownFree x0_isKnown)) n (0, 0)).bind (fun w5 => some w5)) X0
set_option maxHeartbeats 4000000 in
set_option maxRecDepth 100000 in
theorem kX1_doneWorks (l : Launch) (d : DT) (h0 : Nat → Nat) (n : Nat) (x0_lineCount : Int32) (x0_goodsCount : Int32) (x0_workCount : Int32) (x0_years : Int32) (x0_lines : (Nat → Int32)) (x0_goods : (Nat → Int32)) (x0_works : (Nat → Int32)) (x0_change : (Nat → Int32)) (x0_coin : (Nat → Int32)) (x0_knownFree : (Nat → Int32)) (x0_isKnown : Int32)  {out : Int32} (hf : fX1_doneWorks n (x0_lineCount, x0_goodsCount, x0_workCount, x0_years, x0_lines, x0_goods, x0_works, x0_change, x0_coin, x0_knownFree, x0_isKnown) = some out) : Ct l d yX1_doneWorks cX1_doneWorks 3 (some .int) { frames := 2, cells := 0, slots := 0, locals := 43 } [.ref (h0 0)] [gLd d h0 x0_lineCount x0_goodsCount x0_workCount x0_years x0_lines x0_goods x0_works x0_change x0_coin x0_knownFree x0_isKnown] (fun _ : Unit => (some (.int out), [gLd d h0 x0_lineCount x0_goodsCount x0_workCount x0_years x0_lines x0_goods x0_works x0_change x0_coin x0_knownFree x0_isKnown])) := by
  refine Ct.of (by decide) (Nat.le_of_ble_eq_true rfl) ?_
  intro Φ hl hK hR
  subst hl
  have hK : Ok d Φ RX1 "doneWorks" cX1_doneWorks 3 (some .int) { frames := 2, cells := 0, slots := 0, locals := 43 } := hK
  unfold fX1_doneWorks at hf
  have hf := un11 hf
  show J d Φ 3 [gLd d h0 x0_lineCount x0_goodsCount x0_workCount x0_years x0_lines x0_goods x0_works x0_change x0_coin x0_knownFree x0_isKnown] 0 0 0 [(0, .ref (h0 0))] []
  refine J_iconst (v := 0) hK dX1_doneWorks_0 rfl (by decide) ?_
  refine J_istore_n (L' := [(1, .int (0)), (0, .ref (h0 0))]) hK dX1_doneWorks_1 rfl rfl (by decide) rfl ?_
  refine J_iconst (v := 0) hK dX1_doneWorks_2 rfl (by decide) ?_
  refine J_istore_n (L' := [(2, .int (0)), (1, .int (0)), (0, .ref (h0 0))]) hK dX1_doneWorks_3 rfl rfl (by decide) rfl ?_
  obtain ⟨e4, hl1, hf⟩ := bs hf
  have hx1_32 : ∀ (w5 : Int32), w5 = e4 → J d Φ 3 [gLd d h0 x0_lineCount x0_goodsCount x0_workCount x0_years x0_lines x0_goods x0_works x0_change x0_coin x0_knownFree x0_isKnown] 0 0 32 [(1, .int w5)] [] := by
    intro w5 he
    rw [← he] at hf
    refine J_iload_n hK dX1_doneWorks_32 rfl 0 rfl rfl ?_
    obtain rfl := Option.some.inj hf
    exact J_iret hK hR dX1_doneWorks_33 () rfl (by decide) (by decide)
  have lo1 : ∀ (k : Nat) (z2 : Int32) (z3 : Int32), lp (u2 (fX1_doneWorks_s4 x0_lineCount x0_goodsCount x0_workCount x0_years x0_lines x0_goods x0_works x0_change x0_coin x0_knownFree x0_isKnown)) k (z2, z3) = some e4 → J d Φ 3 [gLd d h0 x0_lineCount x0_goodsCount x0_workCount x0_years x0_lines x0_goods x0_works x0_change x0_coin x0_knownFree x0_isKnown] 0 0 4 [(0, .ref (h0 0)), (1, .int z2), (2, .int z3)] [] := by
    intro k
    induction k with
    | zero => intro z2 z3 h; cases h
    | succ k ih1 =>
      intro z2 z3 h
      obtain ⟨k2, rr1, hk2, hs1, hr1⟩ := lp_ok h
      cases hk2
      have hs1 : fX1_doneWorks_s4 x0_lineCount x0_goodsCount x0_workCount x0_years x0_lines x0_goods x0_works x0_change x0_coin x0_knownFree x0_isKnown z2 z3 = some rr1 := hs1
      unfold fX1_doneWorks_s4 at hs1
      refine J_iload_n hK dX1_doneWorks_4 rfl 2 rfl rfl ?_
      refine J_aload_n hK dX1_doneWorks_5 rfl 0 rfl rfl ?_
      refine J_get hK fo_RX1_37 dX1_doneWorks_6 rfl 0 0 rfl rfl rfl ?_
      refine J_icmp_ge (tg := 32) hK dX1_doneWorks_9 rfl rfl (fun hc9 => ?_) (fun hc9 => ?_)
      · have hs1 := ip hc9 hs1
        exact J_loc [1] rfl (hx1_32 z2 (lpx hs1 hr1))
      · have hs1 := iq hc9 hs1
        refine J_aload_n hK dX1_doneWorks_12 rfl 0 rfl rfl ?_
        refine J_iload_n hK dX1_doneWorks_13 rfl 2 rfl rfl ?_
        obtain ⟨v6, e7, hs1⟩ := bs hs1
        refine J_callV (m' := 1) (ce' := 0) (sl' := 0) (gr := []) (gs' := fun _ => [gLd d h0 x0_lineCount x0_goodsCount x0_workCount x0_years x0_lines x0_goods x0_works x0_change x0_coin x0_knownFree x0_isKnown]) (st' := fun _ => [.int v6]) (st := []) hK dX1_doneWorks_14 cv_RX1_67 iv_yX1_isDone (As := [.int z3]) (kX1_isDone _ d h0 x0_lineCount x0_goodsCount x0_workCount x0_years x0_lines x0_goods x0_works x0_change x0_coin x0_knownFree x0_isKnown z3 e7) rfl rfl (Nat.le_of_ble_eq_true rfl) (by decide) 0 0 rfl rfl rfl [0] [] rfl rfl rfl rfl [0] rfl (fun _ => rfl) (fun _ => rfl) rfl rfl rfl (fun _ => rfl) (fun _ => ?_)
        refine J_if_eq (tg := 26) hK dX1_doneWorks_17 rfl rfl (fun hc17 => ?_) (fun hc17 => ?_)
        · have hs1 := ip hc17 hs1
          refine J_iinc (L' := [(2, .int (z3 + 1)), (0, .ref (h0 0)), (1, .int z2)]) (v := (z3 + 1)) hK dX1_doneWorks_26 rfl 2 rfl rfl (by decide) rfl ?_
          refine J_goto hK dX1_doneWorks_29 (n := 4) rfl ?_
          exact J_loc [1, 2, 0] rfl (ih1 z2 (z3 + 1) (lpc hs1 hr1))
        · have hs1 := iq hc17 hs1
          refine J_iload_n hK dX1_doneWorks_20 rfl 1 rfl rfl ?_
          refine J_iconst (v := 1) hK dX1_doneWorks_21 rfl (by decide) ?_
          refine J_iload_n hK dX1_doneWorks_22 rfl 2 rfl rfl ?_
          refine J_ishl hK dX1_doneWorks_23 rfl ?_
          refine J_ior hK dX1_doneWorks_24 rfl ?_
          obtain ⟨t8, et8, hs1⟩ := bs hs1
          refine J_nmi et8 ?_
          refine J_istore_n (L' := [(1, .int t8), (0, .ref (h0 0)), (2, .int z3)]) hK dX1_doneWorks_25 rfl rfl (by decide) rfl ?_
          refine J_iinc (L' := [(2, .int (z3 + 1)), (1, .int t8), (0, .ref (h0 0))]) (v := (z3 + 1)) hK dX1_doneWorks_26 rfl 2 rfl rfl (by decide) rfl ?_
          refine J_goto hK dX1_doneWorks_29 (n := 4) rfl ?_
          exact J_loc [2, 1, 0] rfl (ih1 t8 (z3 + 1) (lpc hs1 hr1))
  exact J_loc [2, 1, 0] rfl (lo1 n (0) (0) hl1)

def fJ7_fill_53178_s5 (m0 : Nat) (p1 : Int32) (z2 : Int32) (z3 : (Nat → Int32)) : Option ((Int32 × (Nat → Int32)) ⊕ ((Nat → Int32))) :=
  if (Int32.ofNat m0) ≤ z2 then (some (.inr z3)) else ((wr m0 z3 z2 p1).bind fun f6 => some (.inl ((z2 + 1), f6)))
def fJ7_fill_53178 (n : Nat) (m0 : Nat) (p0 : (Nat → Int32)) (p1 : Int32) : Option ((Nat → Int32)) :=
  (lp (u2 (fJ7_fill_53178_s5 m0 p1)) n (0, p0)).bind (fun w5 => some w5)
set_option maxHeartbeats 4000000 in
set_option maxRecDepth 100000 in
theorem kJ7_fill_53178 (l : Launch) (d : DT) (b0 : Nat) (n : Nat) (m0 : Nat) (p0 : (Nat → Int32)) (p1 : Int32)  {out : (Nat → Int32)} (hf : fJ7_fill_53178 n m0 p0 p1 = some out) : Ct l d yJ7_fill_53178 cJ7_fill_53178 4 none { frames := 0, cells := 0, slots := 0, locals := 0 } [.ref b0, .int p1] [[cI d b0 m0 p0]] (fun _ : Unit => (none, [[cI d b0 m0 out]])) := by
  refine Ct.of (by decide) (Nat.le_of_ble_eq_true rfl) ?_
  intro Φ hl hK hR
  subst hl
  have hK : Ok d Φ RJ7 "fill" cJ7_fill_53178 4 none { frames := 0, cells := 0, slots := 0, locals := 0 } := hK
  unfold fJ7_fill_53178 at hf
  show J d Φ 4 [[cI d b0 m0 p0]] 0 0 0 [(0, .ref b0), (1, .int p1)] []
  refine J_iconst (v := 0) hK dJ7_fill_53178_0 rfl (by decide) ?_
  refine J_istore_n (L' := [(2, .int (0)), (0, .ref b0), (1, .int p1)]) hK dJ7_fill_53178_1 rfl rfl (by decide) rfl ?_
  refine J_aload_n hK dJ7_fill_53178_2 rfl 1 rfl rfl ?_
  refine J_alen (v := (Int32.ofNat m0)) hK dJ7_fill_53178_3 rfl 0 0 rfl rfl 0 rfl rfl ?_
  refine J_istore_n (L' := [(3, .int (Int32.ofNat m0)), (2, .int (0)), (0, .ref b0), (1, .int p1)]) hK dJ7_fill_53178_4 rfl rfl (by decide) rfl ?_
  obtain ⟨e4, hl1, hf⟩ := bs hf
  have hx1_20 : ∀ (w5 : (Nat → Int32)), w5 = e4 → J d Φ 4 [[cI d b0 m0 w5]] 0 0 20 [] [] := by
    intro w5 he
    rw [← he] at hf
    obtain rfl := Option.some.inj hf
    exact J_vret hK hR dJ7_fill_53178_20 () rfl (by decide) (by decide)
  have lo1 : ∀ (k : Nat) (z2 : Int32) (z3 : (Nat → Int32)), lp (u2 (fJ7_fill_53178_s5 m0 p1)) k (z2, z3) = some e4 → J d Φ 4 [[cI d b0 m0 z3]] 0 0 5 [(0, .ref b0), (1, .int p1), (2, .int z2), (3, .int (Int32.ofNat m0))] [] := by
    intro k
    induction k with
    | zero => intro z2 z3 h; cases h
    | succ k ih1 =>
      intro z2 z3 h
      obtain ⟨k2, rr1, hk2, hs1, hr1⟩ := lp_ok h
      cases hk2
      have hs1 : fJ7_fill_53178_s5 m0 p1 z2 z3 = some rr1 := hs1
      unfold fJ7_fill_53178_s5 at hs1
      refine J_iload_n hK dJ7_fill_53178_5 rfl 2 rfl rfl ?_
      refine J_iload_n hK dJ7_fill_53178_6 rfl 3 rfl rfl ?_
      refine J_icmp_ge (tg := 20) hK dJ7_fill_53178_7 rfl rfl (fun hc7 => ?_) (fun hc7 => ?_)
      · have hs1 := ip hc7 hs1
        exact J_loc [] rfl (hx1_20 z3 (lpx hs1 hr1))
      · have hs1 := iq hc7 hs1
        refine J_aload_n hK dJ7_fill_53178_10 rfl 0 rfl rfl ?_
        refine J_iload_n hK dJ7_fill_53178_11 rfl 2 rfl rfl ?_
        refine J_iload_n hK dJ7_fill_53178_12 rfl 1 rfl rfl ?_
        obtain ⟨f6, ef6, hs1⟩ := bs hs1
        refine J_iast (g' := [cI d b0 m0 f6]) (gs' := [[cI d b0 m0 f6]]) hK dJ7_fill_53178_13 rfl 0 0 rfl rfl ef6 rfl rfl ?_
        refine J_iinc (L' := [(2, .int (z2 + 1)), (0, .ref b0), (1, .int p1), (3, .int (Int32.ofNat m0))]) (v := (z2 + 1)) hK dJ7_fill_53178_14 rfl 2 rfl rfl (by decide) rfl ?_
        refine J_goto hK dJ7_fill_53178_17 (n := 5) rfl ?_
        exact J_loc [1, 2, 0, 3] rfl (ih1 (z2 + 1) f6 (lpc hs1 hr1))
  exact J_loc [2, 3, 1, 0] rfl (lo1 n (0) p0 hl1)

def fX6_within (p0 : Int32) (p1 : Int32) (p2 : Int32) : Option (Int32) :=
  if p0 < p1 then (some (0)) else (if p2 < p0 then (some (0)) else (some (1)))
set_option maxHeartbeats 4000000 in
set_option maxRecDepth 100000 in
theorem kX6_within (l : Launch) (d : DT)  (p0 : Int32) (p1 : Int32) (p2 : Int32)  {out : Int32} (hf : fX6_within p0 p1 p2 = some out) : Ct l d yX6_within cX6_within 3 (some .boolean) { frames := 0, cells := 0, slots := 0, locals := 0 } [.int p0, .int p1, .int p2] [] (fun _ : Unit => (some (.int out), [])) := by
  refine Ct.of (by decide) (Nat.le_of_ble_eq_true rfl) ?_
  intro Φ hl hK hR
  subst hl
  have hK : Ok d Φ RX6 "within" cX6_within 3 (some .boolean) { frames := 0, cells := 0, slots := 0, locals := 0 } := hK
  unfold fX6_within at hf
  show J d Φ 3 [] 0 0 0 [(0, .int p0), (1, .int p1), (2, .int p2)] []
  refine J_iload_n hK dX6_within_0 rfl 0 rfl rfl ?_
  refine J_iload_n hK dX6_within_1 rfl 1 rfl rfl ?_
  refine J_icmp_lt (tg := 14) hK dX6_within_2 rfl rfl (fun hc2 => ?_) (fun hc2 => ?_)
  · have hf := ip hc2 hf
    refine J_iconst (v := 0) hK dX6_within_14 rfl (by decide) ?_
    obtain rfl := Option.some.inj hf
    exact J_zret hK hR dX6_within_15 () rfl rfl (by decide) (by decide)
  · have hf := iq hc2 hf
    refine J_iload_n hK dX6_within_5 rfl 0 rfl rfl ?_
    refine J_iload_n hK dX6_within_6 rfl 2 rfl rfl ?_
    refine J_icmp_gt (tg := 14) hK dX6_within_7 rfl rfl (fun hc7 => ?_) (fun hc7 => ?_)
    · have hf := ip hc7 hf
      refine J_iconst (v := 0) hK dX6_within_14 rfl (by decide) ?_
      obtain rfl := Option.some.inj hf
      exact J_zret hK hR dX6_within_15 () rfl rfl (by decide) (by decide)
    · have hf := iq hc7 hf
      refine J_iconst (v := 1) hK dX6_within_10 rfl (by decide) ?_
      refine J_goto hK dX6_within_11 (n := 15) rfl ?_
      obtain rfl := Option.some.inj hf
      exact J_zret hK hR dX6_within_15 () rfl rfl (by decide) (by decide)

def fX1_freeKnown_j20 (p1 : Int32) (x1 : (Nat → Int32)) (x2 : Int32) : Option (Int32 × (Nat → Int32) × Int32) :=
  (fX6_within p1 (0) (127)).bind (fun v3 => if v3 = 0 then (some ((-1), x1, x2)) else ((rd 128 x1 p1).bind fun v5 => some (v5, x1, x2)))
def fX1_freeKnown (n : Nat) (X0 : LdT) (p1 : Int32) : Option (Int32 × (Nat → Int32) × Int32) :=
  u11 (fun (x0_lineCount : Int32) (x0_goodsCount : Int32) (x0_workCount : Int32) (x0_years : Int32) (x0_lines : (Nat → Int32)) (x0_goods : (Nat → Int32)) (x0_works : (Nat → Int32)) (x0_change : (Nat → Int32)) (x0_coin : (Nat → Int32)) (x0_knownFree : (Nat → Int32)) (x0_isKnown : Int32) => if x0_isKnown = 0 then ((fJ7_fill_53178 n 128 x0_knownFree (-1)).bind (fun g6 => fX1_freeKnown_j20 p1 g6 (1))) else (fX1_freeKnown_j20 p1 x0_knownFree x0_isKnown)) X0
set_option maxHeartbeats 4000000 in
set_option maxRecDepth 100000 in
theorem kX1_freeKnown (l : Launch) (d : DT) (h0 : Nat → Nat) (n : Nat) (x0_lineCount : Int32) (x0_goodsCount : Int32) (x0_workCount : Int32) (x0_years : Int32) (x0_lines : (Nat → Int32)) (x0_goods : (Nat → Int32)) (x0_works : (Nat → Int32)) (x0_change : (Nat → Int32)) (x0_coin : (Nat → Int32)) (x0_knownFree : (Nat → Int32)) (x0_isKnown : Int32) (p1 : Int32)  {out : Int32 × (Nat → Int32) × Int32} (hf : fX1_freeKnown n (x0_lineCount, x0_goodsCount, x0_workCount, x0_years, x0_lines, x0_goods, x0_works, x0_change, x0_coin, x0_knownFree, x0_isKnown) p1 = some out) : Ct l d yX1_freeKnown cX1_freeKnown 2 (some .int) { frames := 1, cells := 0, slots := 0, locals := 23 } [.ref (h0 0), .int p1] [gLd d h0 x0_lineCount x0_goodsCount x0_workCount x0_years x0_lines x0_goods x0_works x0_change x0_coin x0_knownFree x0_isKnown] (fun _ : Unit => (some (.int out.1), [gLd d h0 x0_lineCount x0_goodsCount x0_workCount x0_years x0_lines x0_goods x0_works x0_change x0_coin (out.2.1) (out.2.2)])) := by
  refine Ct.of (by decide) (Nat.le_of_ble_eq_true rfl) ?_
  intro Φ hl hK hR
  subst hl
  have hK : Ok d Φ RX1 "freeKnown" cX1_freeKnown 2 (some .int) { frames := 1, cells := 0, slots := 0, locals := 23 } := hK
  unfold fX1_freeKnown at hf
  have hf := un11 hf
  show J d Φ 2 [gLd d h0 x0_lineCount x0_goodsCount x0_workCount x0_years x0_lines x0_goods x0_works x0_change x0_coin x0_knownFree x0_isKnown] 0 0 0 [(0, .ref (h0 0)), (1, .int p1)] []
  refine J_aload_n hK dX1_freeKnown_0 rfl 0 rfl rfl ?_
  refine J_get hK fo_RX1_43 dX1_freeKnown_1 rfl 0 0 rfl rfl rfl ?_
  have j20 : ∀ (x1 : (Nat → Int32)) (x2 : Int32), fX1_freeKnown_j20 p1 x1 x2 = some out → J d Φ 2 [gLd d h0 x0_lineCount x0_goodsCount x0_workCount x0_years x0_lines x0_goods x0_works x0_change x0_coin x1 x2] 0 0 20 [(0, .ref (h0 0)), (1, .int p1)] [] := by
    intro x1 x2 hf
    unfold fX1_freeKnown_j20 at hf
    refine J_iload_n hK dX1_freeKnown_20 rfl 1 rfl rfl ?_
    refine J_iconst (v := 0) hK dX1_freeKnown_21 rfl (by decide) ?_
    refine J_bipush (v := 127) hK dX1_freeKnown_22 rfl (by decide) ?_
    obtain ⟨v3, e4, hf⟩ := bs hf
    refine J_callN (m' := 1) (ce' := 0) (sl' := 0) (gr := [gLd d h0 x0_lineCount x0_goodsCount x0_workCount x0_years x0_lines x0_goods x0_works x0_change x0_coin x1 x2]) (gs' := fun _ => [gLd d h0 x0_lineCount x0_goodsCount x0_workCount x0_years x0_lines x0_goods x0_works x0_change x0_coin x1 x2]) (st' := fun _ => [.int v3]) (st := []) hK dX1_freeKnown_24 cn_RX1_59 (As := [.int p1, .int (0), .int (127)]) (kX6_within _ d p1 (0) (127) e4) rfl rfl (Nat.le_of_ble_eq_true rfl) (by decide) [] [0] rfl rfl rfl rfl [0] rfl (fun _ => rfl) (fun _ => rfl) rfl rfl rfl (fun _ => rfl) (fun _ => ?_)
    refine J_if_eq (tg := 39) hK dX1_freeKnown_27 rfl rfl (fun hc27 => ?_) (fun hc27 => ?_)
    · have hf := ip hc27 hf
      refine J_iconst (v := (-1)) hK dX1_freeKnown_39 rfl (by decide) ?_
      obtain rfl := Option.some.inj hf
      exact J_iret hK hR dX1_freeKnown_40 () rfl (by decide) (by decide)
    · have hf := iq hc27 hf
      refine J_aload_n hK dX1_freeKnown_30 rfl 0 rfl rfl ?_
      refine J_get hK fo_RX1_27 dX1_freeKnown_31 rfl 0 0 rfl rfl rfl ?_
      refine J_iload_n hK dX1_freeKnown_34 rfl 1 rfl rfl ?_
      obtain ⟨v5, ev5, hf⟩ := bs hf
      refine J_iald hK dX1_freeKnown_35 rfl 0 6 rfl rfl ev5 ?_
      refine J_goto hK dX1_freeKnown_36 (n := 40) rfl ?_
      obtain rfl := Option.some.inj hf
      exact J_iret hK hR dX1_freeKnown_40 () rfl (by decide) (by decide)
  refine J_if_ne (tg := 20) hK dX1_freeKnown_4 rfl rfl (fun hc4 => ?_) (fun hc4 => ?_)
  · have hf := iq hc4 hf
    exact (j20 x0_knownFree x0_isKnown hf)
  · have hf := ip hc4 hf
    refine J_aload_n hK dX1_freeKnown_7 rfl 0 rfl rfl ?_
    refine J_get hK fo_RX1_27 dX1_freeKnown_8 rfl 0 0 rfl rfl rfl ?_
    refine J_iconst (v := (-1)) hK dX1_freeKnown_11 rfl (by decide) ?_
    refine J_fl (gs2 := [(gLd d h0 x0_lineCount x0_goodsCount x0_workCount x0_years x0_lines x0_goods x0_works x0_change x0_coin x0_knownFree x0_isKnown).take 6, [cI d (h0 6) 128 x0_knownFree], (gLd d h0 x0_lineCount x0_goodsCount x0_workCount x0_years x0_lines x0_goods x0_works x0_change x0_coin x0_knownFree x0_isKnown).drop 7]) rfl ?_
    obtain ⟨g6, e7, hf⟩ := bs hf
    refine J_callS (m' := 3) (ce' := 0) (sl' := 0) (gr := [(gLd d h0 x0_lineCount x0_goodsCount x0_workCount x0_years x0_lines x0_goods x0_works x0_change x0_coin x0_knownFree x0_isKnown).take 6, (gLd d h0 x0_lineCount x0_goodsCount x0_workCount x0_years x0_lines x0_goods x0_works x0_change x0_coin x0_knownFree x0_isKnown).drop 7]) (gs' := fun _ => [(gLd d h0 x0_lineCount x0_goodsCount x0_workCount x0_years x0_lines x0_goods x0_works x0_change x0_coin x0_knownFree x0_isKnown).take 6, [cI d (h0 6) 128 g6], (gLd d h0 x0_lineCount x0_goodsCount x0_workCount x0_years x0_lines x0_goods x0_works x0_change x0_coin x0_knownFree x0_isKnown).drop 7]) (st' := fun _ => []) (st := []) hK dX1_freeKnown_12 cv_RX1_47 ws_yJ7_fill_53178 (As := [.ref (h0 6), .int (-1)]) (kJ7_fill_53178 _ d (h0 6) n 128 x0_knownFree (-1) e7) rfl rfl (Nat.le_of_ble_eq_true rfl) (by decide) [1] [0, 2] rfl rfl rfl rfl [0, 2, 1] rfl (fun _ => rfl) (fun _ => rfl) rfl rfl rfl (fun _ => rfl) (fun _ => ?_)
    refine J_fl (gs2 := [gLd d h0 x0_lineCount x0_goodsCount x0_workCount x0_years x0_lines x0_goods x0_works x0_change x0_coin g6 x0_isKnown]) rfl ?_
    refine J_aload_n hK dX1_freeKnown_15 rfl 0 rfl rfl ?_
    refine J_iconst (v := 1) hK dX1_freeKnown_16 rfl (by decide) ?_
    refine J_put (g' := gLd d h0 x0_lineCount x0_goodsCount x0_workCount x0_years x0_lines x0_goods x0_works x0_change x0_coin g6 (1)) (gs' := [gLd d h0 x0_lineCount x0_goodsCount x0_workCount x0_years x0_lines x0_goods x0_works x0_change x0_coin g6 (1)]) hK fp_RX1_43 dX1_freeKnown_17 rfl 0 0 rfl rfl rfl rfl (Nat.le_of_ble_eq_true rfl) rfl rfl ?_
    exact (j20 g6 (1) hf)

def fX1_take (X0 : LdT) (X1 : LdT) : Option ((Int32 × Int32 × Int32 × Int32 × (Nat → Int32) × (Nat → Int32) × (Nat → Int32) × (Nat → Int32) × (Nat → Int32) × Int32)) :=
  u11 (fun (x0_lineCount : Int32) (x0_goodsCount : Int32) (x0_workCount : Int32) (x0_years : Int32) (x0_lines : (Nat → Int32)) (x0_goods : (Nat → Int32)) (x0_works : (Nat → Int32)) (x0_change : (Nat → Int32)) (x0_coin : (Nat → Int32)) (x0_knownFree : (Nat → Int32)) (x0_isKnown : Int32) => u11 (fun (x1_lineCount : Int32) (x1_goodsCount : Int32) (x1_workCount : Int32) (x1_years : Int32) (x1_lines : (Nat → Int32)) (x1_goods : (Nat → Int32)) (x1_works : (Nat → Int32)) (x1_change : (Nat → Int32)) (x1_coin : (Nat → Int32)) (x1_knownFree : (Nat → Int32)) (x1_isKnown : Int32) => (cpy 140 x1_lines 140 x0_lines (0) (0) (x1_lineCount * 7)).bind fun f1 => (cpy 24 x1_goods 24 x0_goods (0) (0) (x1_goodsCount * 3)).bind fun f2 => (cpy 35 x1_works 35 x0_works (0) (0) (x1_workCount * 5)).bind fun f3 => (cpy 12 x1_change 12 x0_change (0) (0) (12)).bind fun f4 => (cpy 3 x1_coin 3 x0_coin (0) (0) (3)).bind fun f5 => some (x1_lineCount, x1_goodsCount, x1_workCount, x1_years, f1, f2, f3, f4, f5, 0)) X1) X0
set_option maxHeartbeats 4000000 in
set_option maxRecDepth 100000 in
theorem kX1_take (l : Launch) (d : DT) (h0 : Nat → Nat) (h1 : Nat → Nat) (x0_lineCount : Int32) (x0_goodsCount : Int32) (x0_workCount : Int32) (x0_years : Int32) (x0_lines : (Nat → Int32)) (x0_goods : (Nat → Int32)) (x0_works : (Nat → Int32)) (x0_change : (Nat → Int32)) (x0_coin : (Nat → Int32)) (x0_knownFree : (Nat → Int32)) (x0_isKnown : Int32) (x1_lineCount : Int32) (x1_goodsCount : Int32) (x1_workCount : Int32) (x1_years : Int32) (x1_lines : (Nat → Int32)) (x1_goods : (Nat → Int32)) (x1_works : (Nat → Int32)) (x1_change : (Nat → Int32)) (x1_coin : (Nat → Int32)) (x1_knownFree : (Nat → Int32)) (x1_isKnown : Int32)  {out : (Int32 × Int32 × Int32 × Int32 × (Nat → Int32) × (Nat → Int32) × (Nat → Int32) × (Nat → Int32) × (Nat → Int32) × Int32)} (hf : fX1_take (x0_lineCount, x0_goodsCount, x0_workCount, x0_years, x0_lines, x0_goods, x0_works, x0_change, x0_coin, x0_knownFree, x0_isKnown) (x1_lineCount, x1_goodsCount, x1_workCount, x1_years, x1_lines, x1_goods, x1_works, x1_change, x1_coin, x1_knownFree, x1_isKnown) = some out) : Ct l d yX1_take cX1_take 2 none { frames := 1, cells := 0, slots := 0, locals := 26 } [.ref (h0 0), .ref (h1 0)] [gLd d h0 x0_lineCount x0_goodsCount x0_workCount x0_years x0_lines x0_goods x0_works x0_change x0_coin x0_knownFree x0_isKnown, gLd d h1 x1_lineCount x1_goodsCount x1_workCount x1_years x1_lines x1_goods x1_works x1_change x1_coin x1_knownFree x1_isKnown] (fun _ : Unit => (none, [gLd d h0 (out.1) (out.2.1) (out.2.2.1) (out.2.2.2.1) (out.2.2.2.2.1) (out.2.2.2.2.2.1) (out.2.2.2.2.2.2.1) (out.2.2.2.2.2.2.2.1) (out.2.2.2.2.2.2.2.2.1) x0_knownFree (out.2.2.2.2.2.2.2.2.2), gLd d h1 x1_lineCount x1_goodsCount x1_workCount x1_years x1_lines x1_goods x1_works x1_change x1_coin x1_knownFree x1_isKnown])) := by
  refine Ct.of (by decide) (Nat.le_of_ble_eq_true rfl) ?_
  intro Φ hl hK hR
  subst hl
  have hK : Ok d Φ RX1 "take" cX1_take 2 none { frames := 1, cells := 0, slots := 0, locals := 26 } := hK
  unfold fX1_take at hf
  have hf := un11 hf
  have hf := un11 hf
  show J d Φ 2 [gLd d h0 x0_lineCount x0_goodsCount x0_workCount x0_years x0_lines x0_goods x0_works x0_change x0_coin x0_knownFree x0_isKnown, gLd d h1 x1_lineCount x1_goodsCount x1_workCount x1_years x1_lines x1_goods x1_works x1_change x1_coin x1_knownFree x1_isKnown] 0 0 0 [(0, .ref (h0 0)), (1, .ref (h1 0))] []
  refine J_aload_n hK dX1_take_0 rfl 0 rfl rfl ?_
  refine J_aload_n hK dX1_take_1 rfl 1 rfl rfl ?_
  refine J_get hK fo_RX1_30 dX1_take_2 rfl 1 0 rfl rfl rfl ?_
  refine J_put (g' := gLd d h0 x1_lineCount x0_goodsCount x0_workCount x0_years x0_lines x0_goods x0_works x0_change x0_coin x0_knownFree x0_isKnown) (gs' := [gLd d h0 x1_lineCount x0_goodsCount x0_workCount x0_years x0_lines x0_goods x0_works x0_change x0_coin x0_knownFree x0_isKnown, gLd d h1 x1_lineCount x1_goodsCount x1_workCount x1_years x1_lines x1_goods x1_works x1_change x1_coin x1_knownFree x1_isKnown]) hK fp_RX1_30 dX1_take_5 rfl 0 0 rfl rfl rfl rfl (Nat.le_of_ble_eq_true rfl) rfl rfl ?_
  refine J_aload_n hK dX1_take_8 rfl 0 rfl rfl ?_
  refine J_aload_n hK dX1_take_9 rfl 1 rfl rfl ?_
  refine J_get hK fo_RX1_34 dX1_take_10 rfl 1 0 rfl rfl rfl ?_
  refine J_put (g' := gLd d h0 x1_lineCount x1_goodsCount x0_workCount x0_years x0_lines x0_goods x0_works x0_change x0_coin x0_knownFree x0_isKnown) (gs' := [gLd d h0 x1_lineCount x1_goodsCount x0_workCount x0_years x0_lines x0_goods x0_works x0_change x0_coin x0_knownFree x0_isKnown, gLd d h1 x1_lineCount x1_goodsCount x1_workCount x1_years x1_lines x1_goods x1_works x1_change x1_coin x1_knownFree x1_isKnown]) hK fp_RX1_34 dX1_take_13 rfl 0 0 rfl rfl rfl rfl (Nat.le_of_ble_eq_true rfl) rfl rfl ?_
  refine J_aload_n hK dX1_take_16 rfl 0 rfl rfl ?_
  refine J_aload_n hK dX1_take_17 rfl 1 rfl rfl ?_
  refine J_get hK fo_RX1_37 dX1_take_18 rfl 1 0 rfl rfl rfl ?_
  refine J_put (g' := gLd d h0 x1_lineCount x1_goodsCount x1_workCount x0_years x0_lines x0_goods x0_works x0_change x0_coin x0_knownFree x0_isKnown) (gs' := [gLd d h0 x1_lineCount x1_goodsCount x1_workCount x0_years x0_lines x0_goods x0_works x0_change x0_coin x0_knownFree x0_isKnown, gLd d h1 x1_lineCount x1_goodsCount x1_workCount x1_years x1_lines x1_goods x1_works x1_change x1_coin x1_knownFree x1_isKnown]) hK fp_RX1_37 dX1_take_21 rfl 0 0 rfl rfl rfl rfl (Nat.le_of_ble_eq_true rfl) rfl rfl ?_
  refine J_aload_n hK dX1_take_24 rfl 0 rfl rfl ?_
  refine J_aload_n hK dX1_take_25 rfl 1 rfl rfl ?_
  refine J_get hK fo_RX1_40 dX1_take_26 rfl 1 0 rfl rfl rfl ?_
  refine J_put (g' := gLd d h0 x1_lineCount x1_goodsCount x1_workCount x1_years x0_lines x0_goods x0_works x0_change x0_coin x0_knownFree x0_isKnown) (gs' := [gLd d h0 x1_lineCount x1_goodsCount x1_workCount x1_years x0_lines x0_goods x0_works x0_change x0_coin x0_knownFree x0_isKnown, gLd d h1 x1_lineCount x1_goodsCount x1_workCount x1_years x1_lines x1_goods x1_works x1_change x1_coin x1_knownFree x1_isKnown]) hK fp_RX1_40 dX1_take_29 rfl 0 0 rfl rfl rfl rfl (Nat.le_of_ble_eq_true rfl) rfl rfl ?_
  refine J_aload_n hK dX1_take_32 rfl 1 rfl rfl ?_
  refine J_get hK fo_RX1_9 dX1_take_33 rfl 1 0 rfl rfl rfl ?_
  refine J_iconst (v := 0) hK dX1_take_36 rfl (by decide) ?_
  refine J_aload_n hK dX1_take_37 rfl 0 rfl rfl ?_
  refine J_get hK fo_RX1_9 dX1_take_38 rfl 0 0 rfl rfl rfl ?_
  refine J_iconst (v := 0) hK dX1_take_41 rfl (by decide) ?_
  refine J_aload_n hK dX1_take_42 rfl 0 rfl rfl ?_
  refine J_get hK fo_RX1_30 dX1_take_43 rfl 0 0 rfl rfl rfl ?_
  refine J_bipush (v := 7) hK dX1_take_46 rfl (by decide) ?_
  refine J_imul hK dX1_take_48 rfl ?_
  obtain ⟨f1, ef1, hf⟩ := bs hf
  refine J_cpyI (g' := gLd d h0 x1_lineCount x1_goodsCount x1_workCount x1_years f1 x0_goods x0_works x0_change x0_coin x0_knownFree x0_isKnown) (gs' := [gLd d h0 x1_lineCount x1_goodsCount x1_workCount x1_years f1 x0_goods x0_works x0_change x0_coin x0_knownFree x0_isKnown, gLd d h1 x1_lineCount x1_goodsCount x1_workCount x1_years x1_lines x1_goods x1_works x1_change x1_coin x1_knownFree x1_isKnown]) hK dX1_take_49 rfl cc_RX1_53 1 1 0 1 rfl rfl rfl rfl ef1 (by decide) (Nat.le_of_ble_eq_true rfl) rfl rfl ?_
  refine J_aload_n hK dX1_take_52 rfl 1 rfl rfl ?_
  refine J_get hK fo_RX1_15 dX1_take_53 rfl 1 0 rfl rfl rfl ?_
  refine J_iconst (v := 0) hK dX1_take_56 rfl (by decide) ?_
  refine J_aload_n hK dX1_take_57 rfl 0 rfl rfl ?_
  refine J_get hK fo_RX1_15 dX1_take_58 rfl 0 0 rfl rfl rfl ?_
  refine J_iconst (v := 0) hK dX1_take_61 rfl (by decide) ?_
  refine J_aload_n hK dX1_take_62 rfl 0 rfl rfl ?_
  refine J_get hK fo_RX1_34 dX1_take_63 rfl 0 0 rfl rfl rfl ?_
  refine J_iconst (v := 3) hK dX1_take_66 rfl (by decide) ?_
  refine J_imul hK dX1_take_67 rfl ?_
  obtain ⟨f2, ef2, hf⟩ := bs hf
  refine J_cpyI (g' := gLd d h0 x1_lineCount x1_goodsCount x1_workCount x1_years f1 f2 x0_works x0_change x0_coin x0_knownFree x0_isKnown) (gs' := [gLd d h0 x1_lineCount x1_goodsCount x1_workCount x1_years f1 f2 x0_works x0_change x0_coin x0_knownFree x0_isKnown, gLd d h1 x1_lineCount x1_goodsCount x1_workCount x1_years x1_lines x1_goods x1_works x1_change x1_coin x1_knownFree x1_isKnown]) hK dX1_take_68 rfl cc_RX1_53 1 2 0 2 rfl rfl rfl rfl ef2 (by decide) (Nat.le_of_ble_eq_true rfl) rfl rfl ?_
  refine J_aload_n hK dX1_take_71 rfl 1 rfl rfl ?_
  refine J_get hK fo_RX1_18 dX1_take_72 rfl 1 0 rfl rfl rfl ?_
  refine J_iconst (v := 0) hK dX1_take_75 rfl (by decide) ?_
  refine J_aload_n hK dX1_take_76 rfl 0 rfl rfl ?_
  refine J_get hK fo_RX1_18 dX1_take_77 rfl 0 0 rfl rfl rfl ?_
  refine J_iconst (v := 0) hK dX1_take_80 rfl (by decide) ?_
  refine J_aload_n hK dX1_take_81 rfl 0 rfl rfl ?_
  refine J_get hK fo_RX1_37 dX1_take_82 rfl 0 0 rfl rfl rfl ?_
  refine J_iconst (v := 5) hK dX1_take_85 rfl (by decide) ?_
  refine J_imul hK dX1_take_86 rfl ?_
  obtain ⟨f3, ef3, hf⟩ := bs hf
  refine J_cpyI (g' := gLd d h0 x1_lineCount x1_goodsCount x1_workCount x1_years f1 f2 f3 x0_change x0_coin x0_knownFree x0_isKnown) (gs' := [gLd d h0 x1_lineCount x1_goodsCount x1_workCount x1_years f1 f2 f3 x0_change x0_coin x0_knownFree x0_isKnown, gLd d h1 x1_lineCount x1_goodsCount x1_workCount x1_years x1_lines x1_goods x1_works x1_change x1_coin x1_knownFree x1_isKnown]) hK dX1_take_87 rfl cc_RX1_53 1 3 0 3 rfl rfl rfl rfl ef3 (by decide) (Nat.le_of_ble_eq_true rfl) rfl rfl ?_
  refine J_aload_n hK dX1_take_90 rfl 1 rfl rfl ?_
  refine J_get hK fo_RX1_21 dX1_take_91 rfl 1 0 rfl rfl rfl ?_
  refine J_iconst (v := 0) hK dX1_take_94 rfl (by decide) ?_
  refine J_aload_n hK dX1_take_95 rfl 0 rfl rfl ?_
  refine J_get hK fo_RX1_21 dX1_take_96 rfl 0 0 rfl rfl rfl ?_
  refine J_iconst (v := 0) hK dX1_take_99 rfl (by decide) ?_
  refine J_bipush (v := 12) hK dX1_take_100 rfl (by decide) ?_
  obtain ⟨f4, ef4, hf⟩ := bs hf
  refine J_cpyI (g' := gLd d h0 x1_lineCount x1_goodsCount x1_workCount x1_years f1 f2 f3 f4 x0_coin x0_knownFree x0_isKnown) (gs' := [gLd d h0 x1_lineCount x1_goodsCount x1_workCount x1_years f1 f2 f3 f4 x0_coin x0_knownFree x0_isKnown, gLd d h1 x1_lineCount x1_goodsCount x1_workCount x1_years x1_lines x1_goods x1_works x1_change x1_coin x1_knownFree x1_isKnown]) hK dX1_take_102 rfl cc_RX1_53 1 4 0 4 rfl rfl rfl rfl ef4 (by decide) (Nat.le_of_ble_eq_true rfl) rfl rfl ?_
  refine J_aload_n hK dX1_take_105 rfl 1 rfl rfl ?_
  refine J_get hK fo_RX1_24 dX1_take_106 rfl 1 0 rfl rfl rfl ?_
  refine J_iconst (v := 0) hK dX1_take_109 rfl (by decide) ?_
  refine J_aload_n hK dX1_take_110 rfl 0 rfl rfl ?_
  refine J_get hK fo_RX1_24 dX1_take_111 rfl 0 0 rfl rfl rfl ?_
  refine J_iconst (v := 0) hK dX1_take_114 rfl (by decide) ?_
  refine J_iconst (v := 3) hK dX1_take_115 rfl (by decide) ?_
  obtain ⟨f5, ef5, hf⟩ := bs hf
  refine J_cpyI (g' := gLd d h0 x1_lineCount x1_goodsCount x1_workCount x1_years f1 f2 f3 f4 f5 x0_knownFree x0_isKnown) (gs' := [gLd d h0 x1_lineCount x1_goodsCount x1_workCount x1_years f1 f2 f3 f4 f5 x0_knownFree x0_isKnown, gLd d h1 x1_lineCount x1_goodsCount x1_workCount x1_years x1_lines x1_goods x1_works x1_change x1_coin x1_knownFree x1_isKnown]) hK dX1_take_116 rfl cc_RX1_53 1 5 0 5 rfl rfl rfl rfl ef5 (by decide) (Nat.le_of_ble_eq_true rfl) rfl rfl ?_
  refine J_aload_n hK dX1_take_119 rfl 0 rfl rfl ?_
  refine J_iconst (v := 0) hK dX1_take_120 rfl (by decide) ?_
  refine J_put (g' := gLd d h0 x1_lineCount x1_goodsCount x1_workCount x1_years f1 f2 f3 f4 f5 x0_knownFree (0)) (gs' := [gLd d h0 x1_lineCount x1_goodsCount x1_workCount x1_years f1 f2 f3 f4 f5 x0_knownFree (0), gLd d h1 x1_lineCount x1_goodsCount x1_workCount x1_years x1_lines x1_goods x1_works x1_change x1_coin x1_knownFree x1_isKnown]) hK fp_RX1_43 dX1_take_121 rfl 0 0 rfl rfl rfl rfl (Nat.le_of_ble_eq_true rfl) rfl rfl ?_
  obtain rfl := Option.some.inj hf
  exact J_vret hK hR dX1_take_124 () rfl (by decide) (by decide)

def fX1_hasWork (X0 : LdT) (p1 : Int32) : Option (Int32) :=
  u11 (fun (x0_lineCount : Int32) (x0_goodsCount : Int32) (x0_workCount : Int32) (x0_years : Int32) (x0_lines : (Nat → Int32)) (x0_goods : (Nat → Int32)) (x0_works : (Nat → Int32)) (x0_change : (Nat → Int32)) (x0_coin : (Nat → Int32)) (x0_knownFree : (Nat → Int32)) (x0_isKnown : Int32) => (fX6_within p1 (0) (x0_workCount - 1)).bind (fun v1 => (zb v1).bind fun v3 => some v3)) X0
set_option maxHeartbeats 4000000 in
set_option maxRecDepth 100000 in
theorem kX1_hasWork (l : Launch) (d : DT) (h0 : Nat → Nat) (x0_lineCount : Int32) (x0_goodsCount : Int32) (x0_workCount : Int32) (x0_years : Int32) (x0_lines : (Nat → Int32)) (x0_goods : (Nat → Int32)) (x0_works : (Nat → Int32)) (x0_change : (Nat → Int32)) (x0_coin : (Nat → Int32)) (x0_knownFree : (Nat → Int32)) (x0_isKnown : Int32) (p1 : Int32)  {out : Int32} (hf : fX1_hasWork (x0_lineCount, x0_goodsCount, x0_workCount, x0_years, x0_lines, x0_goods, x0_works, x0_change, x0_coin, x0_knownFree, x0_isKnown) p1 = some out) : Ct l d yX1_hasWork cX1_hasWork 2 (some .boolean) { frames := 1, cells := 0, slots := 0, locals := 22 } [.ref (h0 0), .int p1] [gLd d h0 x0_lineCount x0_goodsCount x0_workCount x0_years x0_lines x0_goods x0_works x0_change x0_coin x0_knownFree x0_isKnown] (fun _ : Unit => (some (.int out), [gLd d h0 x0_lineCount x0_goodsCount x0_workCount x0_years x0_lines x0_goods x0_works x0_change x0_coin x0_knownFree x0_isKnown])) := by
  refine Ct.of (by decide) (Nat.le_of_ble_eq_true rfl) ?_
  intro Φ hl hK hR
  subst hl
  have hK : Ok d Φ RX1 "hasWork" cX1_hasWork 2 (some .boolean) { frames := 1, cells := 0, slots := 0, locals := 22 } := hK
  unfold fX1_hasWork at hf
  have hf := un11 hf
  show J d Φ 2 [gLd d h0 x0_lineCount x0_goodsCount x0_workCount x0_years x0_lines x0_goods x0_works x0_change x0_coin x0_knownFree x0_isKnown] 0 0 0 [(0, .ref (h0 0)), (1, .int p1)] []
  refine J_iload_n hK dX1_hasWork_0 rfl 1 rfl rfl ?_
  refine J_iconst (v := 0) hK dX1_hasWork_1 rfl (by decide) ?_
  refine J_aload_n hK dX1_hasWork_2 rfl 0 rfl rfl ?_
  refine J_get hK fo_RX1_37 dX1_hasWork_3 rfl 0 0 rfl rfl rfl ?_
  refine J_iconst (v := 1) hK dX1_hasWork_6 rfl (by decide) ?_
  refine J_isub hK dX1_hasWork_7 rfl ?_
  obtain ⟨v1, e2, hf⟩ := bs hf
  refine J_callN (m' := 1) (ce' := 0) (sl' := 0) (gr := [gLd d h0 x0_lineCount x0_goodsCount x0_workCount x0_years x0_lines x0_goods x0_works x0_change x0_coin x0_knownFree x0_isKnown]) (gs' := fun _ => [gLd d h0 x0_lineCount x0_goodsCount x0_workCount x0_years x0_lines x0_goods x0_works x0_change x0_coin x0_knownFree x0_isKnown]) (st' := fun _ => [.int v1]) (st := []) hK dX1_hasWork_8 cn_RX1_59 (As := [.int p1, .int (0), .int (x0_workCount - 1)]) (kX6_within _ d p1 (0) (x0_workCount - 1) e2) rfl rfl (Nat.le_of_ble_eq_true rfl) (by decide) [] [0] rfl rfl rfl rfl [0] rfl (fun _ => rfl) (fun _ => rfl) rfl rfl rfl (fun _ => rfl) (fun _ => ?_)
  obtain ⟨v3, ev3, hf⟩ := bs hf
  obtain rfl := Option.some.inj hf
  exact J_zret hK hR dX1_hasWork_11 () (zb_ok ev3).2 (by rw [(zb_ok ev3).1]) (by decide) (by decide)

def fX1_addLine (X0 : LdT) (p1 : Int32) (p2 : Int32) (p3 : Int32) (p4 : Int32) (p5 : Int32) (p6 : Int32) : Option (Int32 × (Nat → Int32) × Int32) :=
  u11 (fun (x0_lineCount : Int32) (x0_goodsCount : Int32) (x0_workCount : Int32) (x0_years : Int32) (x0_lines : (Nat → Int32)) (x0_goods : (Nat → Int32)) (x0_works : (Nat → Int32)) (x0_change : (Nat → Int32)) (x0_coin : (Nat → Int32)) (x0_knownFree : (Nat → Int32)) (x0_isKnown : Int32) => if x0_lineCount < 20 then ((wr 140 x0_lines ((x0_lineCount * 7) + 0) p1).bind fun f1 => (wr 140 f1 ((x0_lineCount * 7) + 1) p2).bind fun f2 => (wr 140 f2 ((x0_lineCount * 7) + 2) p3).bind fun f3 => (wr 140 f3 ((x0_lineCount * 7) + 3) p4).bind fun f4 => (wr 140 f4 ((x0_lineCount * 7) + 4) p5).bind fun f5 => (wr 140 f5 ((x0_lineCount * 7) + 5) p6).bind fun f6 => (wr 140 f6 ((x0_lineCount * 7) + 6) (0)).bind fun f7 => some ((x0_lineCount + 1), f7, 0)) else (some (x0_lineCount, x0_lines, x0_isKnown))) X0
set_option maxHeartbeats 4000000 in
set_option maxRecDepth 100000 in
theorem kX1_addLine (l : Launch) (d : DT) (h0 : Nat → Nat) (x0_lineCount : Int32) (x0_goodsCount : Int32) (x0_workCount : Int32) (x0_years : Int32) (x0_lines : (Nat → Int32)) (x0_goods : (Nat → Int32)) (x0_works : (Nat → Int32)) (x0_change : (Nat → Int32)) (x0_coin : (Nat → Int32)) (x0_knownFree : (Nat → Int32)) (x0_isKnown : Int32) (p1 : Int32) (p2 : Int32) (p3 : Int32) (p4 : Int32) (p5 : Int32) (p6 : Int32)  {out : Int32 × (Nat → Int32) × Int32} (hf : fX1_addLine (x0_lineCount, x0_goodsCount, x0_workCount, x0_years, x0_lines, x0_goods, x0_works, x0_change, x0_coin, x0_knownFree, x0_isKnown) p1 p2 p3 p4 p5 p6 = some out) : Ct l d yX1_addLine cX1_addLine 8 none { frames := 0, cells := 0, slots := 0, locals := 0 } [.ref (h0 0), .int p1, .int p2, .int p3, .int p4, .int p5, .int p6] [gLd d h0 x0_lineCount x0_goodsCount x0_workCount x0_years x0_lines x0_goods x0_works x0_change x0_coin x0_knownFree x0_isKnown] (fun _ : Unit => (none, [gLd d h0 (out.1) x0_goodsCount x0_workCount x0_years (out.2.1) x0_goods x0_works x0_change x0_coin x0_knownFree (out.2.2)])) := by
  refine Ct.of (by decide) (Nat.le_of_ble_eq_true rfl) ?_
  intro Φ hl hK hR
  subst hl
  have hK : Ok d Φ RX1 "addLine" cX1_addLine 8 none { frames := 0, cells := 0, slots := 0, locals := 0 } := hK
  unfold fX1_addLine at hf
  have hf := un11 hf
  show J d Φ 8 [gLd d h0 x0_lineCount x0_goodsCount x0_workCount x0_years x0_lines x0_goods x0_works x0_change x0_coin x0_knownFree x0_isKnown] 0 0 0 [(0, .ref (h0 0)), (1, .int p1), (2, .int p2), (3, .int p3), (4, .int p4), (5, .int p5), (6, .int p6)] []
  refine J_aload_n hK dX1_addLine_0 rfl 0 rfl rfl ?_
  refine J_get hK fo_RX1_30 dX1_addLine_1 rfl 0 0 rfl rfl rfl ?_
  refine J_bipush (v := 20) hK dX1_addLine_4 rfl (by decide) ?_
  refine J_icmp_lt (tg := 10) hK dX1_addLine_6 rfl rfl (fun hc6 => ?_) (fun hc6 => ?_)
  · have hf := ip hc6 hf
    refine J_aload_n hK dX1_addLine_10 rfl 0 rfl rfl ?_
    refine J_get hK fo_RX1_30 dX1_addLine_11 rfl 0 0 rfl rfl rfl ?_
    refine J_bipush (v := 7) hK dX1_addLine_14 rfl (by decide) ?_
    refine J_imul hK dX1_addLine_16 rfl ?_
    refine J_istore (L' := [(7, .int (x0_lineCount * 7)), (0, .ref (h0 0)), (1, .int p1), (2, .int p2), (3, .int p3), (4, .int p4), (5, .int p5), (6, .int p6)]) hK dX1_addLine_17 rfl (by decide) rfl ?_
    refine J_aload_n hK dX1_addLine_19 rfl 1 rfl rfl ?_
    refine J_get hK fo_RX1_9 dX1_addLine_20 rfl 0 0 rfl rfl rfl ?_
    refine J_iload hK dX1_addLine_23 rfl 0 rfl ?_
    refine J_iconst (v := 0) hK dX1_addLine_25 rfl (by decide) ?_
    refine J_iadd hK dX1_addLine_26 rfl ?_
    refine J_iload_n hK dX1_addLine_27 rfl 2 rfl rfl ?_
    obtain ⟨f1, ef1, hf⟩ := bs hf
    refine J_iast (g' := gLd d h0 x0_lineCount x0_goodsCount x0_workCount x0_years f1 x0_goods x0_works x0_change x0_coin x0_knownFree x0_isKnown) (gs' := [gLd d h0 x0_lineCount x0_goodsCount x0_workCount x0_years f1 x0_goods x0_works x0_change x0_coin x0_knownFree x0_isKnown]) hK dX1_addLine_28 rfl 0 1 rfl rfl ef1 rfl rfl ?_
    refine J_aload_n hK dX1_addLine_29 rfl 1 rfl rfl ?_
    refine J_get hK fo_RX1_9 dX1_addLine_30 rfl 0 0 rfl rfl rfl ?_
    refine J_iload hK dX1_addLine_33 rfl 0 rfl ?_
    refine J_iconst (v := 1) hK dX1_addLine_35 rfl (by decide) ?_
    refine J_iadd hK dX1_addLine_36 rfl ?_
    refine J_iload_n hK dX1_addLine_37 rfl 3 rfl rfl ?_
    obtain ⟨f2, ef2, hf⟩ := bs hf
    refine J_iast (g' := gLd d h0 x0_lineCount x0_goodsCount x0_workCount x0_years f2 x0_goods x0_works x0_change x0_coin x0_knownFree x0_isKnown) (gs' := [gLd d h0 x0_lineCount x0_goodsCount x0_workCount x0_years f2 x0_goods x0_works x0_change x0_coin x0_knownFree x0_isKnown]) hK dX1_addLine_38 rfl 0 1 rfl rfl ef2 rfl rfl ?_
    refine J_aload_n hK dX1_addLine_39 rfl 1 rfl rfl ?_
    refine J_get hK fo_RX1_9 dX1_addLine_40 rfl 0 0 rfl rfl rfl ?_
    refine J_iload hK dX1_addLine_43 rfl 0 rfl ?_
    refine J_iconst (v := 2) hK dX1_addLine_45 rfl (by decide) ?_
    refine J_iadd hK dX1_addLine_46 rfl ?_
    refine J_iload_n hK dX1_addLine_47 rfl 4 rfl rfl ?_
    obtain ⟨f3, ef3, hf⟩ := bs hf
    refine J_iast (g' := gLd d h0 x0_lineCount x0_goodsCount x0_workCount x0_years f3 x0_goods x0_works x0_change x0_coin x0_knownFree x0_isKnown) (gs' := [gLd d h0 x0_lineCount x0_goodsCount x0_workCount x0_years f3 x0_goods x0_works x0_change x0_coin x0_knownFree x0_isKnown]) hK dX1_addLine_48 rfl 0 1 rfl rfl ef3 rfl rfl ?_
    refine J_aload_n hK dX1_addLine_49 rfl 1 rfl rfl ?_
    refine J_get hK fo_RX1_9 dX1_addLine_50 rfl 0 0 rfl rfl rfl ?_
    refine J_iload hK dX1_addLine_53 rfl 0 rfl ?_
    refine J_iconst (v := 3) hK dX1_addLine_55 rfl (by decide) ?_
    refine J_iadd hK dX1_addLine_56 rfl ?_
    refine J_iload hK dX1_addLine_57 rfl 5 rfl ?_
    obtain ⟨f4, ef4, hf⟩ := bs hf
    refine J_iast (g' := gLd d h0 x0_lineCount x0_goodsCount x0_workCount x0_years f4 x0_goods x0_works x0_change x0_coin x0_knownFree x0_isKnown) (gs' := [gLd d h0 x0_lineCount x0_goodsCount x0_workCount x0_years f4 x0_goods x0_works x0_change x0_coin x0_knownFree x0_isKnown]) hK dX1_addLine_59 rfl 0 1 rfl rfl ef4 rfl rfl ?_
    refine J_aload_n hK dX1_addLine_60 rfl 1 rfl rfl ?_
    refine J_get hK fo_RX1_9 dX1_addLine_61 rfl 0 0 rfl rfl rfl ?_
    refine J_iload hK dX1_addLine_64 rfl 0 rfl ?_
    refine J_iconst (v := 4) hK dX1_addLine_66 rfl (by decide) ?_
    refine J_iadd hK dX1_addLine_67 rfl ?_
    refine J_iload hK dX1_addLine_68 rfl 6 rfl ?_
    obtain ⟨f5, ef5, hf⟩ := bs hf
    refine J_iast (g' := gLd d h0 x0_lineCount x0_goodsCount x0_workCount x0_years f5 x0_goods x0_works x0_change x0_coin x0_knownFree x0_isKnown) (gs' := [gLd d h0 x0_lineCount x0_goodsCount x0_workCount x0_years f5 x0_goods x0_works x0_change x0_coin x0_knownFree x0_isKnown]) hK dX1_addLine_70 rfl 0 1 rfl rfl ef5 rfl rfl ?_
    refine J_aload_n hK dX1_addLine_71 rfl 1 rfl rfl ?_
    refine J_get hK fo_RX1_9 dX1_addLine_72 rfl 0 0 rfl rfl rfl ?_
    refine J_iload hK dX1_addLine_75 rfl 0 rfl ?_
    refine J_iconst (v := 5) hK dX1_addLine_77 rfl (by decide) ?_
    refine J_iadd hK dX1_addLine_78 rfl ?_
    refine J_iload hK dX1_addLine_79 rfl 7 rfl ?_
    obtain ⟨f6, ef6, hf⟩ := bs hf
    refine J_iast (g' := gLd d h0 x0_lineCount x0_goodsCount x0_workCount x0_years f6 x0_goods x0_works x0_change x0_coin x0_knownFree x0_isKnown) (gs' := [gLd d h0 x0_lineCount x0_goodsCount x0_workCount x0_years f6 x0_goods x0_works x0_change x0_coin x0_knownFree x0_isKnown]) hK dX1_addLine_81 rfl 0 1 rfl rfl ef6 rfl rfl ?_
    refine J_aload_n hK dX1_addLine_82 rfl 1 rfl rfl ?_
    refine J_get hK fo_RX1_9 dX1_addLine_83 rfl 0 0 rfl rfl rfl ?_
    refine J_iload hK dX1_addLine_86 rfl 0 rfl ?_
    refine J_bipush (v := 6) hK dX1_addLine_88 rfl (by decide) ?_
    refine J_iadd hK dX1_addLine_90 rfl ?_
    refine J_iconst (v := 0) hK dX1_addLine_91 rfl (by decide) ?_
    obtain ⟨f7, ef7, hf⟩ := bs hf
    refine J_iast (g' := gLd d h0 x0_lineCount x0_goodsCount x0_workCount x0_years f7 x0_goods x0_works x0_change x0_coin x0_knownFree x0_isKnown) (gs' := [gLd d h0 x0_lineCount x0_goodsCount x0_workCount x0_years f7 x0_goods x0_works x0_change x0_coin x0_knownFree x0_isKnown]) hK dX1_addLine_92 rfl 0 1 rfl rfl ef7 rfl rfl ?_
    refine J_aload_n hK dX1_addLine_93 rfl 1 rfl rfl ?_
    refine J_dup hK dX1_addLine_94 rfl rfl ?_
    refine J_get hK fo_RX1_30 dX1_addLine_95 rfl 0 0 rfl rfl rfl ?_
    refine J_iconst (v := 1) hK dX1_addLine_98 rfl (by decide) ?_
    refine J_iadd hK dX1_addLine_99 rfl ?_
    refine J_put (g' := gLd d h0 (x0_lineCount + 1) x0_goodsCount x0_workCount x0_years f7 x0_goods x0_works x0_change x0_coin x0_knownFree x0_isKnown) (gs' := [gLd d h0 (x0_lineCount + 1) x0_goodsCount x0_workCount x0_years f7 x0_goods x0_works x0_change x0_coin x0_knownFree x0_isKnown]) hK fp_RX1_30 dX1_addLine_100 rfl 0 0 rfl rfl rfl rfl (Nat.le_of_ble_eq_true rfl) rfl rfl ?_
    refine J_aload_n hK dX1_addLine_103 rfl 1 rfl rfl ?_
    refine J_iconst (v := 0) hK dX1_addLine_104 rfl (by decide) ?_
    refine J_put (g' := gLd d h0 (x0_lineCount + 1) x0_goodsCount x0_workCount x0_years f7 x0_goods x0_works x0_change x0_coin x0_knownFree (0)) (gs' := [gLd d h0 (x0_lineCount + 1) x0_goodsCount x0_workCount x0_years f7 x0_goods x0_works x0_change x0_coin x0_knownFree (0)]) hK fp_RX1_43 dX1_addLine_105 rfl 0 0 rfl rfl rfl rfl (Nat.le_of_ble_eq_true rfl) rfl rfl ?_
    obtain rfl := Option.some.inj hf
    exact J_vret hK hR dX1_addLine_108 () rfl (by decide) (by decide)
  · have hf := iq hc6 hf
    obtain rfl := Option.some.inj hf
    exact J_vret hK hR dX1_addLine_9 () rfl (by decide) (by decide)

def fX1_putChange (X0 : LdT) (p1 : Int32) (p2 : Int32) : Option ((Nat → Int32) × Int32) :=
  u11 (fun (x0_lineCount : Int32) (x0_goodsCount : Int32) (x0_workCount : Int32) (x0_years : Int32) (x0_lines : (Nat → Int32)) (x0_goods : (Nat → Int32)) (x0_works : (Nat → Int32)) (x0_change : (Nat → Int32)) (x0_coin : (Nat → Int32)) (x0_knownFree : (Nat → Int32)) (x0_isKnown : Int32) => if p1 < 0 then (some (x0_change, x0_isKnown)) else (if 12 ≤ p1 then (some (x0_change, x0_isKnown)) else ((wr 12 x0_change p1 p2).bind fun f1 => some (f1, 0)))) X0
set_option maxHeartbeats 4000000 in
set_option maxRecDepth 100000 in
theorem kX1_putChange (l : Launch) (d : DT) (h0 : Nat → Nat) (x0_lineCount : Int32) (x0_goodsCount : Int32) (x0_workCount : Int32) (x0_years : Int32) (x0_lines : (Nat → Int32)) (x0_goods : (Nat → Int32)) (x0_works : (Nat → Int32)) (x0_change : (Nat → Int32)) (x0_coin : (Nat → Int32)) (x0_knownFree : (Nat → Int32)) (x0_isKnown : Int32) (p1 : Int32) (p2 : Int32)  {out : (Nat → Int32) × Int32} (hf : fX1_putChange (x0_lineCount, x0_goodsCount, x0_workCount, x0_years, x0_lines, x0_goods, x0_works, x0_change, x0_coin, x0_knownFree, x0_isKnown) p1 p2 = some out) : Ct l d yX1_putChange cX1_putChange 3 none { frames := 0, cells := 0, slots := 0, locals := 0 } [.ref (h0 0), .int p1, .int p2] [gLd d h0 x0_lineCount x0_goodsCount x0_workCount x0_years x0_lines x0_goods x0_works x0_change x0_coin x0_knownFree x0_isKnown] (fun _ : Unit => (none, [gLd d h0 x0_lineCount x0_goodsCount x0_workCount x0_years x0_lines x0_goods x0_works (out.1) x0_coin x0_knownFree (out.2)])) := by
  refine Ct.of (by decide) (Nat.le_of_ble_eq_true rfl) ?_
  intro Φ hl hK hR
  subst hl
  have hK : Ok d Φ RX1 "putChange" cX1_putChange 3 none { frames := 0, cells := 0, slots := 0, locals := 0 } := hK
  unfold fX1_putChange at hf
  have hf := un11 hf
  show J d Φ 3 [gLd d h0 x0_lineCount x0_goodsCount x0_workCount x0_years x0_lines x0_goods x0_works x0_change x0_coin x0_knownFree x0_isKnown] 0 0 0 [(0, .ref (h0 0)), (1, .int p1), (2, .int p2)] []
  refine J_iload_n hK dX1_putChange_0 rfl 1 rfl rfl ?_
  refine J_if_lt (tg := 22) hK dX1_putChange_1 rfl rfl (fun hc1 => ?_) (fun hc1 => ?_)
  · have hf := ip hc1 hf
    obtain rfl := Option.some.inj hf
    exact J_vret hK hR dX1_putChange_22 () rfl (by decide) (by decide)
  · have hf := iq hc1 hf
    refine J_iload_n hK dX1_putChange_4 rfl 1 rfl rfl ?_
    refine J_bipush (v := 12) hK dX1_putChange_5 rfl (by decide) ?_
    refine J_icmp_ge (tg := 22) hK dX1_putChange_7 rfl rfl (fun hc7 => ?_) (fun hc7 => ?_)
    · have hf := ip hc7 hf
      obtain rfl := Option.some.inj hf
      exact J_vret hK hR dX1_putChange_22 () rfl (by decide) (by decide)
    · have hf := iq hc7 hf
      refine J_aload_n hK dX1_putChange_10 rfl 0 rfl rfl ?_
      refine J_get hK fo_RX1_21 dX1_putChange_11 rfl 0 0 rfl rfl rfl ?_
      refine J_iload_n hK dX1_putChange_14 rfl 1 rfl rfl ?_
      refine J_iload_n hK dX1_putChange_15 rfl 2 rfl rfl ?_
      obtain ⟨f1, ef1, hf⟩ := bs hf
      refine J_iast (g' := gLd d h0 x0_lineCount x0_goodsCount x0_workCount x0_years x0_lines x0_goods x0_works f1 x0_coin x0_knownFree x0_isKnown) (gs' := [gLd d h0 x0_lineCount x0_goodsCount x0_workCount x0_years x0_lines x0_goods x0_works f1 x0_coin x0_knownFree x0_isKnown]) hK dX1_putChange_16 rfl 0 4 rfl rfl ef1 rfl rfl ?_
      refine J_aload_n hK dX1_putChange_17 rfl 0 rfl rfl ?_
      refine J_iconst (v := 0) hK dX1_putChange_18 rfl (by decide) ?_
      refine J_put (g' := gLd d h0 x0_lineCount x0_goodsCount x0_workCount x0_years x0_lines x0_goods x0_works f1 x0_coin x0_knownFree (0)) (gs' := [gLd d h0 x0_lineCount x0_goodsCount x0_workCount x0_years x0_lines x0_goods x0_works f1 x0_coin x0_knownFree (0)]) hK fp_RX1_43 dX1_putChange_19 rfl 0 0 rfl rfl rfl rfl (Nat.le_of_ble_eq_true rfl) rfl rfl ?_
      obtain rfl := Option.some.inj hf
      exact J_vret hK hR dX1_putChange_22 () rfl (by decide) (by decide)

def fX1_hasLine (X0 : LdT) (p1 : Int32) : Option (Int32) :=
  u11 (fun (x0_lineCount : Int32) (x0_goodsCount : Int32) (x0_workCount : Int32) (x0_years : Int32) (x0_lines : (Nat → Int32)) (x0_goods : (Nat → Int32)) (x0_works : (Nat → Int32)) (x0_change : (Nat → Int32)) (x0_coin : (Nat → Int32)) (x0_knownFree : (Nat → Int32)) (x0_isKnown : Int32) => (fX6_within p1 (0) (x0_lineCount - 1)).bind (fun v1 => (zb v1).bind fun v3 => some v3)) X0
set_option maxHeartbeats 4000000 in
set_option maxRecDepth 100000 in
theorem kX1_hasLine (l : Launch) (d : DT) (h0 : Nat → Nat) (x0_lineCount : Int32) (x0_goodsCount : Int32) (x0_workCount : Int32) (x0_years : Int32) (x0_lines : (Nat → Int32)) (x0_goods : (Nat → Int32)) (x0_works : (Nat → Int32)) (x0_change : (Nat → Int32)) (x0_coin : (Nat → Int32)) (x0_knownFree : (Nat → Int32)) (x0_isKnown : Int32) (p1 : Int32)  {out : Int32} (hf : fX1_hasLine (x0_lineCount, x0_goodsCount, x0_workCount, x0_years, x0_lines, x0_goods, x0_works, x0_change, x0_coin, x0_knownFree, x0_isKnown) p1 = some out) : Ct l d yX1_hasLine cX1_hasLine 2 (some .boolean) { frames := 1, cells := 0, slots := 0, locals := 22 } [.ref (h0 0), .int p1] [gLd d h0 x0_lineCount x0_goodsCount x0_workCount x0_years x0_lines x0_goods x0_works x0_change x0_coin x0_knownFree x0_isKnown] (fun _ : Unit => (some (.int out), [gLd d h0 x0_lineCount x0_goodsCount x0_workCount x0_years x0_lines x0_goods x0_works x0_change x0_coin x0_knownFree x0_isKnown])) := by
  refine Ct.of (by decide) (Nat.le_of_ble_eq_true rfl) ?_
  intro Φ hl hK hR
  subst hl
  have hK : Ok d Φ RX1 "hasLine" cX1_hasLine 2 (some .boolean) { frames := 1, cells := 0, slots := 0, locals := 22 } := hK
  unfold fX1_hasLine at hf
  have hf := un11 hf
  show J d Φ 2 [gLd d h0 x0_lineCount x0_goodsCount x0_workCount x0_years x0_lines x0_goods x0_works x0_change x0_coin x0_knownFree x0_isKnown] 0 0 0 [(0, .ref (h0 0)), (1, .int p1)] []
  refine J_iload_n hK dX1_hasLine_0 rfl 1 rfl rfl ?_
  refine J_iconst (v := 0) hK dX1_hasLine_1 rfl (by decide) ?_
  refine J_aload_n hK dX1_hasLine_2 rfl 0 rfl rfl ?_
  refine J_get hK fo_RX1_30 dX1_hasLine_3 rfl 0 0 rfl rfl rfl ?_
  refine J_iconst (v := 1) hK dX1_hasLine_6 rfl (by decide) ?_
  refine J_isub hK dX1_hasLine_7 rfl ?_
  obtain ⟨v1, e2, hf⟩ := bs hf
  refine J_callN (m' := 1) (ce' := 0) (sl' := 0) (gr := [gLd d h0 x0_lineCount x0_goodsCount x0_workCount x0_years x0_lines x0_goods x0_works x0_change x0_coin x0_knownFree x0_isKnown]) (gs' := fun _ => [gLd d h0 x0_lineCount x0_goodsCount x0_workCount x0_years x0_lines x0_goods x0_works x0_change x0_coin x0_knownFree x0_isKnown]) (st' := fun _ => [.int v1]) (st := []) hK dX1_hasLine_8 cn_RX1_59 (As := [.int p1, .int (0), .int (x0_lineCount - 1)]) (kX6_within _ d p1 (0) (x0_lineCount - 1) e2) rfl rfl (Nat.le_of_ble_eq_true rfl) (by decide) [] [0] rfl rfl rfl rfl [0] rfl (fun _ => rfl) (fun _ => rfl) rfl rfl rfl (fun _ => rfl) (fun _ => ?_)
  obtain ⟨v3, ev3, hf⟩ := bs hf
  obtain rfl := Option.some.inj hf
  exact J_zret hK hR dX1_hasLine_11 () (zb_ok ev3).2 (by rw [(zb_ok ev3).1]) (by decide) (by decide)

def fX1_ofLine (X0 : LdT) (p1 : Int32) (p2 : Int32) : Option (Int32) :=
  u11 (fun (x0_lineCount : Int32) (x0_goodsCount : Int32) (x0_workCount : Int32) (x0_years : Int32) (x0_lines : (Nat → Int32)) (x0_goods : (Nat → Int32)) (x0_works : (Nat → Int32)) (x0_change : (Nat → Int32)) (x0_coin : (Nat → Int32)) (x0_knownFree : (Nat → Int32)) (x0_isKnown : Int32) => (rd 140 x0_lines ((p1 * 7) + p2)).bind fun v1 => some v1) X0
set_option maxHeartbeats 4000000 in
set_option maxRecDepth 100000 in
theorem kX1_ofLine (l : Launch) (d : DT) (h0 : Nat → Nat) (x0_lineCount : Int32) (x0_goodsCount : Int32) (x0_workCount : Int32) (x0_years : Int32) (x0_lines : (Nat → Int32)) (x0_goods : (Nat → Int32)) (x0_works : (Nat → Int32)) (x0_change : (Nat → Int32)) (x0_coin : (Nat → Int32)) (x0_knownFree : (Nat → Int32)) (x0_isKnown : Int32) (p1 : Int32) (p2 : Int32)  {out : Int32} (hf : fX1_ofLine (x0_lineCount, x0_goodsCount, x0_workCount, x0_years, x0_lines, x0_goods, x0_works, x0_change, x0_coin, x0_knownFree, x0_isKnown) p1 p2 = some out) : Ct l d yX1_ofLine cX1_ofLine 3 (some .int) { frames := 0, cells := 0, slots := 0, locals := 0 } [.ref (h0 0), .int p1, .int p2] [gLd d h0 x0_lineCount x0_goodsCount x0_workCount x0_years x0_lines x0_goods x0_works x0_change x0_coin x0_knownFree x0_isKnown] (fun _ : Unit => (some (.int out), [gLd d h0 x0_lineCount x0_goodsCount x0_workCount x0_years x0_lines x0_goods x0_works x0_change x0_coin x0_knownFree x0_isKnown])) := by
  refine Ct.of (by decide) (Nat.le_of_ble_eq_true rfl) ?_
  intro Φ hl hK hR
  subst hl
  have hK : Ok d Φ RX1 "ofLine" cX1_ofLine 3 (some .int) { frames := 0, cells := 0, slots := 0, locals := 0 } := hK
  unfold fX1_ofLine at hf
  have hf := un11 hf
  show J d Φ 3 [gLd d h0 x0_lineCount x0_goodsCount x0_workCount x0_years x0_lines x0_goods x0_works x0_change x0_coin x0_knownFree x0_isKnown] 0 0 0 [(0, .ref (h0 0)), (1, .int p1), (2, .int p2)] []
  refine J_aload_n hK dX1_ofLine_0 rfl 0 rfl rfl ?_
  refine J_get hK fo_RX1_9 dX1_ofLine_1 rfl 0 0 rfl rfl rfl ?_
  refine J_iload_n hK dX1_ofLine_4 rfl 1 rfl rfl ?_
  refine J_bipush (v := 7) hK dX1_ofLine_5 rfl (by decide) ?_
  refine J_imul hK dX1_ofLine_7 rfl ?_
  refine J_iload_n hK dX1_ofLine_8 rfl 2 rfl rfl ?_
  refine J_iadd hK dX1_ofLine_9 rfl ?_
  obtain ⟨v1, ev1, hf⟩ := bs hf
  refine J_iald hK dX1_ofLine_10 rfl 0 1 rfl rfl ev1 ?_
  obtain rfl := Option.some.inj hf
  exact J_iret hK hR dX1_ofLine_11 () rfl (by decide) (by decide)

def fX1_putWidths (X0 : LdT) (p1 : Int32) (p2 : Int32) : Option ((Nat → Int32) × Int32) :=
  u11 (fun (x0_lineCount : Int32) (x0_goodsCount : Int32) (x0_workCount : Int32) (x0_years : Int32) (x0_lines : (Nat → Int32)) (x0_goods : (Nat → Int32)) (x0_works : (Nat → Int32)) (x0_change : (Nat → Int32)) (x0_coin : (Nat → Int32)) (x0_knownFree : (Nat → Int32)) (x0_isKnown : Int32) => if p1 < 0 then (some (x0_lines, x0_isKnown)) else (if x0_lineCount ≤ p1 then (some (x0_lines, x0_isKnown)) else ((wr 140 x0_lines ((p1 * 7) + 2) p2).bind fun f1 => some (f1, 0)))) X0
set_option maxHeartbeats 4000000 in
set_option maxRecDepth 100000 in
theorem kX1_putWidths (l : Launch) (d : DT) (h0 : Nat → Nat) (x0_lineCount : Int32) (x0_goodsCount : Int32) (x0_workCount : Int32) (x0_years : Int32) (x0_lines : (Nat → Int32)) (x0_goods : (Nat → Int32)) (x0_works : (Nat → Int32)) (x0_change : (Nat → Int32)) (x0_coin : (Nat → Int32)) (x0_knownFree : (Nat → Int32)) (x0_isKnown : Int32) (p1 : Int32) (p2 : Int32)  {out : (Nat → Int32) × Int32} (hf : fX1_putWidths (x0_lineCount, x0_goodsCount, x0_workCount, x0_years, x0_lines, x0_goods, x0_works, x0_change, x0_coin, x0_knownFree, x0_isKnown) p1 p2 = some out) : Ct l d yX1_putWidths cX1_putWidths 3 none { frames := 0, cells := 0, slots := 0, locals := 0 } [.ref (h0 0), .int p1, .int p2] [gLd d h0 x0_lineCount x0_goodsCount x0_workCount x0_years x0_lines x0_goods x0_works x0_change x0_coin x0_knownFree x0_isKnown] (fun _ : Unit => (none, [gLd d h0 x0_lineCount x0_goodsCount x0_workCount x0_years (out.1) x0_goods x0_works x0_change x0_coin x0_knownFree (out.2)])) := by
  refine Ct.of (by decide) (Nat.le_of_ble_eq_true rfl) ?_
  intro Φ hl hK hR
  subst hl
  have hK : Ok d Φ RX1 "putWidths" cX1_putWidths 3 none { frames := 0, cells := 0, slots := 0, locals := 0 } := hK
  unfold fX1_putWidths at hf
  have hf := un11 hf
  show J d Φ 3 [gLd d h0 x0_lineCount x0_goodsCount x0_workCount x0_years x0_lines x0_goods x0_works x0_change x0_coin x0_knownFree x0_isKnown] 0 0 0 [(0, .ref (h0 0)), (1, .int p1), (2, .int p2)] []
  refine J_iload_n hK dX1_putWidths_0 rfl 1 rfl rfl ?_
  refine J_if_lt (tg := 29) hK dX1_putWidths_1 rfl rfl (fun hc1 => ?_) (fun hc1 => ?_)
  · have hf := ip hc1 hf
    obtain rfl := Option.some.inj hf
    exact J_vret hK hR dX1_putWidths_29 () rfl (by decide) (by decide)
  · have hf := iq hc1 hf
    refine J_iload_n hK dX1_putWidths_4 rfl 1 rfl rfl ?_
    refine J_aload_n hK dX1_putWidths_5 rfl 0 rfl rfl ?_
    refine J_get hK fo_RX1_30 dX1_putWidths_6 rfl 0 0 rfl rfl rfl ?_
    refine J_icmp_ge (tg := 29) hK dX1_putWidths_9 rfl rfl (fun hc9 => ?_) (fun hc9 => ?_)
    · have hf := ip hc9 hf
      obtain rfl := Option.some.inj hf
      exact J_vret hK hR dX1_putWidths_29 () rfl (by decide) (by decide)
    · have hf := iq hc9 hf
      refine J_aload_n hK dX1_putWidths_12 rfl 0 rfl rfl ?_
      refine J_get hK fo_RX1_9 dX1_putWidths_13 rfl 0 0 rfl rfl rfl ?_
      refine J_iload_n hK dX1_putWidths_16 rfl 1 rfl rfl ?_
      refine J_bipush (v := 7) hK dX1_putWidths_17 rfl (by decide) ?_
      refine J_imul hK dX1_putWidths_19 rfl ?_
      refine J_iconst (v := 2) hK dX1_putWidths_20 rfl (by decide) ?_
      refine J_iadd hK dX1_putWidths_21 rfl ?_
      refine J_iload_n hK dX1_putWidths_22 rfl 2 rfl rfl ?_
      obtain ⟨f1, ef1, hf⟩ := bs hf
      refine J_iast (g' := gLd d h0 x0_lineCount x0_goodsCount x0_workCount x0_years f1 x0_goods x0_works x0_change x0_coin x0_knownFree x0_isKnown) (gs' := [gLd d h0 x0_lineCount x0_goodsCount x0_workCount x0_years f1 x0_goods x0_works x0_change x0_coin x0_knownFree x0_isKnown]) hK dX1_putWidths_23 rfl 0 1 rfl rfl ef1 rfl rfl ?_
      refine J_aload_n hK dX1_putWidths_24 rfl 0 rfl rfl ?_
      refine J_iconst (v := 0) hK dX1_putWidths_25 rfl (by decide) ?_
      refine J_put (g' := gLd d h0 x0_lineCount x0_goodsCount x0_workCount x0_years f1 x0_goods x0_works x0_change x0_coin x0_knownFree (0)) (gs' := [gLd d h0 x0_lineCount x0_goodsCount x0_workCount x0_years f1 x0_goods x0_works x0_change x0_coin x0_knownFree (0)]) hK fp_RX1_43 dX1_putWidths_26 rfl 0 0 rfl rfl rfl rfl (Nat.le_of_ble_eq_true rfl) rfl rfl ?_
      obtain rfl := Option.some.inj hf
      exact J_vret hK hR dX1_putWidths_29 () rfl (by decide) (by decide)

def fX1_perform (X0 : LdT) (p1 : Int32) : Option (Int32 × (Nat → Int32) × (Nat → Int32) × Int32) :=
  u11 (fun (x0_lineCount : Int32) (x0_goodsCount : Int32) (x0_workCount : Int32) (x0_years : Int32) (x0_lines : (Nat → Int32)) (x0_goods : (Nat → Int32)) (x0_works : (Nat → Int32)) (x0_change : (Nat → Int32)) (x0_coin : (Nat → Int32)) (x0_knownFree : (Nat → Int32)) (x0_isKnown : Int32) => (fX1_hasWork (x0_lineCount, x0_goodsCount, x0_workCount, x0_years, x0_lines, x0_goods, x0_works, x0_change, x0_coin, x0_knownFree, x0_isKnown) p1).bind (fun v1 => if v1 = 0 then (some (x0_lineCount, x0_lines, x0_change, x0_isKnown)) else ((fX1_ofWork (x0_lineCount, x0_goodsCount, x0_workCount, x0_years, x0_lines, x0_goods, x0_works, x0_change, x0_coin, x0_knownFree, x0_isKnown) p1 (1)).bind (fun v3 => (fX1_ofWork (x0_lineCount, x0_goodsCount, x0_workCount, x0_years, x0_lines, x0_goods, x0_works, x0_change, x0_coin, x0_knownFree, x0_isKnown) p1 (2)).bind (fun v5 => (fX1_ofWork (x0_lineCount, x0_goodsCount, x0_workCount, x0_years, x0_lines, x0_goods, x0_works, x0_change, x0_coin, x0_knownFree, x0_isKnown) p1 (0)).bind (fun v7 => if v7 = 1 then ((fX1_putWidths (x0_lineCount, x0_goodsCount, x0_workCount, x0_years, x0_lines, x0_goods, x0_works, x0_change, x0_coin, x0_knownFree, x0_isKnown) v3 ((1 : Int32) <<< (v5 &&& 31))).bind (u2 fun g9 g10 => some (x0_lineCount, g9, x0_change, g10))) else (if v7 = 2 then ((fX1_hasLine (x0_lineCount, x0_goodsCount, x0_workCount, x0_years, x0_lines, x0_goods, x0_works, x0_change, x0_coin, x0_knownFree, x0_isKnown) v3).bind (fun v12 => if v12 = 0 then (some (x0_lineCount, x0_lines, x0_change, x0_isKnown)) else ((fX1_ofLine (x0_lineCount, x0_goodsCount, x0_workCount, x0_years, x0_lines, x0_goods, x0_works, x0_change, x0_coin, x0_knownFree, x0_isKnown) v3 (2)).bind (fun v14 => (fX1_putWidths (x0_lineCount, x0_goodsCount, x0_workCount, x0_years, x0_lines, x0_goods, x0_works, x0_change, x0_coin, x0_knownFree, x0_isKnown) v3 (v14 ||| ((1 : Int32) <<< (v5 &&& 31)))).bind (u2 fun g16 g17 => some (x0_lineCount, g16, x0_change, g17)))))) else (if v7 = 3 then ((fX1_putChange (x0_lineCount, x0_goodsCount, x0_workCount, x0_years, x0_lines, x0_goods, x0_works, x0_change, x0_coin, x0_knownFree, x0_isKnown) v3 v5).bind (u2 fun g19 g20 => some (x0_lineCount, x0_lines, g19, g20))) else (if v7 = 4 then ((fX1_addLine (x0_lineCount, x0_goodsCount, x0_workCount, x0_years, x0_lines, x0_goods, x0_works, x0_change, x0_coin, x0_knownFree, x0_isKnown) v3 v5 (7) (10) (99) (0)).bind (u3 fun g22 g23 g24 => some (g22, g23, x0_change, g24))) else (if v7 = 5 then ((fX1_addLine (x0_lineCount, x0_goodsCount, x0_workCount, x0_years, x0_lines, x0_goods, x0_works, x0_change, x0_coin, x0_knownFree, x0_isKnown) v3 v5 (7) (10) (198) (0)).bind (u3 fun g26 g27 g28 => some (g26, g27, x0_change, g28))) else (some (x0_lineCount, x0_lines, x0_change, x0_isKnown)))))))))))) X0
set_option maxHeartbeats 4000000 in
set_option maxRecDepth 100000 in
theorem kX1_perform (l : Launch) (d : DT) (h0 : Nat → Nat) (x0_lineCount : Int32) (x0_goodsCount : Int32) (x0_workCount : Int32) (x0_years : Int32) (x0_lines : (Nat → Int32)) (x0_goods : (Nat → Int32)) (x0_works : (Nat → Int32)) (x0_change : (Nat → Int32)) (x0_coin : (Nat → Int32)) (x0_knownFree : (Nat → Int32)) (x0_isKnown : Int32) (p1 : Int32)  {out : Int32 × (Nat → Int32) × (Nat → Int32) × Int32} (hf : fX1_perform (x0_lineCount, x0_goodsCount, x0_workCount, x0_years, x0_lines, x0_goods, x0_works, x0_change, x0_coin, x0_knownFree, x0_isKnown) p1 = some out) : Ct l d yX1_perform cX1_perform 4 none { frames := 2, cells := 0, slots := 0, locals := 43 } [.ref (h0 0), .int p1] [gLd d h0 x0_lineCount x0_goodsCount x0_workCount x0_years x0_lines x0_goods x0_works x0_change x0_coin x0_knownFree x0_isKnown] (fun _ : Unit => (none, [gLd d h0 (out.1) x0_goodsCount x0_workCount x0_years (out.2.1) x0_goods x0_works (out.2.2.1) x0_coin x0_knownFree (out.2.2.2)])) := by
  refine Ct.of (by decide) (Nat.le_of_ble_eq_true rfl) ?_
  intro Φ hl hK hR
  subst hl
  have hK : Ok d Φ RX1 "perform" cX1_perform 4 none { frames := 2, cells := 0, slots := 0, locals := 43 } := hK
  unfold fX1_perform at hf
  have hf := un11 hf
  show J d Φ 4 [gLd d h0 x0_lineCount x0_goodsCount x0_workCount x0_years x0_lines x0_goods x0_works x0_change x0_coin x0_knownFree x0_isKnown] 0 0 0 [(0, .ref (h0 0)), (1, .int p1)] []
  refine J_aload_n hK dX1_perform_0 rfl 0 rfl rfl ?_
  refine J_iload_n hK dX1_perform_1 rfl 1 rfl rfl ?_
  obtain ⟨v1, e2, hf⟩ := bs hf
  refine J_callV (m' := 1) (ce' := 0) (sl' := 0) (gr := []) (gs' := fun _ => [gLd d h0 x0_lineCount x0_goodsCount x0_workCount x0_years x0_lines x0_goods x0_works x0_change x0_coin x0_knownFree x0_isKnown]) (st' := fun _ => [.int v1]) (st := []) hK dX1_perform_2 cv_RX1_85 iv_yX1_hasWork (As := [.int p1]) (kX1_hasWork _ d h0 x0_lineCount x0_goodsCount x0_workCount x0_years x0_lines x0_goods x0_works x0_change x0_coin x0_knownFree x0_isKnown p1 e2) rfl rfl (Nat.le_of_ble_eq_true rfl) (by decide) 0 0 rfl rfl rfl [0] [] rfl rfl rfl rfl [0] rfl (fun _ => rfl) (fun _ => rfl) rfl rfl rfl (fun _ => rfl) (fun _ => ?_)
  refine J_if_ne (tg := 9) hK dX1_perform_5 rfl rfl (fun hc5 => ?_) (fun hc5 => ?_)
  · have hf := iq hc5 hf
    refine J_aload_n hK dX1_perform_9 rfl 0 rfl rfl ?_
    refine J_iload_n hK dX1_perform_10 rfl 1 rfl rfl ?_
    refine J_iconst (v := 1) hK dX1_perform_11 rfl (by decide) ?_
    obtain ⟨v3, e4, hf⟩ := bs hf
    refine J_callV (m' := 1) (ce' := 0) (sl' := 0) (gr := []) (gs' := fun _ => [gLd d h0 x0_lineCount x0_goodsCount x0_workCount x0_years x0_lines x0_goods x0_works x0_change x0_coin x0_knownFree x0_isKnown]) (st' := fun _ => [.int v3]) (st := []) hK dX1_perform_12 cv_RX1_63 iv_yX1_ofWork (As := [.int p1, .int (1)]) (kX1_ofWork _ d h0 x0_lineCount x0_goodsCount x0_workCount x0_years x0_lines x0_goods x0_works x0_change x0_coin x0_knownFree x0_isKnown p1 (1) e4) rfl rfl (Nat.le_of_ble_eq_true rfl) (by decide) 0 0 rfl rfl rfl [0] [] rfl rfl rfl rfl [0] rfl (fun _ => rfl) (fun _ => rfl) rfl rfl rfl (fun _ => rfl) (fun _ => ?_)
    refine J_istore_n (L' := [(2, .int v3), (0, .ref (h0 0)), (1, .int p1)]) hK dX1_perform_15 rfl rfl (by decide) rfl ?_
    refine J_aload_n hK dX1_perform_16 rfl 1 rfl rfl ?_
    refine J_iload_n hK dX1_perform_17 rfl 2 rfl rfl ?_
    refine J_iconst (v := 2) hK dX1_perform_18 rfl (by decide) ?_
    obtain ⟨v5, e6, hf⟩ := bs hf
    refine J_callV (m' := 1) (ce' := 0) (sl' := 0) (gr := []) (gs' := fun _ => [gLd d h0 x0_lineCount x0_goodsCount x0_workCount x0_years x0_lines x0_goods x0_works x0_change x0_coin x0_knownFree x0_isKnown]) (st' := fun _ => [.int v5]) (st := []) hK dX1_perform_19 cv_RX1_63 iv_yX1_ofWork (As := [.int p1, .int (2)]) (kX1_ofWork _ d h0 x0_lineCount x0_goodsCount x0_workCount x0_years x0_lines x0_goods x0_works x0_change x0_coin x0_knownFree x0_isKnown p1 (2) e6) rfl rfl (Nat.le_of_ble_eq_true rfl) (by decide) 0 0 rfl rfl rfl [0] [] rfl rfl rfl rfl [0] rfl (fun _ => rfl) (fun _ => rfl) rfl rfl rfl (fun _ => rfl) (fun _ => ?_)
    refine J_istore_n (L' := [(3, .int v5), (2, .int v3), (0, .ref (h0 0)), (1, .int p1)]) hK dX1_perform_22 rfl rfl (by decide) rfl ?_
    refine J_aload_n hK dX1_perform_23 rfl 2 rfl rfl ?_
    refine J_iload_n hK dX1_perform_24 rfl 3 rfl rfl ?_
    refine J_iconst (v := 0) hK dX1_perform_25 rfl (by decide) ?_
    obtain ⟨v7, e8, hf⟩ := bs hf
    refine J_callV (m' := 1) (ce' := 0) (sl' := 0) (gr := []) (gs' := fun _ => [gLd d h0 x0_lineCount x0_goodsCount x0_workCount x0_years x0_lines x0_goods x0_works x0_change x0_coin x0_knownFree x0_isKnown]) (st' := fun _ => [.int v7]) (st := []) hK dX1_perform_26 cv_RX1_63 iv_yX1_ofWork (As := [.int p1, .int (0)]) (kX1_ofWork _ d h0 x0_lineCount x0_goodsCount x0_workCount x0_years x0_lines x0_goods x0_works x0_change x0_coin x0_knownFree x0_isKnown p1 (0) e8) rfl rfl (Nat.le_of_ble_eq_true rfl) (by decide) 0 0 rfl rfl rfl [0] [] rfl rfl rfl rfl [0] rfl (fun _ => rfl) (fun _ => rfl) rfl rfl rfl (fun _ => rfl) (fun _ => ?_)
    by_cases hc29_1 : v7 = 1
    · have hf := ip hc29_1 hf
      refine J_swI (tg := 64) hK dX1_perform_29 (by rw [hc29_1]; decide) (by rw [hc29_1]; decide) (by rw [hc29_1]; rfl) rfl ?_
      refine J_aload_n hK dX1_perform_64 rfl 2 rfl rfl ?_
      refine J_iload_n hK dX1_perform_65 rfl 1 rfl rfl ?_
      refine J_iconst (v := 1) hK dX1_perform_66 rfl (by decide) ?_
      refine J_iload_n hK dX1_perform_67 rfl 0 rfl rfl ?_
      refine J_ishl hK dX1_perform_68 rfl ?_
      obtain ⟨⟨g9, g10⟩, e11, hf⟩ := bs hf
      have hf := un2 hf
      refine J_callV (m' := 1) (ce' := 0) (sl' := 0) (gr := []) (gs' := fun _ => [gLd d h0 x0_lineCount x0_goodsCount x0_workCount x0_years g9 x0_goods x0_works x0_change x0_coin x0_knownFree g10]) (st' := fun _ => []) (st := []) hK dX1_perform_69 cv_RX1_88 iv_yX1_putWidths (As := [.int v3, .int ((1 : Int32) <<< (v5 &&& 31))]) (kX1_putWidths _ d h0 x0_lineCount x0_goodsCount x0_workCount x0_years x0_lines x0_goods x0_works x0_change x0_coin x0_knownFree x0_isKnown v3 ((1 : Int32) <<< (v5 &&& 31)) e11) rfl rfl (Nat.le_of_ble_eq_true rfl) (by decide) 0 0 rfl rfl rfl [0] [] rfl rfl rfl rfl [0] rfl (fun _ => rfl) (fun _ => rfl) rfl rfl rfl (fun _ => rfl) (fun _ => ?_)
      refine J_goto hK dX1_perform_72 (n := 143) rfl ?_
      obtain rfl := Option.some.inj hf
      exact J_vret hK hR dX1_perform_143 () rfl (by decide) (by decide)
    have hf := iq hc29_1 hf
    by_cases hc29_2 : v7 = 2
    · have hf := ip hc29_2 hf
      refine J_swI (tg := 75) hK dX1_perform_29 (by rw [hc29_2]; decide) (by rw [hc29_2]; decide) (by rw [hc29_2]; rfl) rfl ?_
      refine J_aload_n hK dX1_perform_75 rfl 2 rfl rfl ?_
      refine J_iload_n hK dX1_perform_76 rfl 1 rfl rfl ?_
      obtain ⟨v12, e13, hf⟩ := bs hf
      refine J_callV (m' := 1) (ce' := 0) (sl' := 0) (gr := []) (gs' := fun _ => [gLd d h0 x0_lineCount x0_goodsCount x0_workCount x0_years x0_lines x0_goods x0_works x0_change x0_coin x0_knownFree x0_isKnown]) (st' := fun _ => [.int v12]) (st := []) hK dX1_perform_77 cv_RX1_92 iv_yX1_hasLine (As := [.int v3]) (kX1_hasLine _ d h0 x0_lineCount x0_goodsCount x0_workCount x0_years x0_lines x0_goods x0_works x0_change x0_coin x0_knownFree x0_isKnown v3 e13) rfl rfl (Nat.le_of_ble_eq_true rfl) (by decide) 0 0 rfl rfl rfl [0] [] rfl rfl rfl rfl [0] rfl (fun _ => rfl) (fun _ => rfl) rfl rfl rfl (fun _ => rfl) (fun _ => ?_)
      refine J_if_eq (tg := 143) hK dX1_perform_80 rfl rfl (fun hc80 => ?_) (fun hc80 => ?_)
      · have hf := ip hc80 hf
        obtain rfl := Option.some.inj hf
        exact J_vret hK hR dX1_perform_143 () rfl (by decide) (by decide)
      · have hf := iq hc80 hf
        refine J_aload_n hK dX1_perform_83 rfl 2 rfl rfl ?_
        refine J_iload_n hK dX1_perform_84 rfl 1 rfl rfl ?_
        refine J_aload_n hK dX1_perform_85 rfl 2 rfl rfl ?_
        refine J_iload_n hK dX1_perform_86 rfl 1 rfl rfl ?_
        refine J_iconst (v := 2) hK dX1_perform_87 rfl (by decide) ?_
        obtain ⟨v14, e15, hf⟩ := bs hf
        refine J_callV (m' := 1) (ce' := 0) (sl' := 0) (gr := []) (gs' := fun _ => [gLd d h0 x0_lineCount x0_goodsCount x0_workCount x0_years x0_lines x0_goods x0_works x0_change x0_coin x0_knownFree x0_isKnown]) (st' := fun _ => [.int v14, .int v3, .ref (h0 0)]) (st := [.int v3, .ref (h0 0)]) hK dX1_perform_88 cv_RX1_71 iv_yX1_ofLine (As := [.int v3, .int (2)]) (kX1_ofLine _ d h0 x0_lineCount x0_goodsCount x0_workCount x0_years x0_lines x0_goods x0_works x0_change x0_coin x0_knownFree x0_isKnown v3 (2) e15) rfl rfl (Nat.le_of_ble_eq_true rfl) (by decide) 0 0 rfl rfl rfl [0] [] rfl rfl rfl rfl [0] rfl (fun _ => rfl) (fun _ => rfl) rfl rfl rfl (fun _ => rfl) (fun _ => ?_)
        refine J_iconst (v := 1) hK dX1_perform_91 rfl (by decide) ?_
        refine J_iload_n hK dX1_perform_92 rfl 0 rfl rfl ?_
        refine J_ishl hK dX1_perform_93 rfl ?_
        refine J_ior hK dX1_perform_94 rfl ?_
        obtain ⟨⟨g16, g17⟩, e18, hf⟩ := bs hf
        have hf := un2 hf
        refine J_callV (m' := 1) (ce' := 0) (sl' := 0) (gr := []) (gs' := fun _ => [gLd d h0 x0_lineCount x0_goodsCount x0_workCount x0_years g16 x0_goods x0_works x0_change x0_coin x0_knownFree g17]) (st' := fun _ => []) (st := []) hK dX1_perform_95 cv_RX1_88 iv_yX1_putWidths (As := [.int v3, .int (v14 ||| ((1 : Int32) <<< (v5 &&& 31)))]) (kX1_putWidths _ d h0 x0_lineCount x0_goodsCount x0_workCount x0_years x0_lines x0_goods x0_works x0_change x0_coin x0_knownFree x0_isKnown v3 (v14 ||| ((1 : Int32) <<< (v5 &&& 31))) e18) rfl rfl (Nat.le_of_ble_eq_true rfl) (by decide) 0 0 rfl rfl rfl [0] [] rfl rfl rfl rfl [0] rfl (fun _ => rfl) (fun _ => rfl) rfl rfl rfl (fun _ => rfl) (fun _ => ?_)
        refine J_goto hK dX1_perform_98 (n := 143) rfl ?_
        obtain rfl := Option.some.inj hf
        exact J_vret hK hR dX1_perform_143 () rfl (by decide) (by decide)
    have hf := iq hc29_2 hf
    by_cases hc29_3 : v7 = 3
    · have hf := ip hc29_3 hf
      refine J_swI (tg := 101) hK dX1_perform_29 (by rw [hc29_3]; decide) (by rw [hc29_3]; decide) (by rw [hc29_3]; rfl) rfl ?_
      refine J_aload_n hK dX1_perform_101 rfl 2 rfl rfl ?_
      refine J_iload_n hK dX1_perform_102 rfl 1 rfl rfl ?_
      refine J_iload_n hK dX1_perform_103 rfl 0 rfl rfl ?_
      obtain ⟨⟨g19, g20⟩, e21, hf⟩ := bs hf
      have hf := un2 hf
      refine J_callV (m' := 1) (ce' := 0) (sl' := 0) (gr := []) (gs' := fun _ => [gLd d h0 x0_lineCount x0_goodsCount x0_workCount x0_years x0_lines x0_goods x0_works g19 x0_coin x0_knownFree g20]) (st' := fun _ => []) (st := []) hK dX1_perform_104 cv_RX1_95 iv_yX1_putChange (As := [.int v3, .int v5]) (kX1_putChange _ d h0 x0_lineCount x0_goodsCount x0_workCount x0_years x0_lines x0_goods x0_works x0_change x0_coin x0_knownFree x0_isKnown v3 v5 e21) rfl rfl (Nat.le_of_ble_eq_true rfl) (by decide) 0 0 rfl rfl rfl [0] [] rfl rfl rfl rfl [0] rfl (fun _ => rfl) (fun _ => rfl) rfl rfl rfl (fun _ => rfl) (fun _ => ?_)
      refine J_goto hK dX1_perform_107 (n := 143) rfl ?_
      obtain rfl := Option.some.inj hf
      exact J_vret hK hR dX1_perform_143 () rfl (by decide) (by decide)
    have hf := iq hc29_3 hf
    by_cases hc29_4 : v7 = 4
    · have hf := ip hc29_4 hf
      refine J_swI (tg := 110) hK dX1_perform_29 (by rw [hc29_4]; decide) (by rw [hc29_4]; decide) (by rw [hc29_4]; rfl) rfl ?_
      refine J_aload_n hK dX1_perform_110 rfl 2 rfl rfl ?_
      refine J_iload_n hK dX1_perform_111 rfl 1 rfl rfl ?_
      refine J_iload_n hK dX1_perform_112 rfl 0 rfl rfl ?_
      refine J_bipush (v := 7) hK dX1_perform_113 rfl (by decide) ?_
      refine J_bipush (v := 10) hK dX1_perform_115 rfl (by decide) ?_
      refine J_bipush (v := 99) hK dX1_perform_117 rfl (by decide) ?_
      refine J_iconst (v := 0) hK dX1_perform_119 rfl (by decide) ?_
      obtain ⟨⟨g22, g23, g24⟩, e25, hf⟩ := bs hf
      have hf := un3 hf
      refine J_callV (m' := 1) (ce' := 0) (sl' := 0) (gr := []) (gs' := fun _ => [gLd d h0 g22 x0_goodsCount x0_workCount x0_years g23 x0_goods x0_works x0_change x0_coin x0_knownFree g24]) (st' := fun _ => []) (st := []) hK dX1_perform_120 cv_RX1_98 iv_yX1_addLine (As := [.int v3, .int v5, .int (7), .int (10), .int (99), .int (0)]) (kX1_addLine _ d h0 x0_lineCount x0_goodsCount x0_workCount x0_years x0_lines x0_goods x0_works x0_change x0_coin x0_knownFree x0_isKnown v3 v5 (7) (10) (99) (0) e25) rfl rfl (Nat.le_of_ble_eq_true rfl) (by decide) 0 0 rfl rfl rfl [0] [] rfl rfl rfl rfl [0] rfl (fun _ => rfl) (fun _ => rfl) rfl rfl rfl (fun _ => rfl) (fun _ => ?_)
      refine J_goto hK dX1_perform_123 (n := 143) rfl ?_
      obtain rfl := Option.some.inj hf
      exact J_vret hK hR dX1_perform_143 () rfl (by decide) (by decide)
    have hf := iq hc29_4 hf
    by_cases hc29_5 : v7 = 5
    · have hf := ip hc29_5 hf
      refine J_swI (tg := 126) hK dX1_perform_29 (by rw [hc29_5]; decide) (by rw [hc29_5]; decide) (by rw [hc29_5]; rfl) rfl ?_
      refine J_aload_n hK dX1_perform_126 rfl 2 rfl rfl ?_
      refine J_iload_n hK dX1_perform_127 rfl 1 rfl rfl ?_
      refine J_iload_n hK dX1_perform_128 rfl 0 rfl rfl ?_
      refine J_bipush (v := 7) hK dX1_perform_129 rfl (by decide) ?_
      refine J_bipush (v := 10) hK dX1_perform_131 rfl (by decide) ?_
      refine J_sipush (v := 198) hK dX1_perform_133 rfl (by decide) ?_
      refine J_iconst (v := 0) hK dX1_perform_136 rfl (by decide) ?_
      obtain ⟨⟨g26, g27, g28⟩, e29, hf⟩ := bs hf
      have hf := un3 hf
      refine J_callV (m' := 1) (ce' := 0) (sl' := 0) (gr := []) (gs' := fun _ => [gLd d h0 g26 x0_goodsCount x0_workCount x0_years g27 x0_goods x0_works x0_change x0_coin x0_knownFree g28]) (st' := fun _ => []) (st := []) hK dX1_perform_137 cv_RX1_98 iv_yX1_addLine (As := [.int v3, .int v5, .int (7), .int (10), .int (198), .int (0)]) (kX1_addLine _ d h0 x0_lineCount x0_goodsCount x0_workCount x0_years x0_lines x0_goods x0_works x0_change x0_coin x0_knownFree x0_isKnown v3 v5 (7) (10) (198) (0) e29) rfl rfl (Nat.le_of_ble_eq_true rfl) (by decide) 0 0 rfl rfl rfl [0] [] rfl rfl rfl rfl [0] rfl (fun _ => rfl) (fun _ => rfl) rfl rfl rfl (fun _ => rfl) (fun _ => ?_)
      refine J_goto hK dX1_perform_140 (n := 143) rfl ?_
      obtain rfl := Option.some.inj hf
      exact J_vret hK hR dX1_perform_143 () rfl (by decide) (by decide)
    have hf := iq hc29_5 hf
    refine J_swO (tg := 143) hK dX1_perform_29 (by have q1 : ¬ v7.toInt = 1 := fun h => hc29_1 (Int32.toInt_inj.mp (h.trans (by decide))); have q2 : ¬ v7.toInt = 2 := fun h => hc29_2 (Int32.toInt_inj.mp (h.trans (by decide))); have q3 : ¬ v7.toInt = 3 := fun h => hc29_3 (Int32.toInt_inj.mp (h.trans (by decide))); have q4 : ¬ v7.toInt = 4 := fun h => hc29_4 (Int32.toInt_inj.mp (h.trans (by decide))); have q5 : ¬ v7.toInt = 5 := fun h => hc29_5 (Int32.toInt_inj.mp (h.trans (by decide))); omega) rfl ?_
    obtain rfl := Option.some.inj hf
    exact J_vret hK hR dX1_perform_143 () rfl (by decide) (by decide)
  · have hf := ip hc5 hf
    obtain rfl := Option.some.inj hf
    exact J_vret hK hR dX1_perform_8 () rfl (by decide) (by decide)

def fX1_linesThere_s4 (x0_lineCount : Int32) (x0_goodsCount : Int32) (x0_workCount : Int32) (x0_years : Int32) (x0_lines : (Nat → Int32)) (x0_goods : (Nat → Int32)) (x0_works : (Nat → Int32)) (x0_change : (Nat → Int32)) (x0_coin : (Nat → Int32)) (x0_knownFree : (Nat → Int32)) (x0_isKnown : Int32) (z2 : Int32) (z3 : Int32) : Option ((Int32 × Int32) ⊕ (Int32)) :=
  if x0_lineCount ≤ z3 then (some (.inr z2)) else ((fX1_ofLine (x0_lineCount, x0_goodsCount, x0_workCount, x0_years, x0_lines, x0_goods, x0_works, x0_change, x0_coin, x0_knownFree, x0_isKnown) z3 (6)).bind (fun v6 => if v6 = 0 then ((some (z2 ||| ((1 : Int32) <<< (z3 &&& 31)))).bind fun t8 => some (.inl (t8, (z3 + 1)))) else (some (.inl (z2, (z3 + 1))))))
def fX1_linesThere (n : Nat) (X0 : LdT) : Option (Int32) :=
  u11 (fun (x0_lineCount : Int32) (x0_goodsCount : Int32) (x0_workCount : Int32) (x0_years : Int32) (x0_lines : (Nat → Int32)) (x0_goods : (Nat → Int32)) (x0_works : (Nat → Int32)) (x0_change : (Nat → Int32)) (x0_coin : (Nat → Int32)) (x0_knownFree : (Nat → Int32)) (x0_isKnown : Int32) => (lp (u2 (fX1_linesThere_s4 x0_lineCount x0_goodsCount x0_workCount x0_years x0_lines x0_goods x0_works x0_change x0_coin x0_knownFree x0_isKnown)) n (0, 0)).bind (fun w5 => some w5)) X0
set_option maxHeartbeats 4000000 in
set_option maxRecDepth 100000 in
theorem kX1_linesThere (l : Launch) (d : DT) (h0 : Nat → Nat) (n : Nat) (x0_lineCount : Int32) (x0_goodsCount : Int32) (x0_workCount : Int32) (x0_years : Int32) (x0_lines : (Nat → Int32)) (x0_goods : (Nat → Int32)) (x0_works : (Nat → Int32)) (x0_change : (Nat → Int32)) (x0_coin : (Nat → Int32)) (x0_knownFree : (Nat → Int32)) (x0_isKnown : Int32)  {out : Int32} (hf : fX1_linesThere n (x0_lineCount, x0_goodsCount, x0_workCount, x0_years, x0_lines, x0_goods, x0_works, x0_change, x0_coin, x0_knownFree, x0_isKnown) = some out) : Ct l d yX1_linesThere cX1_linesThere 3 (some .int) { frames := 1, cells := 0, slots := 0, locals := 22 } [.ref (h0 0)] [gLd d h0 x0_lineCount x0_goodsCount x0_workCount x0_years x0_lines x0_goods x0_works x0_change x0_coin x0_knownFree x0_isKnown] (fun _ : Unit => (some (.int out), [gLd d h0 x0_lineCount x0_goodsCount x0_workCount x0_years x0_lines x0_goods x0_works x0_change x0_coin x0_knownFree x0_isKnown])) := by
  refine Ct.of (by decide) (Nat.le_of_ble_eq_true rfl) ?_
  intro Φ hl hK hR
  subst hl
  have hK : Ok d Φ RX1 "linesThere" cX1_linesThere 3 (some .int) { frames := 1, cells := 0, slots := 0, locals := 22 } := hK
  unfold fX1_linesThere at hf
  have hf := un11 hf
  show J d Φ 3 [gLd d h0 x0_lineCount x0_goodsCount x0_workCount x0_years x0_lines x0_goods x0_works x0_change x0_coin x0_knownFree x0_isKnown] 0 0 0 [(0, .ref (h0 0))] []
  refine J_iconst (v := 0) hK dX1_linesThere_0 rfl (by decide) ?_
  refine J_istore_n (L' := [(1, .int (0)), (0, .ref (h0 0))]) hK dX1_linesThere_1 rfl rfl (by decide) rfl ?_
  refine J_iconst (v := 0) hK dX1_linesThere_2 rfl (by decide) ?_
  refine J_istore_n (L' := [(2, .int (0)), (1, .int (0)), (0, .ref (h0 0))]) hK dX1_linesThere_3 rfl rfl (by decide) rfl ?_
  obtain ⟨e4, hl1, hf⟩ := bs hf
  have hx1_34 : ∀ (w5 : Int32), w5 = e4 → J d Φ 3 [gLd d h0 x0_lineCount x0_goodsCount x0_workCount x0_years x0_lines x0_goods x0_works x0_change x0_coin x0_knownFree x0_isKnown] 0 0 34 [(1, .int w5)] [] := by
    intro w5 he
    rw [← he] at hf
    refine J_iload_n hK dX1_linesThere_34 rfl 0 rfl rfl ?_
    obtain rfl := Option.some.inj hf
    exact J_iret hK hR dX1_linesThere_35 () rfl (by decide) (by decide)
  have lo1 : ∀ (k : Nat) (z2 : Int32) (z3 : Int32), lp (u2 (fX1_linesThere_s4 x0_lineCount x0_goodsCount x0_workCount x0_years x0_lines x0_goods x0_works x0_change x0_coin x0_knownFree x0_isKnown)) k (z2, z3) = some e4 → J d Φ 3 [gLd d h0 x0_lineCount x0_goodsCount x0_workCount x0_years x0_lines x0_goods x0_works x0_change x0_coin x0_knownFree x0_isKnown] 0 0 4 [(0, .ref (h0 0)), (1, .int z2), (2, .int z3)] [] := by
    intro k
    induction k with
    | zero => intro z2 z3 h; cases h
    | succ k ih1 =>
      intro z2 z3 h
      obtain ⟨k2, rr1, hk2, hs1, hr1⟩ := lp_ok h
      cases hk2
      have hs1 : fX1_linesThere_s4 x0_lineCount x0_goodsCount x0_workCount x0_years x0_lines x0_goods x0_works x0_change x0_coin x0_knownFree x0_isKnown z2 z3 = some rr1 := hs1
      unfold fX1_linesThere_s4 at hs1
      refine J_iload_n hK dX1_linesThere_4 rfl 2 rfl rfl ?_
      refine J_aload_n hK dX1_linesThere_5 rfl 0 rfl rfl ?_
      refine J_get hK fo_RX1_30 dX1_linesThere_6 rfl 0 0 rfl rfl rfl ?_
      refine J_icmp_ge (tg := 34) hK dX1_linesThere_9 rfl rfl (fun hc9 => ?_) (fun hc9 => ?_)
      · have hs1 := ip hc9 hs1
        exact J_loc [1] rfl (hx1_34 z2 (lpx hs1 hr1))
      · have hs1 := iq hc9 hs1
        refine J_aload_n hK dX1_linesThere_12 rfl 0 rfl rfl ?_
        refine J_iload_n hK dX1_linesThere_13 rfl 2 rfl rfl ?_
        refine J_bipush (v := 6) hK dX1_linesThere_14 rfl (by decide) ?_
        obtain ⟨v6, e7, hs1⟩ := bs hs1
        refine J_callV (m' := 1) (ce' := 0) (sl' := 0) (gr := []) (gs' := fun _ => [gLd d h0 x0_lineCount x0_goodsCount x0_workCount x0_years x0_lines x0_goods x0_works x0_change x0_coin x0_knownFree x0_isKnown]) (st' := fun _ => [.int v6]) (st := []) hK dX1_linesThere_16 cv_RX1_71 iv_yX1_ofLine (As := [.int z3, .int (6)]) (kX1_ofLine _ d h0 x0_lineCount x0_goodsCount x0_workCount x0_years x0_lines x0_goods x0_works x0_change x0_coin x0_knownFree x0_isKnown z3 (6) e7) rfl rfl (Nat.le_of_ble_eq_true rfl) (by decide) 0 0 rfl rfl rfl [0] [] rfl rfl rfl rfl [0] rfl (fun _ => rfl) (fun _ => rfl) rfl rfl rfl (fun _ => rfl) (fun _ => ?_)
        refine J_if_ne (tg := 28) hK dX1_linesThere_19 rfl rfl (fun hc19 => ?_) (fun hc19 => ?_)
        · have hs1 := iq hc19 hs1
          refine J_iinc (L' := [(2, .int (z3 + 1)), (0, .ref (h0 0)), (1, .int z2)]) (v := (z3 + 1)) hK dX1_linesThere_28 rfl 2 rfl rfl (by decide) rfl ?_
          refine J_goto hK dX1_linesThere_31 (n := 4) rfl ?_
          exact J_loc [1, 2, 0] rfl (ih1 z2 (z3 + 1) (lpc hs1 hr1))
        · have hs1 := ip hc19 hs1
          refine J_iload_n hK dX1_linesThere_22 rfl 1 rfl rfl ?_
          refine J_iconst (v := 1) hK dX1_linesThere_23 rfl (by decide) ?_
          refine J_iload_n hK dX1_linesThere_24 rfl 2 rfl rfl ?_
          refine J_ishl hK dX1_linesThere_25 rfl ?_
          refine J_ior hK dX1_linesThere_26 rfl ?_
          obtain ⟨t8, et8, hs1⟩ := bs hs1
          refine J_nmi et8 ?_
          refine J_istore_n (L' := [(1, .int t8), (0, .ref (h0 0)), (2, .int z3)]) hK dX1_linesThere_27 rfl rfl (by decide) rfl ?_
          refine J_iinc (L' := [(2, .int (z3 + 1)), (1, .int t8), (0, .ref (h0 0))]) (v := (z3 + 1)) hK dX1_linesThere_28 rfl 2 rfl rfl (by decide) rfl ?_
          refine J_goto hK dX1_linesThere_31 (n := 4) rfl ?_
          exact J_loc [2, 1, 0] rfl (ih1 t8 (z3 + 1) (lpc hs1 hr1))
  exact J_loc [2, 1, 0] rfl (lo1 n (0) (0) hl1)

def fX5_prepare_s58 (x1_lineCount : Int32) (x1_goodsCount : Int32) (x1_workCount : Int32) (x1_years : Int32) (x1_lines : (Nat → Int32)) (x1_goods : (Nat → Int32)) (x1_works : (Nat → Int32)) (x1_change : (Nat → Int32)) (x1_coin : (Nat → Int32)) (x1_knownFree : (Nat → Int32)) (x1_isKnown : Int32) (z3 : Int32) (y15 : Int32) (z17 : Int32) (z18 : (Nat → Int32)) (z19 : (Nat → Int32)) (z20 : (Nat → Int32)) (z21 : (Nat → Int32)) (z22 : Int32) : Option ((Int32 × (Nat → Int32) × (Nat → Int32) × (Nat → Int32) × (Nat → Int32) × Int32) ⊕ ((Nat → Int32) × (Nat → Int32) × (Nat → Int32) × (Nat → Int32) × Int32)) :=
  if 3 ≤ z17 then (some (.inr (z18, z19, z20, z21, z22))) else (if ((y15 >>> (z17 &&& 31)) &&& 1) = 0 then (some (.inl ((z17 + 1), z18, z19, z20, z21, z22))) else ((fX1_ofLine (x1_lineCount, x1_goodsCount, x1_workCount, x1_years, x1_lines, x1_goods, x1_works, x1_change, x1_coin, x1_knownFree, x1_isKnown) z3 (0)).bind (fun v29 => (wr 60 z18 z22 ((v29 * 3) + z17)).bind fun f31 => (fX1_ofLine (x1_lineCount, x1_goodsCount, x1_workCount, x1_years, x1_lines, x1_goods, x1_works, x1_change, x1_coin, x1_knownFree, x1_isKnown) z3 (1)).bind (fun v32 => (wr 60 z19 z22 ((v32 * 3) + z17)).bind fun f34 => (fX1_ofLine (x1_lineCount, x1_goodsCount, x1_workCount, x1_years, x1_lines, x1_goods, x1_works, x1_change, x1_coin, x1_knownFree, x1_isKnown) z3 (3)).bind (fun v35 => (rd 3 x1_coin z17).bind fun v37 => (wr 60 z20 z22 (v35 * v37)).bind fun f38 => (wr 60 z21 z22 z3).bind fun f39 => some (.inl ((z17 + 1), f31, f34, f38, f39, (z22 + 1))))))))
def fX5_prepare_j53 (n : Nat) (x1_lineCount : Int32) (x1_goodsCount : Int32) (x1_workCount : Int32) (x1_years : Int32) (x1_lines : (Nat → Int32)) (x1_goods : (Nat → Int32)) (x1_works : (Nat → Int32)) (x1_change : (Nat → Int32)) (x1_coin : (Nat → Int32)) (x1_knownFree : (Nat → Int32)) (x1_isKnown : Int32) (z3 : Int32) (z4 : (Nat → Int32)) (z5 : (Nat → Int32)) (z6 : (Nat → Int32)) (z7 : (Nat → Int32)) (z8 : Int32) (y15 : Int32) : Option ((Int32 × (Nat → Int32) × (Nat → Int32) × (Nat → Int32) × (Nat → Int32) × Int32) ⊕ ((Nat → Int32) × (Nat → Int32) × (Nat → Int32) × (Nat → Int32) × Int32)) :=
  (lp (u6 (fX5_prepare_s58 x1_lineCount x1_goodsCount x1_workCount x1_years x1_lines x1_goods x1_works x1_change x1_coin x1_knownFree x1_isKnown z3 y15)) n (0, z4, z5, z6, z7, z8)).bind (u5 fun w24 w25 w26 w27 w28 => some (.inl ((z3 + 1), w24, w25, w26, w27, w28)))
def fX5_prepare_s27 (n : Nat) (p2 : Int32) (x1_lineCount : Int32) (x1_goodsCount : Int32) (x1_workCount : Int32) (x1_years : Int32) (x1_lines : (Nat → Int32)) (x1_goods : (Nat → Int32)) (x1_works : (Nat → Int32)) (x1_change : (Nat → Int32)) (x1_coin : (Nat → Int32)) (x1_knownFree : (Nat → Int32)) (x1_isKnown : Int32) (z3 : Int32) (z4 : (Nat → Int32)) (z5 : (Nat → Int32)) (z6 : (Nat → Int32)) (z7 : (Nat → Int32)) (z8 : Int32) : Option ((Int32 × (Nat → Int32) × (Nat → Int32) × (Nat → Int32) × (Nat → Int32) × Int32) ⊕ ((Nat → Int32) × (Nat → Int32) × (Nat → Int32) × (Nat → Int32) × Int32)) :=
  if x1_lineCount ≤ z3 then (some (.inr (z4, z5, z6, z7, z8))) else (if ((p2 >>> (z3 &&& 31)) &&& 1) = 0 then (fX5_prepare_j53 n x1_lineCount x1_goodsCount x1_workCount x1_years x1_lines x1_goods x1_works x1_change x1_coin x1_knownFree x1_isKnown z3 z4 z5 z6 z7 z8 (0)) else ((fX1_ofLine (x1_lineCount, x1_goodsCount, x1_workCount, x1_years, x1_lines, x1_goods, x1_works, x1_change, x1_coin, x1_knownFree, x1_isKnown) z3 (2)).bind (fun v40 => fX5_prepare_j53 n x1_lineCount x1_goodsCount x1_workCount x1_years x1_lines x1_goods x1_works x1_change x1_coin x1_knownFree x1_isKnown z3 z4 z5 z6 z7 z8 v40)))
def fX5_prepare (n : Nat) (X0 : WyT) (X1 : LdT) (p2 : Int32) : Option (((Nat → Int32) × (Nat → Int32) × (Nat → Int32) × (Nat → Int32) × (Nat → Int32) × Int32 × Int32)) :=
  u14 (fun (x0_edgeA : (Nat → Int32)) (x0_edgeB : (Nat → Int32)) (x0_edgeCost : (Nat → Int32)) (x0_edgeLine : (Nat → Int32)) (x0_change : (Nat → Int32)) (x0_away : (Nat → Int32)) (x0_steps : (Nat → Int32)) (x0_nodes : (Nat → Int32)) (x0_stepCount : Int32) (x0_open : (Nat → Int32)) (x0_openCount : Int32) (x0_seen : Int64) (x0_edgeCount : Int32) (x0_aim : Int32) => u11 (fun (x1_lineCount : Int32) (x1_goodsCount : Int32) (x1_workCount : Int32) (x1_years : Int32) (x1_lines : (Nat → Int32)) (x1_goods : (Nat → Int32)) (x1_works : (Nat → Int32)) (x1_change : (Nat → Int32)) (x1_coin : (Nat → Int32)) (x1_knownFree : (Nat → Int32)) (x1_isKnown : Int32) => (cpy 12 x1_change 12 x0_change (0) (0) (12)).bind fun f1 => (lp (u6 (fX5_prepare_s27 n p2 x1_lineCount x1_goodsCount x1_workCount x1_years x1_lines x1_goods x1_works x1_change x1_coin x1_knownFree x1_isKnown)) n (0, x0_edgeA, x0_edgeB, x0_edgeCost, x0_edgeLine, 0)).bind (u5 fun w10 w11 w12 w13 w14 => some (w10, w11, w12, w13, f1, w14, (-1)))) X1) X0
set_option maxHeartbeats 4000000 in
set_option maxRecDepth 100000 in
theorem kX5_prepare (l : Launch) (d : DT) (h0 : Nat → Nat) (h1 : Nat → Nat) (n : Nat) (x0_edgeA : (Nat → Int32)) (x0_edgeB : (Nat → Int32)) (x0_edgeCost : (Nat → Int32)) (x0_edgeLine : (Nat → Int32)) (x0_change : (Nat → Int32)) (x0_away : (Nat → Int32)) (x0_steps : (Nat → Int32)) (x0_nodes : (Nat → Int32)) (x0_stepCount : Int32) (x0_open : (Nat → Int32)) (x0_openCount : Int32) (x0_seen : Int64) (x0_edgeCount : Int32) (x0_aim : Int32) (x1_lineCount : Int32) (x1_goodsCount : Int32) (x1_workCount : Int32) (x1_years : Int32) (x1_lines : (Nat → Int32)) (x1_goods : (Nat → Int32)) (x1_works : (Nat → Int32)) (x1_change : (Nat → Int32)) (x1_coin : (Nat → Int32)) (x1_knownFree : (Nat → Int32)) (x1_isKnown : Int32) (p2 : Int32)  {out : ((Nat → Int32) × (Nat → Int32) × (Nat → Int32) × (Nat → Int32) × (Nat → Int32) × Int32 × Int32)} (hf : fX5_prepare n (x0_edgeA, x0_edgeB, x0_edgeCost, x0_edgeLine, x0_change, x0_away, x0_steps, x0_nodes, x0_stepCount, x0_open, x0_openCount, x0_seen, x0_edgeCount, x0_aim) (x1_lineCount, x1_goodsCount, x1_workCount, x1_years, x1_lines, x1_goods, x1_works, x1_change, x1_coin, x1_knownFree, x1_isKnown) p2 = some out) : Ct l d yX5_prepare cX5_prepare 6 none { frames := 1, cells := 0, slots := 0, locals := 26 } [.ref (h0 0), .ref (h1 0), .int p2] [gWy d h0 x0_edgeA x0_edgeB x0_edgeCost x0_edgeLine x0_change x0_away x0_steps x0_nodes x0_stepCount x0_open x0_openCount x0_seen x0_edgeCount x0_aim, gLd d h1 x1_lineCount x1_goodsCount x1_workCount x1_years x1_lines x1_goods x1_works x1_change x1_coin x1_knownFree x1_isKnown] (fun _ : Unit => (none, [gWy d h0 (out.1) (out.2.1) (out.2.2.1) (out.2.2.2.1) (out.2.2.2.2.1) x0_away x0_steps x0_nodes x0_stepCount x0_open x0_openCount x0_seen (out.2.2.2.2.2.1) (out.2.2.2.2.2.2), gLd d h1 x1_lineCount x1_goodsCount x1_workCount x1_years x1_lines x1_goods x1_works x1_change x1_coin x1_knownFree x1_isKnown])) := by
  refine Ct.of (by decide) (Nat.le_of_ble_eq_true rfl) ?_
  intro Φ hl hK hR
  subst hl
  have hK : Ok d Φ RX5 "prepare" cX5_prepare 6 none { frames := 1, cells := 0, slots := 0, locals := 26 } := hK
  unfold fX5_prepare at hf
  have hf := un14 hf
  have hf := un11 hf
  show J d Φ 6 [gWy d h0 x0_edgeA x0_edgeB x0_edgeCost x0_edgeLine x0_change x0_away x0_steps x0_nodes x0_stepCount x0_open x0_openCount x0_seen x0_edgeCount x0_aim, gLd d h1 x1_lineCount x1_goodsCount x1_workCount x1_years x1_lines x1_goods x1_works x1_change x1_coin x1_knownFree x1_isKnown] 0 0 0 [(0, .ref (h0 0)), (1, .ref (h1 0)), (2, .int p2)] []
  refine J_aload_n hK dX5_prepare_0 rfl 1 rfl rfl ?_
  refine J_get hK fo_RX5_43 dX5_prepare_1 rfl 1 0 rfl rfl rfl ?_
  refine J_iconst (v := 0) hK dX5_prepare_4 rfl (by decide) ?_
  refine J_aload_n hK dX5_prepare_5 rfl 0 rfl rfl ?_
  refine J_get hK fo_RX5_24 dX5_prepare_6 rfl 0 0 rfl rfl rfl ?_
  refine J_iconst (v := 0) hK dX5_prepare_9 rfl (by decide) ?_
  refine J_bipush (v := 12) hK dX5_prepare_10 rfl (by decide) ?_
  obtain ⟨f1, ef1, hf⟩ := bs hf
  refine J_cpyI (g' := gWy d h0 x0_edgeA x0_edgeB x0_edgeCost x0_edgeLine f1 x0_away x0_steps x0_nodes x0_stepCount x0_open x0_openCount x0_seen x0_edgeCount x0_aim) (gs' := [gWy d h0 x0_edgeA x0_edgeB x0_edgeCost x0_edgeLine f1 x0_away x0_steps x0_nodes x0_stepCount x0_open x0_openCount x0_seen x0_edgeCount x0_aim, gLd d h1 x1_lineCount x1_goodsCount x1_workCount x1_years x1_lines x1_goods x1_works x1_change x1_coin x1_knownFree x1_isKnown]) hK dX5_prepare_12 rfl cc_RX5_46 1 4 0 5 rfl rfl rfl rfl ef1 (by decide) (Nat.le_of_ble_eq_true rfl) rfl rfl ?_
  refine J_aload_n hK dX5_prepare_15 rfl 0 rfl rfl ?_
  refine J_iconst (v := (-1)) hK dX5_prepare_16 rfl (by decide) ?_
  refine J_put (g' := gWy d h0 x0_edgeA x0_edgeB x0_edgeCost x0_edgeLine f1 x0_away x0_steps x0_nodes x0_stepCount x0_open x0_openCount x0_seen x0_edgeCount (-1)) (gs' := [gWy d h0 x0_edgeA x0_edgeB x0_edgeCost x0_edgeLine f1 x0_away x0_steps x0_nodes x0_stepCount x0_open x0_openCount x0_seen x0_edgeCount (-1), gLd d h1 x1_lineCount x1_goodsCount x1_workCount x1_years x1_lines x1_goods x1_works x1_change x1_coin x1_knownFree x1_isKnown]) hK fp_RX5_39 dX5_prepare_17 rfl 0 0 rfl rfl rfl rfl (Nat.le_of_ble_eq_true rfl) rfl rfl ?_
  refine J_aload_n hK dX5_prepare_20 rfl 0 rfl rfl ?_
  refine J_iconst (v := 0) hK dX5_prepare_21 rfl (by decide) ?_
  refine J_put (g' := gWy d h0 x0_edgeA x0_edgeB x0_edgeCost x0_edgeLine f1 x0_away x0_steps x0_nodes x0_stepCount x0_open x0_openCount x0_seen (0) (-1)) (gs' := [gWy d h0 x0_edgeA x0_edgeB x0_edgeCost x0_edgeLine f1 x0_away x0_steps x0_nodes x0_stepCount x0_open x0_openCount x0_seen (0) (-1), gLd d h1 x1_lineCount x1_goodsCount x1_workCount x1_years x1_lines x1_goods x1_works x1_change x1_coin x1_knownFree x1_isKnown]) hK fp_RX5_52 dX5_prepare_22 rfl 0 0 rfl rfl rfl rfl (Nat.le_of_ble_eq_true rfl) rfl rfl ?_
  refine J_iconst (v := 0) hK dX5_prepare_25 rfl (by decide) ?_
  refine J_istore_n (L' := [(3, .int (0)), (0, .ref (h0 0)), (1, .ref (h1 0)), (2, .int p2)]) hK dX5_prepare_26 rfl rfl (by decide) rfl ?_
  obtain ⟨e9, hl2, hf⟩ := bs hf
  have hx2_169 : ∀ (w10 : (Nat → Int32)) (w11 : (Nat → Int32)) (w12 : (Nat → Int32)) (w13 : (Nat → Int32)) (w14 : Int32), (w10, w11, w12, w13, w14) = e9 → J d Φ 6 [gWy d h0 w10 w11 w12 w13 f1 x0_away x0_steps x0_nodes x0_stepCount x0_open x0_openCount x0_seen w14 (-1), gLd d h1 x1_lineCount x1_goodsCount x1_workCount x1_years x1_lines x1_goods x1_works x1_change x1_coin x1_knownFree x1_isKnown] 0 0 169 [] [] := by
    intro w10 w11 w12 w13 w14 he
    rw [← he] at hf
    have hf := un5 hf
    obtain rfl := Option.some.inj hf
    exact J_vret hK hR dX5_prepare_169 () rfl (by decide) (by decide)
  have lo2 : ∀ (k : Nat) (z3 : Int32) (z4 : (Nat → Int32)) (z5 : (Nat → Int32)) (z6 : (Nat → Int32)) (z7 : (Nat → Int32)) (z8 : Int32), lp (u6 (fX5_prepare_s27 n p2 x1_lineCount x1_goodsCount x1_workCount x1_years x1_lines x1_goods x1_works x1_change x1_coin x1_knownFree x1_isKnown)) k (z3, z4, z5, z6, z7, z8) = some e9 → J d Φ 6 [gWy d h0 z4 z5 z6 z7 f1 x0_away x0_steps x0_nodes x0_stepCount x0_open x0_openCount x0_seen z8 (-1), gLd d h1 x1_lineCount x1_goodsCount x1_workCount x1_years x1_lines x1_goods x1_works x1_change x1_coin x1_knownFree x1_isKnown] 0 0 27 [(0, .ref (h0 0)), (1, .ref (h1 0)), (2, .int p2), (3, .int z3)] [] := by
    intro k
    induction k with
    | zero => intro z3 z4 z5 z6 z7 z8 h; cases h
    | succ k ih2 =>
      intro z3 z4 z5 z6 z7 z8 h
      obtain ⟨k2, rr2, hk2, hs2, hr2⟩ := lp_ok h
      cases hk2
      have hs2 : fX5_prepare_s27 n p2 x1_lineCount x1_goodsCount x1_workCount x1_years x1_lines x1_goods x1_works x1_change x1_coin x1_knownFree x1_isKnown z3 z4 z5 z6 z7 z8 = some rr2 := hs2
      unfold fX5_prepare_s27 at hs2
      refine J_iload_n hK dX5_prepare_27 rfl 3 rfl rfl ?_
      refine J_aload_n hK dX5_prepare_28 rfl 1 rfl rfl ?_
      refine J_get hK fo_RX5_55 dX5_prepare_29 rfl 1 0 rfl rfl rfl ?_
      refine J_icmp_ge (tg := 169) hK dX5_prepare_32 rfl rfl (fun hc32 => ?_) (fun hc32 => ?_)
      · have hs2 := ip hc32 hs2
        exact J_loc [] rfl (hx2_169 z4 z5 z6 z7 z8 (lpx hs2 hr2))
      · have hs2 := iq hc32 hs2
        refine J_iload_n hK dX5_prepare_35 rfl 2 rfl rfl ?_
        refine J_iload_n hK dX5_prepare_36 rfl 3 rfl rfl ?_
        refine J_ishr hK dX5_prepare_37 rfl ?_
        refine J_iconst (v := 1) hK dX5_prepare_38 rfl (by decide) ?_
        refine J_iand hK dX5_prepare_39 rfl ?_
        have j53 : ∀ (y15 : Int32), fX5_prepare_j53 n x1_lineCount x1_goodsCount x1_workCount x1_years x1_lines x1_goods x1_works x1_change x1_coin x1_knownFree x1_isKnown z3 z4 z5 z6 z7 z8 y15 = some rr2 → J d Φ 6 [gWy d h0 z4 z5 z6 z7 f1 x0_away x0_steps x0_nodes x0_stepCount x0_open x0_openCount x0_seen z8 (-1), gLd d h1 x1_lineCount x1_goodsCount x1_workCount x1_years x1_lines x1_goods x1_works x1_change x1_coin x1_knownFree x1_isKnown] 0 0 53 [(0, .ref (h0 0)), (1, .ref (h1 0)), (2, .int p2), (3, .int z3)] [.int y15] := by
          intro y15 hs2
          unfold fX5_prepare_j53 at hs2
          refine J_istore (L' := [(4, .int y15), (0, .ref (h0 0)), (1, .ref (h1 0)), (2, .int p2), (3, .int z3)]) hK dX5_prepare_53 rfl (by decide) rfl ?_
          refine J_iconst (v := 0) hK dX5_prepare_55 rfl (by decide) ?_
          refine J_istore (L' := [(5, .int (0)), (4, .int y15), (0, .ref (h0 0)), (1, .ref (h1 0)), (2, .int p2), (3, .int z3)]) hK dX5_prepare_56 rfl (by decide) rfl ?_
          obtain ⟨e23, hl16, hs2⟩ := bs hs2
          have hx16_163 : ∀ (w24 : (Nat → Int32)) (w25 : (Nat → Int32)) (w26 : (Nat → Int32)) (w27 : (Nat → Int32)) (w28 : Int32), (w24, w25, w26, w27, w28) = e23 → J d Φ 6 [gWy d h0 w24 w25 w26 w27 f1 x0_away x0_steps x0_nodes x0_stepCount x0_open x0_openCount x0_seen w28 (-1), gLd d h1 x1_lineCount x1_goodsCount x1_workCount x1_years x1_lines x1_goods x1_works x1_change x1_coin x1_knownFree x1_isKnown] 0 0 163 [(0, .ref (h0 0)), (1, .ref (h1 0)), (2, .int p2), (3, .int z3)] [] := by
            intro w24 w25 w26 w27 w28 he
            rw [← he] at hs2
            have hs2 := un5 hs2
            refine J_iinc (L' := [(3, .int (z3 + 1)), (0, .ref (h0 0)), (1, .ref (h1 0)), (2, .int p2)]) (v := (z3 + 1)) hK dX5_prepare_163 rfl 3 rfl rfl (by decide) rfl ?_
            refine J_goto hK dX5_prepare_166 (n := 27) rfl ?_
            exact J_loc [1, 2, 3, 0] rfl (ih2 (z3 + 1) w24 w25 w26 w27 w28 (lpc hs2 hr2))
          have lo16 : ∀ (k : Nat) (z17 : Int32) (z18 : (Nat → Int32)) (z19 : (Nat → Int32)) (z20 : (Nat → Int32)) (z21 : (Nat → Int32)) (z22 : Int32), lp (u6 (fX5_prepare_s58 x1_lineCount x1_goodsCount x1_workCount x1_years x1_lines x1_goods x1_works x1_change x1_coin x1_knownFree x1_isKnown z3 y15)) k (z17, z18, z19, z20, z21, z22) = some e23 → J d Φ 6 [gWy d h0 z18 z19 z20 z21 f1 x0_away x0_steps x0_nodes x0_stepCount x0_open x0_openCount x0_seen z22 (-1), gLd d h1 x1_lineCount x1_goodsCount x1_workCount x1_years x1_lines x1_goods x1_works x1_change x1_coin x1_knownFree x1_isKnown] 0 0 58 [(0, .ref (h0 0)), (1, .ref (h1 0)), (2, .int p2), (3, .int z3), (4, .int y15), (5, .int z17)] [] := by
            intro k
            induction k with
            | zero => intro z17 z18 z19 z20 z21 z22 h; cases h
            | succ k ih16 =>
              intro z17 z18 z19 z20 z21 z22 h
              obtain ⟨k2, rr16, hk2, hs16, hr16⟩ := lp_ok h
              cases hk2
              have hs16 : fX5_prepare_s58 x1_lineCount x1_goodsCount x1_workCount x1_years x1_lines x1_goods x1_works x1_change x1_coin x1_knownFree x1_isKnown z3 y15 z17 z18 z19 z20 z21 z22 = some rr16 := hs16
              unfold fX5_prepare_s58 at hs16
              refine J_iload hK dX5_prepare_58 rfl 5 rfl ?_
              refine J_iconst (v := 3) hK dX5_prepare_60 rfl (by decide) ?_
              refine J_icmp_ge (tg := 163) hK dX5_prepare_61 rfl rfl (fun hc61 => ?_) (fun hc61 => ?_)
              · have hs16 := ip hc61 hs16
                exact J_loc [0, 1, 2, 3] rfl (hx16_163 z18 z19 z20 z21 z22 (lpx hs16 hr16))
              · have hs16 := iq hc61 hs16
                refine J_iload hK dX5_prepare_64 rfl 4 rfl ?_
                refine J_iload hK dX5_prepare_66 rfl 5 rfl ?_
                refine J_ishr hK dX5_prepare_68 rfl ?_
                refine J_iconst (v := 1) hK dX5_prepare_69 rfl (by decide) ?_
                refine J_iand hK dX5_prepare_70 rfl ?_
                refine J_if_eq (tg := 157) hK dX5_prepare_71 rfl rfl (fun hc71 => ?_) (fun hc71 => ?_)
                · have hs16 := ip hc71 hs16
                  refine J_iinc (L' := [(5, .int (z17 + 1)), (0, .ref (h0 0)), (1, .ref (h1 0)), (2, .int p2), (3, .int z3), (4, .int y15)]) (v := (z17 + 1)) hK dX5_prepare_157 rfl 5 rfl rfl (by decide) rfl ?_
                  refine J_goto hK dX5_prepare_160 (n := 58) rfl ?_
                  exact J_loc [1, 2, 3, 4, 5, 0] rfl (ih16 (z17 + 1) z18 z19 z20 z21 z22 (lpc hs16 hr16))
                · have hs16 := iq hc71 hs16
                  refine J_aload_n hK dX5_prepare_74 rfl 0 rfl rfl ?_
                  refine J_get hK fo_RX5_9 dX5_prepare_75 rfl 0 0 rfl rfl rfl ?_
                  refine J_aload_n hK dX5_prepare_78 rfl 0 rfl rfl ?_
                  refine J_get hK fo_RX5_52 dX5_prepare_79 rfl 0 0 rfl rfl rfl ?_
                  refine J_aload_n hK dX5_prepare_82 rfl 1 rfl rfl ?_
                  refine J_iload_n hK dX5_prepare_83 rfl 3 rfl rfl ?_
                  refine J_iconst (v := 0) hK dX5_prepare_84 rfl (by decide) ?_
                  obtain ⟨v29, e30, hs16⟩ := bs hs16
                  refine J_callV (m' := 2) (ce' := 0) (sl' := 0) (gr := [gWy d h0 z18 z19 z20 z21 f1 x0_away x0_steps x0_nodes x0_stepCount x0_open x0_openCount x0_seen z22 (-1)]) (gs' := fun _ => [gWy d h0 z18 z19 z20 z21 f1 x0_away x0_steps x0_nodes x0_stepCount x0_open x0_openCount x0_seen z22 (-1), gLd d h1 x1_lineCount x1_goodsCount x1_workCount x1_years x1_lines x1_goods x1_works x1_change x1_coin x1_knownFree x1_isKnown]) (st' := fun _ => [.int v29, .int z22, .ref (h0 1)]) (st := [.int z22, .ref (h0 1)]) hK dX5_prepare_85 cv_RX5_58 iv_yX1_ofLine (As := [.int z3, .int (0)]) (kX1_ofLine _ d h1 x1_lineCount x1_goodsCount x1_workCount x1_years x1_lines x1_goods x1_works x1_change x1_coin x1_knownFree x1_isKnown z3 (0) e30) rfl rfl (Nat.le_of_ble_eq_true rfl) (by decide) 1 0 rfl rfl rfl [1] [0] rfl rfl rfl rfl [0, 1] rfl (fun _ => rfl) (fun _ => rfl) rfl rfl rfl (fun _ => rfl) (fun _ => ?_)
                  refine J_iconst (v := 3) hK dX5_prepare_88 rfl (by decide) ?_
                  refine J_imul hK dX5_prepare_89 rfl ?_
                  refine J_iload hK dX5_prepare_90 rfl 5 rfl ?_
                  refine J_iadd hK dX5_prepare_92 rfl ?_
                  obtain ⟨f31, ef31, hs16⟩ := bs hs16
                  refine J_iast (g' := gWy d h0 f31 z19 z20 z21 f1 x0_away x0_steps x0_nodes x0_stepCount x0_open x0_openCount x0_seen z22 (-1)) (gs' := [gWy d h0 f31 z19 z20 z21 f1 x0_away x0_steps x0_nodes x0_stepCount x0_open x0_openCount x0_seen z22 (-1), gLd d h1 x1_lineCount x1_goodsCount x1_workCount x1_years x1_lines x1_goods x1_works x1_change x1_coin x1_knownFree x1_isKnown]) hK dX5_prepare_93 rfl 0 1 rfl rfl ef31 rfl rfl ?_
                  refine J_aload_n hK dX5_prepare_94 rfl 0 rfl rfl ?_
                  refine J_get hK fo_RX5_15 dX5_prepare_95 rfl 0 0 rfl rfl rfl ?_
                  refine J_aload_n hK dX5_prepare_98 rfl 0 rfl rfl ?_
                  refine J_get hK fo_RX5_52 dX5_prepare_99 rfl 0 0 rfl rfl rfl ?_
                  refine J_aload_n hK dX5_prepare_102 rfl 1 rfl rfl ?_
                  refine J_iload_n hK dX5_prepare_103 rfl 3 rfl rfl ?_
                  refine J_iconst (v := 1) hK dX5_prepare_104 rfl (by decide) ?_
                  obtain ⟨v32, e33, hs16⟩ := bs hs16
                  refine J_callV (m' := 2) (ce' := 0) (sl' := 0) (gr := [gWy d h0 f31 z19 z20 z21 f1 x0_away x0_steps x0_nodes x0_stepCount x0_open x0_openCount x0_seen z22 (-1)]) (gs' := fun _ => [gWy d h0 f31 z19 z20 z21 f1 x0_away x0_steps x0_nodes x0_stepCount x0_open x0_openCount x0_seen z22 (-1), gLd d h1 x1_lineCount x1_goodsCount x1_workCount x1_years x1_lines x1_goods x1_works x1_change x1_coin x1_knownFree x1_isKnown]) (st' := fun _ => [.int v32, .int z22, .ref (h0 2)]) (st := [.int z22, .ref (h0 2)]) hK dX5_prepare_105 cv_RX5_58 iv_yX1_ofLine (As := [.int z3, .int (1)]) (kX1_ofLine _ d h1 x1_lineCount x1_goodsCount x1_workCount x1_years x1_lines x1_goods x1_works x1_change x1_coin x1_knownFree x1_isKnown z3 (1) e33) rfl rfl (Nat.le_of_ble_eq_true rfl) (by decide) 1 0 rfl rfl rfl [1] [0] rfl rfl rfl rfl [0, 1] rfl (fun _ => rfl) (fun _ => rfl) rfl rfl rfl (fun _ => rfl) (fun _ => ?_)
                  refine J_iconst (v := 3) hK dX5_prepare_108 rfl (by decide) ?_
                  refine J_imul hK dX5_prepare_109 rfl ?_
                  refine J_iload hK dX5_prepare_110 rfl 5 rfl ?_
                  refine J_iadd hK dX5_prepare_112 rfl ?_
                  obtain ⟨f34, ef34, hs16⟩ := bs hs16
                  refine J_iast (g' := gWy d h0 f31 f34 z20 z21 f1 x0_away x0_steps x0_nodes x0_stepCount x0_open x0_openCount x0_seen z22 (-1)) (gs' := [gWy d h0 f31 f34 z20 z21 f1 x0_away x0_steps x0_nodes x0_stepCount x0_open x0_openCount x0_seen z22 (-1), gLd d h1 x1_lineCount x1_goodsCount x1_workCount x1_years x1_lines x1_goods x1_works x1_change x1_coin x1_knownFree x1_isKnown]) hK dX5_prepare_113 rfl 0 2 rfl rfl ef34 rfl rfl ?_
                  refine J_aload_n hK dX5_prepare_114 rfl 0 rfl rfl ?_
                  refine J_get hK fo_RX5_18 dX5_prepare_115 rfl 0 0 rfl rfl rfl ?_
                  refine J_aload_n hK dX5_prepare_118 rfl 0 rfl rfl ?_
                  refine J_get hK fo_RX5_52 dX5_prepare_119 rfl 0 0 rfl rfl rfl ?_
                  refine J_aload_n hK dX5_prepare_122 rfl 1 rfl rfl ?_
                  refine J_iload_n hK dX5_prepare_123 rfl 3 rfl rfl ?_
                  refine J_iconst (v := 3) hK dX5_prepare_124 rfl (by decide) ?_
                  obtain ⟨v35, e36, hs16⟩ := bs hs16
                  refine J_callV (m' := 2) (ce' := 0) (sl' := 0) (gr := [gWy d h0 f31 f34 z20 z21 f1 x0_away x0_steps x0_nodes x0_stepCount x0_open x0_openCount x0_seen z22 (-1)]) (gs' := fun _ => [gWy d h0 f31 f34 z20 z21 f1 x0_away x0_steps x0_nodes x0_stepCount x0_open x0_openCount x0_seen z22 (-1), gLd d h1 x1_lineCount x1_goodsCount x1_workCount x1_years x1_lines x1_goods x1_works x1_change x1_coin x1_knownFree x1_isKnown]) (st' := fun _ => [.int v35, .int z22, .ref (h0 3)]) (st := [.int z22, .ref (h0 3)]) hK dX5_prepare_125 cv_RX5_58 iv_yX1_ofLine (As := [.int z3, .int (3)]) (kX1_ofLine _ d h1 x1_lineCount x1_goodsCount x1_workCount x1_years x1_lines x1_goods x1_works x1_change x1_coin x1_knownFree x1_isKnown z3 (3) e36) rfl rfl (Nat.le_of_ble_eq_true rfl) (by decide) 1 0 rfl rfl rfl [1] [0] rfl rfl rfl rfl [0, 1] rfl (fun _ => rfl) (fun _ => rfl) rfl rfl rfl (fun _ => rfl) (fun _ => ?_)
                  refine J_aload_n hK dX5_prepare_128 rfl 1 rfl rfl ?_
                  refine J_get hK fo_RX5_62 dX5_prepare_129 rfl 1 0 rfl rfl rfl ?_
                  refine J_iload hK dX5_prepare_132 rfl 5 rfl ?_
                  obtain ⟨v37, ev37, hs16⟩ := bs hs16
                  refine J_iald hK dX5_prepare_134 rfl 1 5 rfl rfl ev37 ?_
                  refine J_imul hK dX5_prepare_135 rfl ?_
                  obtain ⟨f38, ef38, hs16⟩ := bs hs16
                  refine J_iast (g' := gWy d h0 f31 f34 f38 z21 f1 x0_away x0_steps x0_nodes x0_stepCount x0_open x0_openCount x0_seen z22 (-1)) (gs' := [gWy d h0 f31 f34 f38 z21 f1 x0_away x0_steps x0_nodes x0_stepCount x0_open x0_openCount x0_seen z22 (-1), gLd d h1 x1_lineCount x1_goodsCount x1_workCount x1_years x1_lines x1_goods x1_works x1_change x1_coin x1_knownFree x1_isKnown]) hK dX5_prepare_136 rfl 0 3 rfl rfl ef38 rfl rfl ?_
                  refine J_aload_n hK dX5_prepare_137 rfl 0 rfl rfl ?_
                  refine J_get hK fo_RX5_21 dX5_prepare_138 rfl 0 0 rfl rfl rfl ?_
                  refine J_aload_n hK dX5_prepare_141 rfl 0 rfl rfl ?_
                  refine J_get hK fo_RX5_52 dX5_prepare_142 rfl 0 0 rfl rfl rfl ?_
                  refine J_iload_n hK dX5_prepare_145 rfl 3 rfl rfl ?_
                  obtain ⟨f39, ef39, hs16⟩ := bs hs16
                  refine J_iast (g' := gWy d h0 f31 f34 f38 f39 f1 x0_away x0_steps x0_nodes x0_stepCount x0_open x0_openCount x0_seen z22 (-1)) (gs' := [gWy d h0 f31 f34 f38 f39 f1 x0_away x0_steps x0_nodes x0_stepCount x0_open x0_openCount x0_seen z22 (-1), gLd d h1 x1_lineCount x1_goodsCount x1_workCount x1_years x1_lines x1_goods x1_works x1_change x1_coin x1_knownFree x1_isKnown]) hK dX5_prepare_146 rfl 0 4 rfl rfl ef39 rfl rfl ?_
                  refine J_aload_n hK dX5_prepare_147 rfl 0 rfl rfl ?_
                  refine J_dup hK dX5_prepare_148 rfl rfl ?_
                  refine J_get hK fo_RX5_52 dX5_prepare_149 rfl 0 0 rfl rfl rfl ?_
                  refine J_iconst (v := 1) hK dX5_prepare_152 rfl (by decide) ?_
                  refine J_iadd hK dX5_prepare_153 rfl ?_
                  refine J_put (g' := gWy d h0 f31 f34 f38 f39 f1 x0_away x0_steps x0_nodes x0_stepCount x0_open x0_openCount x0_seen (z22 + 1) (-1)) (gs' := [gWy d h0 f31 f34 f38 f39 f1 x0_away x0_steps x0_nodes x0_stepCount x0_open x0_openCount x0_seen (z22 + 1) (-1), gLd d h1 x1_lineCount x1_goodsCount x1_workCount x1_years x1_lines x1_goods x1_works x1_change x1_coin x1_knownFree x1_isKnown]) hK fp_RX5_52 dX5_prepare_154 rfl 0 0 rfl rfl rfl rfl (Nat.le_of_ble_eq_true rfl) rfl rfl ?_
                  refine J_iinc (L' := [(5, .int (z17 + 1)), (0, .ref (h0 0)), (1, .ref (h1 0)), (2, .int p2), (3, .int z3), (4, .int y15)]) (v := (z17 + 1)) hK dX5_prepare_157 rfl 5 rfl rfl (by decide) rfl ?_
                  refine J_goto hK dX5_prepare_160 (n := 58) rfl ?_
                  exact J_loc [1, 2, 3, 4, 5, 0] rfl (ih16 (z17 + 1) f31 f34 f38 f39 (z22 + 1) (lpc hs16 hr16))
          exact J_loc [2, 3, 4, 5, 1, 0] rfl (lo16 n (0) z4 z5 z6 z7 z8 hl16)
        refine J_if_eq (tg := 52) hK dX5_prepare_40 rfl rfl (fun hc40 => ?_) (fun hc40 => ?_)
        · have hs2 := ip hc40 hs2
          refine J_iconst (v := 0) hK dX5_prepare_52 rfl (by decide) ?_
          exact (j53 (0) hs2)
        · have hs2 := iq hc40 hs2
          refine J_aload_n hK dX5_prepare_43 rfl 1 rfl rfl ?_
          refine J_iload_n hK dX5_prepare_44 rfl 3 rfl rfl ?_
          refine J_iconst (v := 2) hK dX5_prepare_45 rfl (by decide) ?_
          obtain ⟨v40, e41, hs2⟩ := bs hs2
          refine J_callV (m' := 2) (ce' := 0) (sl' := 0) (gr := [gWy d h0 z4 z5 z6 z7 f1 x0_away x0_steps x0_nodes x0_stepCount x0_open x0_openCount x0_seen z8 (-1)]) (gs' := fun _ => [gWy d h0 z4 z5 z6 z7 f1 x0_away x0_steps x0_nodes x0_stepCount x0_open x0_openCount x0_seen z8 (-1), gLd d h1 x1_lineCount x1_goodsCount x1_workCount x1_years x1_lines x1_goods x1_works x1_change x1_coin x1_knownFree x1_isKnown]) (st' := fun _ => [.int v40]) (st := []) hK dX5_prepare_46 cv_RX5_58 iv_yX1_ofLine (As := [.int z3, .int (2)]) (kX1_ofLine _ d h1 x1_lineCount x1_goodsCount x1_workCount x1_years x1_lines x1_goods x1_works x1_change x1_coin x1_knownFree x1_isKnown z3 (2) e41) rfl rfl (Nat.le_of_ble_eq_true rfl) (by decide) 1 0 rfl rfl rfl [1] [0] rfl rfl rfl rfl [0, 1] rfl (fun _ => rfl) (fun _ => rfl) rfl rfl rfl (fun _ => rfl) (fun _ => ?_)
          refine J_goto hK dX5_prepare_49 (n := 53) rfl ?_
          exact (j53 v40 hs2)
  exact J_loc [1, 2, 3, 0] rfl (lo2 n (0) x0_edgeA x0_edgeB x0_edgeCost x0_edgeLine (0) hl2)

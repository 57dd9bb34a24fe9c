section
def fX1_ofWork (X0 : LdT) (p1 : Int32) (p2 : Int32) : Option (Int32) :=
  u11 (fun (x0_lineCount : Int32) (x0_goodsCount : Int32) (x0_workCount : Int32) (x0_years : Int32) (x0_lines : (Nat → Int32)) (x0_goods : (Nat → Int32)) (x0_works : (Nat → Int32)) (x0_change : (Nat → Int32)) (x0_coin : (Nat → Int32)) (x0_knownFree : (Nat → Int32)) (x0_isKnown : Int32) => (rd 35 x0_works ((p1 * 5) + p2)).bind fun v1 => some v1) X0
set_option maxHeartbeats 4000000 in
set_option maxRecDepth 100000 in
theorem kX1_ofWork (l : Launch) (d : DT) (h0 : Nat → Nat) (x0_lineCount : Int32) (x0_goodsCount : Int32) (x0_workCount : Int32) (x0_years : Int32) (x0_lines : (Nat → Int32)) (x0_goods : (Nat → Int32)) (x0_works : (Nat → Int32)) (x0_change : (Nat → Int32)) (x0_coin : (Nat → Int32)) (x0_knownFree : (Nat → Int32)) (x0_isKnown : Int32) (p1 : Int32) (p2 : Int32)  {out : Int32} (hf : fX1_ofWork (x0_lineCount, x0_goodsCount, x0_workCount, x0_years, x0_lines, x0_goods, x0_works, x0_change, x0_coin, x0_knownFree, x0_isKnown) p1 p2 = some out) : Ct l d yX1_ofWork cX1_ofWork 3 (some .int) { frames := 0, cells := 0, slots := 0, locals := 0 } [.ref (h0 0), .int p1, .int p2] [gLd d h0 x0_lineCount x0_goodsCount x0_workCount x0_years x0_lines x0_goods x0_works x0_change x0_coin x0_knownFree x0_isKnown] (fun _ : Unit => (some (.int out), [gLd d h0 x0_lineCount x0_goodsCount x0_workCount x0_years x0_lines x0_goods x0_works x0_change x0_coin x0_knownFree x0_isKnown])) := by
  refine Ct.of (by decide) (Nat.le_of_ble_eq_true rfl) ?_
  intro Φ hl hK hR
  subst hl
  have hK : Ok d Φ RX1 "ofWork" cX1_ofWork 3 (some .int) { frames := 0, cells := 0, slots := 0, locals := 0 } := hK
  unfold fX1_ofWork at hf
  have hf := un11 hf
  show J d Φ 3 [gLd d h0 x0_lineCount x0_goodsCount x0_workCount x0_years x0_lines x0_goods x0_works x0_change x0_coin x0_knownFree x0_isKnown] 0 0 0 [(0, .ref (h0 0)), (1, .int p1), (2, .int p2)] []
  refine J_aload_n hK qd0_58.1 rfl 0 rfl rfl ?_
  refine J_get hK fo_RX1_18 qd0_58.2.1 rfl 0 0 rfl rfl rfl ?_
  refine J_iload_n hK qd0_58.2.2.1 rfl 1 rfl rfl ?_
  refine J_iconst (v := 5) hK qd0_58.2.2.2.1 rfl (by decide) ?_
  refine J_imul hK qd0_58.2.2.2.2.1 rfl ?_
  refine J_iload_n hK qd0_58.2.2.2.2.2.1 rfl 2 rfl rfl ?_
  refine J_iadd hK qd0_58.2.2.2.2.2.2.1 rfl ?_
  obtain ⟨v1, ev1, hf⟩ := bs hf
  refine J_iald hK qd0_58.2.2.2.2.2.2.2.1 rfl 0 3 rfl rfl ev1 ?_
  obtain rfl := Option.some.inj hf
  exact J_iret hK hR qd0_58.2.2.2.2.2.2.2.2.1 () rfl (by decide) (by decide)

def fX1_isDone (X0 : LdT) (p1 : Int32) : Option (Int32) :=
  u11 (fun (x0_lineCount : Int32) (x0_goodsCount : Int32) (x0_workCount : Int32) (x0_years : Int32) (x0_lines : (Nat → Int32)) (x0_goods : (Nat → Int32)) (x0_works : (Nat → Int32)) (x0_change : (Nat → Int32)) (x0_coin : (Nat → Int32)) (x0_knownFree : (Nat → Int32)) (x0_isKnown : Int32) => (fX1_ofWork (x0_lineCount, x0_goodsCount, x0_workCount, x0_years, x0_lines, x0_goods, x0_works, x0_change, x0_coin, x0_knownFree, x0_isKnown) p1 (4)).bind (fun v1 => if v1 = 0 then (some (0)) else (some (1)))) X0
set_option maxHeartbeats 4000000 in
set_option maxRecDepth 100000 in
theorem kX1_isDone (l : Launch) (d : DT) (h0 : Nat → Nat) (x0_lineCount : Int32) (x0_goodsCount : Int32) (x0_workCount : Int32) (x0_years : Int32) (x0_lines : (Nat → Int32)) (x0_goods : (Nat → Int32)) (x0_works : (Nat → Int32)) (x0_change : (Nat → Int32)) (x0_coin : (Nat → Int32)) (x0_knownFree : (Nat → Int32)) (x0_isKnown : Int32) (p1 : Int32)  {out : Int32} (hf : fX1_isDone (x0_lineCount, x0_goodsCount, x0_workCount, x0_years, x0_lines, x0_goods, x0_works, x0_change, x0_coin, x0_knownFree, x0_isKnown) p1 = some out) : Ct l d yX1_isDone cX1_isDone 2 (some .boolean) { frames := 1, cells := 0, slots := 0, locals := 22 } [.ref (h0 0), .int p1] [gLd d h0 x0_lineCount x0_goodsCount x0_workCount x0_years x0_lines x0_goods x0_works x0_change x0_coin x0_knownFree x0_isKnown] (fun _ : Unit => (some (.int out), [gLd d h0 x0_lineCount x0_goodsCount x0_workCount x0_years x0_lines x0_goods x0_works x0_change x0_coin x0_knownFree x0_isKnown])) := by
  refine Ct.of (by decide) (Nat.le_of_ble_eq_true rfl) ?_
  intro Φ hl hK hR
  subst hl
  have hK : Ok d Φ RX1 "isDone" cX1_isDone 2 (some .boolean) { frames := 1, cells := 0, slots := 0, locals := 22 } := hK
  unfold fX1_isDone at hf
  have hf := un11 hf
  show J d Φ 2 [gLd d h0 x0_lineCount x0_goodsCount x0_workCount x0_years x0_lines x0_goods x0_works x0_change x0_coin x0_knownFree x0_isKnown] 0 0 0 [(0, .ref (h0 0)), (1, .int p1)] []
  refine J_aload_n hK qd0_59.1 rfl 0 rfl rfl ?_
  refine J_iload_n hK qd0_59.2.1 rfl 1 rfl rfl ?_
  refine J_iconst (v := 4) hK qd0_59.2.2.1 rfl (by decide) ?_
  obtain ⟨v1, e2, hf⟩ := bs hf
  refine J_callV (m := 1) (m' := 1) (ce' := 0) (sl' := 0) (gr := []) (gs' := fun _ => [gLd d h0 x0_lineCount x0_goodsCount x0_workCount x0_years x0_lines x0_goods x0_works x0_change x0_coin x0_knownFree x0_isKnown]) (st' := fun _ => [.int v1]) (st := []) hK qd0_59.2.2.2.1 cv_RX1_63 iv_yX1_ofWork (As := [.int p1, .int (4)]) (kX1_ofWork _ d h0 x0_lineCount x0_goodsCount x0_workCount x0_years x0_lines x0_goods x0_works x0_change x0_coin x0_knownFree x0_isKnown p1 (4) e2) rfl rfl (Nat.le_of_ble_eq_true rfl) (by decide) 0 0 rfl rfl rfl [0] [] rfl (by decide +kernel) rfl rfl [0] (by decide +kernel) (fun _ => rfl) (fun _ => rfl) rfl rfl rfl (fun _ => rfl) (fun _ => ?_)
  refine J_if_eq (tg := 13) hK qd0_59.2.2.2.2.1 rfl rfl (fun hc6 => ?_) (fun hc6 => ?_)
  · have hf := ip hc6 hf
    refine J_iconst (v := 0) hK qd0_59.2.2.2.2.2.2.2.1 rfl (by decide) ?_
    obtain rfl := Option.some.inj hf
    exact J_zret hK hR qd0_59.2.2.2.2.2.2.2.2.1 () rfl rfl (by decide) (by decide)
  · have hf := iq hc6 hf
    refine J_iconst (v := 1) hK qd0_59.2.2.2.2.2.1 rfl (by decide) ?_
    refine J_goto hK qd0_59.2.2.2.2.2.2.1 (n := 14) rfl ?_
    obtain rfl := Option.some.inj hf
    exact J_zret hK hR qd0_59.2.2.2.2.2.2.2.2.1 () rfl rfl (by decide) (by decide)

def fX1_doneWorks_s4 (x0_lineCount : Int32) (x0_goodsCount : Int32) (x0_workCount : Int32) (x0_years : Int32) (x0_lines : (Nat → Int32)) (x0_goods : (Nat → Int32)) (x0_works : (Nat → Int32)) (x0_change : (Nat → Int32)) (x0_coin : (Nat → Int32)) (x0_knownFree : (Nat → Int32)) (x0_isKnown : Int32) (z2 : Int32) (z3 : Int32) : Option ((Int32 × Int32) ⊕ (Int32)) :=
  if x0_workCount ≤ z3 then (some (.inr z2)) else ((fX1_isDone (x0_lineCount, x0_goodsCount, x0_workCount, x0_years, x0_lines, x0_goods, x0_works, x0_change, x0_coin, x0_knownFree, x0_isKnown) z3).bind (fun v6 => if v6 = 0 then (some (.inl (z2, (z3 + 1)))) else ((some (z2 ||| ((1 : Int32) <<< (z3 &&& 31)))).bind fun t8 => some (.inl (t8, (z3 + 1))))))
def fX1_doneWorks (n : Nat) (X0 : LdT) : Option (Int32) :=
  u11 (fun (x0_lineCount : Int32) (x0_goodsCount : Int32) (x0_workCount : Int32) (x0_years : Int32) (x0_lines : (Nat → Int32)) (x0_goods : (Nat → Int32)) (x0_works : (Nat → Int32)) (x0_change : (Nat → Int32)) (x0_coin : (Nat → Int32)) (x0_knownFree : (Nat → Int32)) (x0_isKnown : Int32) => (lp (u2 (fX1_doneWorks_s4 x0_lineCount x0_goodsCount x0_workCount x0_years x0_lines x0_goods x0_works x0_change x0_coin x0_knownFree x0_isKnown)) n (0, 0)).bind (fun w5 => some w5)) X0
set_option maxHeartbeats 4000000 in
set_option maxRecDepth 100000 in
theorem kX1_doneWorks (l : Launch) (d : DT) (h0 : Nat → Nat) (n : Nat) (x0_lineCount : Int32) (x0_goodsCount : Int32) (x0_workCount : Int32) (x0_years : Int32) (x0_lines : (Nat → Int32)) (x0_goods : (Nat → Int32)) (x0_works : (Nat → Int32)) (x0_change : (Nat → Int32)) (x0_coin : (Nat → Int32)) (x0_knownFree : (Nat → Int32)) (x0_isKnown : Int32)  {out : Int32} (hf : fX1_doneWorks n (x0_lineCount, x0_goodsCount, x0_workCount, x0_years, x0_lines, x0_goods, x0_works, x0_change, x0_coin, x0_knownFree, x0_isKnown) = some out) : Ct l d yX1_doneWorks cX1_doneWorks 3 (some .int) { frames := 2, cells := 0, slots := 0, locals := 43 } [.ref (h0 0)] [gLd d h0 x0_lineCount x0_goodsCount x0_workCount x0_years x0_lines x0_goods x0_works x0_change x0_coin x0_knownFree x0_isKnown] (fun _ : Unit => (some (.int out), [gLd d h0 x0_lineCount x0_goodsCount x0_workCount x0_years x0_lines x0_goods x0_works x0_change x0_coin x0_knownFree x0_isKnown])) := by
  refine Ct.of (by decide) (Nat.le_of_ble_eq_true rfl) ?_
  intro Φ hl hK hR
  subst hl
  have hK : Ok d Φ RX1 "doneWorks" cX1_doneWorks 3 (some .int) { frames := 2, cells := 0, slots := 0, locals := 43 } := hK
  unfold fX1_doneWorks at hf
  have hf := un11 hf
  show J d Φ 3 [gLd d h0 x0_lineCount x0_goodsCount x0_workCount x0_years x0_lines x0_goods x0_works x0_change x0_coin x0_knownFree x0_isKnown] 0 0 0 [(0, .ref (h0 0))] []
  refine J_iconst (v := 0) hK qd0_60.1 rfl (by decide) ?_
  refine J_istore_n (L' := [(1, .int (0)), (0, .ref (h0 0))]) hK qd0_60.2.1 rfl rfl (by decide) rfl ?_
  refine J_iconst (v := 0) hK qd0_60.2.2.1 rfl (by decide) ?_
  refine J_istore_n (L' := [(2, .int (0)), (1, .int (0)), (0, .ref (h0 0))]) hK qd0_60.2.2.2.1 rfl rfl (by decide) rfl ?_
  obtain ⟨e4, hl1, hf⟩ := bs hf
  have hx1_32 : ∀ (w5 : Int32), w5 = e4 → J d Φ 3 [gLd d h0 x0_lineCount x0_goodsCount x0_workCount x0_years x0_lines x0_goods x0_works x0_change x0_coin x0_knownFree x0_isKnown] 0 0 32 [(1, .int w5)] [] := by
    intro w5 he
    rw [← he] at hf
    refine J_iload_n hK qd0_61.2.2.2.2.1 rfl 0 rfl rfl ?_
    obtain rfl := Option.some.inj hf
    exact J_iret hK hR qd0_61.2.2.2.2.2.1 () rfl (by decide) (by decide)
  have lo1 : ∀ (k : Nat) (z2 : Int32) (z3 : Int32), lp (u2 (fX1_doneWorks_s4 x0_lineCount x0_goodsCount x0_workCount x0_years x0_lines x0_goods x0_works x0_change x0_coin x0_knownFree x0_isKnown)) k (z2, z3) = some e4 → J d Φ 3 [gLd d h0 x0_lineCount x0_goodsCount x0_workCount x0_years x0_lines x0_goods x0_works x0_change x0_coin x0_knownFree x0_isKnown] 0 0 4 [(0, .ref (h0 0)), (1, .int z2), (2, .int z3)] [] := by
    intro k
    induction k with
    | zero => intro z2 z3 h; cases h
    | succ k ih1 =>
      intro z2 z3 h
      obtain ⟨k2, rr1, hk2, hs1, hr1⟩ := lp_ok h
      cases hk2
      have hs1 : fX1_doneWorks_s4 x0_lineCount x0_goodsCount x0_workCount x0_years x0_lines x0_goods x0_works x0_change x0_coin x0_knownFree x0_isKnown z2 z3 = some rr1 := hs1
      unfold fX1_doneWorks_s4 at hs1
      refine J_iload_n hK qd0_60.2.2.2.2.1 rfl 2 rfl rfl ?_
      refine J_aload_n hK qd0_60.2.2.2.2.2.1 rfl 0 rfl rfl ?_
      refine J_get hK fo_RX1_37 qd0_60.2.2.2.2.2.2.1 rfl 0 0 rfl rfl rfl ?_
      refine J_icmp_ge (tg := 32) hK qd0_60.2.2.2.2.2.2.2.1 rfl rfl (fun hc9 => ?_) (fun hc9 => ?_)
      · have hs1 := ip hc9 hs1
        exact J_loc [1] rfl (hx1_32 z2 (lpx hs1 hr1))
      · have hs1 := iq hc9 hs1
        refine J_aload_n hK qd0_60.2.2.2.2.2.2.2.2.1 rfl 0 rfl rfl ?_
        refine J_iload_n hK qd0_60.2.2.2.2.2.2.2.2.2.1 rfl 2 rfl rfl ?_
        obtain ⟨v6, e7, hs1⟩ := bs hs1
        refine J_callV (m := 1) (m' := 1) (ce' := 0) (sl' := 0) (gr := []) (gs' := fun _ => [gLd d h0 x0_lineCount x0_goodsCount x0_workCount x0_years x0_lines x0_goods x0_works x0_change x0_coin x0_knownFree x0_isKnown]) (st' := fun _ => [.int v6]) (st := []) hK qd0_60.2.2.2.2.2.2.2.2.2.2.1 cv_RX1_67 iv_yX1_isDone (As := [.int z3]) (kX1_isDone _ d h0 x0_lineCount x0_goodsCount x0_workCount x0_years x0_lines x0_goods x0_works x0_change x0_coin x0_knownFree x0_isKnown z3 e7) rfl rfl (Nat.le_of_ble_eq_true rfl) (by decide) 0 0 rfl rfl rfl [0] [] rfl (by decide +kernel) rfl rfl [0] (by decide +kernel) (fun _ => rfl) (fun _ => rfl) rfl rfl rfl (fun _ => rfl) (fun _ => ?_)
        refine J_if_eq (tg := 26) hK qd0_60.2.2.2.2.2.2.2.2.2.2.2.1 rfl rfl (fun hc17 => ?_) (fun hc17 => ?_)
        · have hs1 := ip hc17 hs1
          refine J_iinc (L' := [(2, .int (z3 + 1)), (0, .ref (h0 0)), (1, .int z2)]) (v := (z3 + 1)) hK qd0_61.2.2.1 rfl 2 rfl rfl (by decide) rfl ?_
          refine J_goto hK qd0_61.2.2.2.1 (n := 4) rfl ?_
          exact J_loc [1, 2, 0] rfl (ih1 z2 (z3 + 1) (lpc hs1 hr1))
        · have hs1 := iq hc17 hs1
          refine J_iload_n hK qd0_60.2.2.2.2.2.2.2.2.2.2.2.2.1 rfl 1 rfl rfl ?_
          refine J_iconst (v := 1) hK qd0_60.2.2.2.2.2.2.2.2.2.2.2.2.2.1 rfl (by decide) ?_
          refine J_iload_n hK qd0_60.2.2.2.2.2.2.2.2.2.2.2.2.2.2.1 rfl 2 rfl rfl ?_
          refine J_ishl hK qd0_60.2.2.2.2.2.2.2.2.2.2.2.2.2.2.2.1 rfl ?_
          refine J_ior hK qd0_61.1 rfl ?_
          obtain ⟨t8, et8, hs1⟩ := bs hs1
          refine J_nmi et8 ?_
          refine J_istore_n (L' := [(1, .int t8), (0, .ref (h0 0)), (2, .int z3)]) hK qd0_61.2.1 rfl rfl (by decide) rfl ?_
          refine J_iinc (L' := [(2, .int (z3 + 1)), (1, .int t8), (0, .ref (h0 0))]) (v := (z3 + 1)) hK qd0_61.2.2.1 rfl 2 rfl rfl (by decide) rfl ?_
          refine J_goto hK qd0_61.2.2.2.1 (n := 4) rfl ?_
          exact J_loc [2, 1, 0] rfl (ih1 t8 (z3 + 1) (lpc hs1 hr1))
  exact J_loc [2, 1, 0] rfl (lo1 n (0) (0) hl1)

def fJ7_fill_53178_s5 (m0 : Nat) (p1 : Int32) (z2 : Int32) (z3 : (Nat → Int32)) : Option ((Int32 × (Nat → Int32)) ⊕ ((Nat → Int32))) :=
  if (Int32.ofNat m0) ≤ z2 then (some (.inr z3)) else ((wr m0 z3 z2 p1).bind fun f6 => some (.inl ((z2 + 1), f6)))
def fJ7_fill_53178 (n : Nat) (m0 : Nat) (p0 : (Nat → Int32)) (p1 : Int32) : Option ((Nat → Int32)) :=
  (lp (u2 (fJ7_fill_53178_s5 m0 p1)) n (0, p0)).bind (fun w5 => some w5)
set_option maxHeartbeats 4000000 in
set_option maxRecDepth 100000 in
theorem kJ7_fill_53178 (l : Launch) (d : DT) (b0 : Nat) (n : Nat) (m0 : Nat) (p0 : (Nat → Int32)) (p1 : Int32)  {out : (Nat → Int32)} (hf : fJ7_fill_53178 n m0 p0 p1 = some out) : Ct l d yJ7_fill_53178 cJ7_fill_53178 4 none { frames := 0, cells := 0, slots := 0, locals := 0 } [.ref b0, .int p1] [[cI d b0 m0 p0]] (fun _ : Unit => (none, [[cI d b0 m0 out]])) := by
  refine Ct.of (by decide) (Nat.le_of_ble_eq_true rfl) ?_
  intro Φ hl hK hR
  subst hl
  have hK : Ok d Φ RJ7 "fill" cJ7_fill_53178 4 none { frames := 0, cells := 0, slots := 0, locals := 0 } := hK
  unfold fJ7_fill_53178 at hf
  show J d Φ 4 [[cI d b0 m0 p0]] 0 0 0 [(0, .ref b0), (1, .int p1)] []
  refine J_iconst (v := 0) hK qd5_4.1 rfl (by decide) ?_
  refine J_istore_n (L' := [(2, .int (0)), (0, .ref b0), (1, .int p1)]) hK qd5_4.2.1 rfl rfl (by decide) rfl ?_
  refine J_aload_n hK qd5_4.2.2.1 rfl 1 rfl rfl ?_
  refine J_alen (v := (Int32.ofNat m0)) hK qd5_4.2.2.2.1 rfl 0 0 rfl rfl 0 rfl rfl ?_
  refine J_istore_n (L' := [(3, .int (Int32.ofNat m0)), (2, .int (0)), (0, .ref b0), (1, .int p1)]) hK qd5_4.2.2.2.2.1 rfl rfl (by decide) rfl ?_
  obtain ⟨e4, hl1, hf⟩ := bs hf
  have hx1_20 : ∀ (w5 : (Nat → Int32)), w5 = e4 → J d Φ 4 [[cI d b0 m0 w5]] 0 0 20 [] [] := by
    intro w5 he
    rw [← he] at hf
    obtain rfl := Option.some.inj hf
    exact J_vret hK hR qd5_4.2.2.2.2.2.2.2.2.2.2.2.2.2.2.1 () rfl (by decide) (by decide)
  have lo1 : ∀ (k : Nat) (z2 : Int32) (z3 : (Nat → Int32)), lp (u2 (fJ7_fill_53178_s5 m0 p1)) k (z2, z3) = some e4 → J d Φ 4 [[cI d b0 m0 z3]] 0 0 5 [(0, .ref b0), (1, .int p1), (2, .int z2), (3, .int (Int32.ofNat m0))] [] := by
    intro k
    induction k with
    | zero => intro z2 z3 h; cases h
    | succ k ih1 =>
      intro z2 z3 h
      obtain ⟨k2, rr1, hk2, hs1, hr1⟩ := lp_ok h
      cases hk2
      have hs1 : fJ7_fill_53178_s5 m0 p1 z2 z3 = some rr1 := hs1
      unfold fJ7_fill_53178_s5 at hs1
      refine J_iload_n hK qd5_4.2.2.2.2.2.1 rfl 2 rfl rfl ?_
      refine J_iload_n hK qd5_4.2.2.2.2.2.2.1 rfl 3 rfl rfl ?_
      refine J_icmp_ge (tg := 20) hK qd5_4.2.2.2.2.2.2.2.1 rfl rfl (fun hc7 => ?_) (fun hc7 => ?_)
      · have hs1 := ip hc7 hs1
        exact J_loc [] rfl (hx1_20 z3 (lpx hs1 hr1))
      · have hs1 := iq hc7 hs1
        refine J_aload_n hK qd5_4.2.2.2.2.2.2.2.2.1 rfl 0 rfl rfl ?_
        refine J_iload_n hK qd5_4.2.2.2.2.2.2.2.2.2.1 rfl 2 rfl rfl ?_
        refine J_iload_n hK qd5_4.2.2.2.2.2.2.2.2.2.2.1 rfl 1 rfl rfl ?_
        obtain ⟨f6, ef6, hs1⟩ := bs hs1
        refine J_iast (g' := [cI d b0 m0 f6]) (gs' := [[cI d b0 m0 f6]]) hK qd5_4.2.2.2.2.2.2.2.2.2.2.2.1 rfl 0 0 rfl rfl ef6 rfl rfl ?_
        refine J_iinc (L' := [(2, .int (z2 + 1)), (0, .ref b0), (1, .int p1), (3, .int (Int32.ofNat m0))]) (v := (z2 + 1)) hK qd5_4.2.2.2.2.2.2.2.2.2.2.2.2.1 rfl 2 rfl rfl (by decide) rfl ?_
        refine J_goto hK qd5_4.2.2.2.2.2.2.2.2.2.2.2.2.2.1 (n := 5) rfl ?_
        exact J_loc [1, 2, 0, 3] rfl (ih1 (z2 + 1) f6 (lpc hs1 hr1))
  exact J_loc [2, 3, 1, 0] rfl (lo1 n (0) p0 hl1)

def fX6_within (p0 : Int32) (p1 : Int32) (p2 : Int32) : Option (Int32) :=
  if p0 < p1 then (some (0)) else (if p2 < p0 then (some (0)) else (some (1)))
set_option maxHeartbeats 4000000 in
set_option maxRecDepth 100000 in
theorem kX6_within (l : Launch) (d : DT)  (p0 : Int32) (p1 : Int32) (p2 : Int32)  {out : Int32} (hf : fX6_within p0 p1 p2 = some out) : Ct l d yX6_within cX6_within 3 (some .boolean) { frames := 0, cells := 0, slots := 0, locals := 0 } [.int p0, .int p1, .int p2] [] (fun _ : Unit => (some (.int out), [])) := by
  refine Ct.of (by decide) (Nat.le_of_ble_eq_true rfl) ?_
  intro Φ hl hK hR
  subst hl
  have hK : Ok d Φ RX6 "within" cX6_within 3 (some .boolean) { frames := 0, cells := 0, slots := 0, locals := 0 } := hK
  unfold fX6_within at hf
  show J d Φ 3 [] 0 0 0 [(0, .int p0), (1, .int p1), (2, .int p2)] []
  refine J_iload_n hK qd2_91.1 rfl 0 rfl rfl ?_
  refine J_iload_n hK qd2_91.2.1 rfl 1 rfl rfl ?_
  refine J_icmp_lt (tg := 14) hK qd2_91.2.2.1 rfl rfl (fun hc2 => ?_) (fun hc2 => ?_)
  · have hf := ip hc2 hf
    refine J_iconst (v := 0) hK qd2_91.2.2.2.2.2.2.2.2.1 rfl (by decide) ?_
    obtain rfl := Option.some.inj hf
    exact J_zret hK hR qd2_91.2.2.2.2.2.2.2.2.2.1 () rfl rfl (by decide) (by decide)
  · have hf := iq hc2 hf
    refine J_iload_n hK qd2_91.2.2.2.1 rfl 0 rfl rfl ?_
    refine J_iload_n hK qd2_91.2.2.2.2.1 rfl 2 rfl rfl ?_
    refine J_icmp_gt (tg := 14) hK qd2_91.2.2.2.2.2.1 rfl rfl (fun hc7 => ?_) (fun hc7 => ?_)
    · have hf := ip hc7 hf
      refine J_iconst (v := 0) hK qd2_91.2.2.2.2.2.2.2.2.1 rfl (by decide) ?_
      obtain rfl := Option.some.inj hf
      exact J_zret hK hR qd2_91.2.2.2.2.2.2.2.2.2.1 () rfl rfl (by decide) (by decide)
    · have hf := iq hc7 hf
      refine J_iconst (v := 1) hK qd2_91.2.2.2.2.2.2.1 rfl (by decide) ?_
      refine J_goto hK qd2_91.2.2.2.2.2.2.2.1 (n := 15) rfl ?_
      obtain rfl := Option.some.inj hf
      exact J_zret hK hR qd2_91.2.2.2.2.2.2.2.2.2.1 () rfl rfl (by decide) (by decide)

def fX1_freeKnown_j20 (p1 : Int32) (x1 : (Nat → Int32)) (x2 : Int32) : Option (Int32 × (Nat → Int32) × Int32) :=
  (fX6_within p1 (0) (127)).bind (fun v3 => if v3 = 0 then (some ((-1), x1, x2)) else ((rd 128 x1 p1).bind fun v5 => some (v5, x1, x2)))
def fX1_freeKnown (n : Nat) (X0 : LdT) (p1 : Int32) : Option (Int32 × (Nat → Int32) × Int32) :=
  u11 (fun (x0_lineCount : Int32) (x0_goodsCount : Int32) (x0_workCount : Int32) (x0_years : Int32) (x0_lines : (Nat → Int32)) (x0_goods : (Nat → Int32)) (x0_works : (Nat → Int32)) (x0_change : (Nat → Int32)) (x0_coin : (Nat → Int32)) (x0_knownFree : (Nat → Int32)) (x0_isKnown : Int32) => if x0_isKnown = 0 then ((fJ7_fill_53178 n 128 x0_knownFree (-1)).bind (fun g6 => fX1_freeKnown_j20 p1 g6 (1))) else (fX1_freeKnown_j20 p1 x0_knownFree x0_isKnown)) X0
set_option maxHeartbeats 4000000 in
set_option maxRecDepth 100000 in
theorem kX1_freeKnown (l : Launch) (d : DT) (h0 : Nat → Nat) (n : Nat) (x0_lineCount : Int32) (x0_goodsCount : Int32) (x0_workCount : Int32) (x0_years : Int32) (x0_lines : (Nat → Int32)) (x0_goods : (Nat → Int32)) (x0_works : (Nat → Int32)) (x0_change : (Nat → Int32)) (x0_coin : (Nat → Int32)) (x0_knownFree : (Nat → Int32)) (x0_isKnown : Int32) (p1 : Int32)  {out : Int32 × (Nat → Int32) × Int32} (hf : fX1_freeKnown n (x0_lineCount, x0_goodsCount, x0_workCount, x0_years, x0_lines, x0_goods, x0_works, x0_change, x0_coin, x0_knownFree, x0_isKnown) p1 = some out) : Ct l d yX1_freeKnown cX1_freeKnown 2 (some .int) { frames := 1, cells := 0, slots := 0, locals := 23 } [.ref (h0 0), .int p1] [gLd d h0 x0_lineCount x0_goodsCount x0_workCount x0_years x0_lines x0_goods x0_works x0_change x0_coin x0_knownFree x0_isKnown] (fun _ : Unit => (some (.int out.1), [gLd d h0 x0_lineCount x0_goodsCount x0_workCount x0_years x0_lines x0_goods x0_works x0_change x0_coin (out.2.1) (out.2.2)])) := by
  refine Ct.of (by decide) (Nat.le_of_ble_eq_true rfl) ?_
  intro Φ hl hK hR
  subst hl
  have hK : Ok d Φ RX1 "freeKnown" cX1_freeKnown 2 (some .int) { frames := 1, cells := 0, slots := 0, locals := 23 } := hK
  unfold fX1_freeKnown at hf
  have hf := un11 hf
  show J d Φ 2 [gLd d h0 x0_lineCount x0_goodsCount x0_workCount x0_years x0_lines x0_goods x0_works x0_change x0_coin x0_knownFree x0_isKnown] 0 0 0 [(0, .ref (h0 0)), (1, .int p1)] []
  refine J_aload_n hK qd0_93.1 rfl 0 rfl rfl ?_
  refine J_get hK fo_RX1_43 qd0_93.2.1 rfl 0 0 rfl rfl rfl ?_
  have j20 : ∀ (x1 : (Nat → Int32)) (x2 : Int32), fX1_freeKnown_j20 p1 x1 x2 = some out → J d Φ 2 [gLd d h0 x0_lineCount x0_goodsCount x0_workCount x0_years x0_lines x0_goods x0_works x0_change x0_coin x1 x2] 0 0 20 [(0, .ref (h0 0)), (1, .int p1)] [] := by
    intro x1 x2 hf
    unfold fX1_freeKnown_j20 at hf
    refine J_iload_n hK qd0_93.2.2.2.2.2.2.2.2.2.2.1 rfl 1 rfl rfl ?_
    refine J_iconst (v := 0) hK qd0_93.2.2.2.2.2.2.2.2.2.2.2.1 rfl (by decide) ?_
    refine J_bipush (v := 127) hK qd0_93.2.2.2.2.2.2.2.2.2.2.2.2.1 rfl (by decide) ?_
    obtain ⟨v3, e4, hf⟩ := bs hf
    refine J_callN (m := 1) (m' := 1) (ce' := 0) (sl' := 0) (gr := [gLd d h0 x0_lineCount x0_goodsCount x0_workCount x0_years x0_lines x0_goods x0_works x0_change x0_coin x1 x2]) (gs' := fun _ => [gLd d h0 x0_lineCount x0_goodsCount x0_workCount x0_years x0_lines x0_goods x0_works x0_change x0_coin x1 x2]) (st' := fun _ => [.int v3]) (st := []) hK qd0_93.2.2.2.2.2.2.2.2.2.2.2.2.2.1 cn_RX1_59 (As := [.int p1, .int (0), .int (127)]) (kX6_within _ d p1 (0) (127) e4) rfl rfl (Nat.le_of_ble_eq_true rfl) (by decide) [] [0] rfl (by decide +kernel) rfl rfl [0] (by decide +kernel) (fun _ => rfl) (fun _ => rfl) rfl rfl rfl (fun _ => rfl) (fun _ => ?_)
    refine J_if_eq (tg := 39) hK qd0_93.2.2.2.2.2.2.2.2.2.2.2.2.2.2.1 rfl rfl (fun hc27 => ?_) (fun hc27 => ?_)
    · have hf := ip hc27 hf
      refine J_iconst (v := (-1)) hK qd0_94.2.2.2.2.1 rfl (by decide) ?_
      obtain rfl := Option.some.inj hf
      exact J_iret hK hR qd0_94.2.2.2.2.2.1 () rfl (by decide) (by decide)
    · have hf := iq hc27 hf
      refine J_aload_n hK qd0_93.2.2.2.2.2.2.2.2.2.2.2.2.2.2.2.1 rfl 0 rfl rfl ?_
      refine J_get hK fo_RX1_27 qd0_94.1 rfl 0 0 rfl rfl rfl ?_
      refine J_iload_n hK qd0_94.2.1 rfl 1 rfl rfl ?_
      obtain ⟨v5, ev5, hf⟩ := bs hf
      refine J_iald hK qd0_94.2.2.1 rfl 0 6 rfl rfl ev5 ?_
      refine J_goto hK qd0_94.2.2.2.1 (n := 40) rfl ?_
      obtain rfl := Option.some.inj hf
      exact J_iret hK hR qd0_94.2.2.2.2.2.1 () rfl (by decide) (by decide)
  refine J_if_ne (tg := 20) hK qd0_93.2.2.1 rfl rfl (fun hc4 => ?_) (fun hc4 => ?_)
  · have hf := iq hc4 hf
    exact (j20 x0_knownFree x0_isKnown hf)
  · have hf := ip hc4 hf
    refine J_aload_n hK qd0_93.2.2.2.1 rfl 0 rfl rfl ?_
    refine J_get hK fo_RX1_27 qd0_93.2.2.2.2.1 rfl 0 0 rfl rfl rfl ?_
    refine J_iconst (v := (-1)) hK qd0_93.2.2.2.2.2.1 rfl (by decide) ?_
    refine J_fl (gs2 := [(gLd d h0 x0_lineCount x0_goodsCount x0_workCount x0_years x0_lines x0_goods x0_works x0_change x0_coin x0_knownFree x0_isKnown).take 6, [cI d (h0 6) 128 x0_knownFree], (gLd d h0 x0_lineCount x0_goodsCount x0_workCount x0_years x0_lines x0_goods x0_works x0_change x0_coin x0_knownFree x0_isKnown).drop 7]) rfl ?_
    obtain ⟨g6, e7, hf⟩ := bs hf
    refine J_callS (m := 3) (m' := 3) (ce' := 0) (sl' := 0) (gr := [(gLd d h0 x0_lineCount x0_goodsCount x0_workCount x0_years x0_lines x0_goods x0_works x0_change x0_coin x0_knownFree x0_isKnown).take 6, (gLd d h0 x0_lineCount x0_goodsCount x0_workCount x0_years x0_lines x0_goods x0_works x0_change x0_coin x0_knownFree x0_isKnown).drop 7]) (gs' := fun _ => [(gLd d h0 x0_lineCount x0_goodsCount x0_workCount x0_years x0_lines x0_goods x0_works x0_change x0_coin x0_knownFree x0_isKnown).take 6, [cI d (h0 6) 128 g6], (gLd d h0 x0_lineCount x0_goodsCount x0_workCount x0_years x0_lines x0_goods x0_works x0_change x0_coin x0_knownFree x0_isKnown).drop 7]) (st' := fun _ => []) (st := []) hK qd0_93.2.2.2.2.2.2.1 cv_RX1_47 ws_yJ7_fill_53178 (As := [.ref (h0 6), .int (-1)]) (kJ7_fill_53178 _ d (h0 6) n 128 x0_knownFree (-1) e7) rfl rfl (Nat.le_of_ble_eq_true rfl) (by decide) [1] [0, 2] rfl (by decide +kernel) rfl rfl [0, 2, 1] (by decide +kernel) (fun _ => rfl) (fun _ => rfl) rfl rfl rfl (fun _ => rfl) (fun _ => ?_)
    refine J_fl (gs2 := [gLd d h0 x0_lineCount x0_goodsCount x0_workCount x0_years x0_lines x0_goods x0_works x0_change x0_coin g6 x0_isKnown]) rfl ?_
    refine J_aload_n hK qd0_93.2.2.2.2.2.2.2.1 rfl 0 rfl rfl ?_
    refine J_iconst (v := 1) hK qd0_93.2.2.2.2.2.2.2.2.1 rfl (by decide) ?_
    refine J_put (g' := gLd d h0 x0_lineCount x0_goodsCount x0_workCount x0_years x0_lines x0_goods x0_works x0_change x0_coin g6 (1)) (gs' := [gLd d h0 x0_lineCount x0_goodsCount x0_workCount x0_years x0_lines x0_goods x0_works x0_change x0_coin g6 (1)]) hK fp_RX1_43 qd0_93.2.2.2.2.2.2.2.2.2.1 rfl 0 0 rfl rfl rfl rfl (Nat.le_of_ble_eq_true rfl) rfl rfl ?_
    exact (j20 g6 (1) hf)

def fX1_take (X0 : LdT) (X1 : LdT) : Option ((Int32 × Int32 × Int32 × Int32 × (Nat → Int32) × (Nat → Int32) × (Nat → Int32) × (Nat → Int32) × (Nat → Int32) × Int32)) :=
  u11 (fun (x0_lineCount : Int32) (x0_goodsCount : Int32) (x0_workCount : Int32) (x0_years : Int32) (x0_lines : (Nat → Int32)) (x0_goods : (Nat → Int32)) (x0_works : (Nat → Int32)) (x0_change : (Nat → Int32)) (x0_coin : (Nat → Int32)) (x0_knownFree : (Nat → Int32)) (x0_isKnown : Int32) => u11 (fun (x1_lineCount : Int32) (x1_goodsCount : Int32) (x1_workCount : Int32) (x1_years : Int32) (x1_lines : (Nat → Int32)) (x1_goods : (Nat → Int32)) (x1_works : (Nat → Int32)) (x1_change : (Nat → Int32)) (x1_coin : (Nat → Int32)) (x1_knownFree : (Nat → Int32)) (x1_isKnown : Int32) => (cpy 140 x1_lines 140 x0_lines (0) (0) (x1_lineCount * 7)).bind fun f1 => (cpy 24 x1_goods 24 x0_goods (0) (0) (x1_goodsCount * 3)).bind fun f2 => (cpy 35 x1_works 35 x0_works (0) (0) (x1_workCount * 5)).bind fun f3 => (cpy 12 x1_change 12 x0_change (0) (0) (12)).bind fun f4 => (cpy 3 x1_coin 3 x0_coin (0) (0) (3)).bind fun f5 => some (x1_lineCount, x1_goodsCount, x1_workCount, x1_years, f1, f2, f3, f4, f5, 0)) X1) X0
set_option maxHeartbeats 4000000 in
set_option maxRecDepth 100000 in
theorem kX1_take (l : Launch) (d : DT) (h0 : Nat → Nat) (h1 : Nat → Nat) (x0_lineCount : Int32) (x0_goodsCount : Int32) (x0_workCount : Int32) (x0_years : Int32) (x0_lines : (Nat → Int32)) (x0_goods : (Nat → Int32)) (x0_works : (Nat → Int32)) (x0_change : (Nat → Int32)) (x0_coin : (Nat → Int32)) (x0_knownFree : (Nat → Int32)) (x0_isKnown : Int32) (x1_lineCount : Int32) (x1_goodsCount : Int32) (x1_workCount : Int32) (x1_years : Int32) (x1_lines : (Nat → Int32)) (x1_goods : (Nat → Int32)) (x1_works : (Nat → Int32)) (x1_change : (Nat → Int32)) (x1_coin : (Nat → Int32)) (x1_knownFree : (Nat → Int32)) (x1_isKnown : Int32)  {out : (Int32 × Int32 × Int32 × Int32 × (Nat → Int32) × (Nat → Int32) × (Nat → Int32) × (Nat → Int32) × (Nat → Int32) × Int32)} (hf : fX1_take (x0_lineCount, x0_goodsCount, x0_workCount, x0_years, x0_lines, x0_goods, x0_works, x0_change, x0_coin, x0_knownFree, x0_isKnown) (x1_lineCount, x1_goodsCount, x1_workCount, x1_years, x1_lines, x1_goods, x1_works, x1_change, x1_coin, x1_knownFree, x1_isKnown) = some out) : Ct l d yX1_take cX1_take 2 none { frames := 1, cells := 0, slots := 0, locals := 26 } [.ref (h0 0), .ref (h1 0)] [gLd d h0 x0_lineCount x0_goodsCount x0_workCount x0_years x0_lines x0_goods x0_works x0_change x0_coin x0_knownFree x0_isKnown, gLd d h1 x1_lineCount x1_goodsCount x1_workCount x1_years x1_lines x1_goods x1_works x1_change x1_coin x1_knownFree x1_isKnown] (fun _ : Unit => (none, [gLd d h0 (out.1) (out.2.1) (out.2.2.1) (out.2.2.2.1) (out.2.2.2.2.1) (out.2.2.2.2.2.1) (out.2.2.2.2.2.2.1) (out.2.2.2.2.2.2.2.1) (out.2.2.2.2.2.2.2.2.1) x0_knownFree (out.2.2.2.2.2.2.2.2.2), gLd d h1 x1_lineCount x1_goodsCount x1_workCount x1_years x1_lines x1_goods x1_works x1_change x1_coin x1_knownFree x1_isKnown])) := by
  refine Ct.of (by decide) (Nat.le_of_ble_eq_true rfl) ?_
  intro Φ hl hK hR
  subst hl
  have hK : Ok d Φ RX1 "take" cX1_take 2 none { frames := 1, cells := 0, slots := 0, locals := 26 } := hK
  unfold fX1_take at hf
  have hf := un11 hf
  have hf := un11 hf
  show J d Φ 2 [gLd d h0 x0_lineCount x0_goodsCount x0_workCount x0_years x0_lines x0_goods x0_works x0_change x0_coin x0_knownFree x0_isKnown, gLd d h1 x1_lineCount x1_goodsCount x1_workCount x1_years x1_lines x1_goods x1_works x1_change x1_coin x1_knownFree x1_isKnown] 0 0 0 [(0, .ref (h0 0)), (1, .ref (h1 0))] []
  refine J_aload_n hK qd0_48.1 rfl 0 rfl rfl ?_
  refine J_aload_n hK qd0_48.2.1 rfl 1 rfl rfl ?_
  refine J_get hK fo_RX1_30 qd0_48.2.2.1 rfl 1 0 rfl rfl rfl ?_
  refine J_put (g' := gLd d h0 x1_lineCount x0_goodsCount x0_workCount x0_years x0_lines x0_goods x0_works x0_change x0_coin x0_knownFree x0_isKnown) (gs' := [gLd d h0 x1_lineCount x0_goodsCount x0_workCount x0_years x0_lines x0_goods x0_works x0_change x0_coin x0_knownFree x0_isKnown, gLd d h1 x1_lineCount x1_goodsCount x1_workCount x1_years x1_lines x1_goods x1_works x1_change x1_coin x1_knownFree x1_isKnown]) hK fp_RX1_30 qd0_48.2.2.2.1 rfl 0 0 rfl rfl rfl rfl (Nat.le_of_ble_eq_true rfl) rfl rfl ?_
  refine J_aload_n hK qd0_48.2.2.2.2.1 rfl 0 rfl rfl ?_
  refine J_aload_n hK qd0_48.2.2.2.2.2.1 rfl 1 rfl rfl ?_
  refine J_get hK fo_RX1_34 qd0_48.2.2.2.2.2.2.1 rfl 1 0 rfl rfl rfl ?_
  refine J_put (g' := gLd d h0 x1_lineCount x1_goodsCount x0_workCount x0_years x0_lines x0_goods x0_works x0_change x0_coin x0_knownFree x0_isKnown) (gs' := [gLd d h0 x1_lineCount x1_goodsCount x0_workCount x0_years x0_lines x0_goods x0_works x0_change x0_coin x0_knownFree x0_isKnown, gLd d h1 x1_lineCount x1_goodsCount x1_workCount x1_years x1_lines x1_goods x1_works x1_change x1_coin x1_knownFree x1_isKnown]) hK fp_RX1_34 qd0_48.2.2.2.2.2.2.2.1 rfl 0 0 rfl rfl rfl rfl (Nat.le_of_ble_eq_true rfl) rfl rfl ?_
  refine J_aload_n hK qd0_48.2.2.2.2.2.2.2.2.1 rfl 0 rfl rfl ?_
  refine J_aload_n hK qd0_48.2.2.2.2.2.2.2.2.2.1 rfl 1 rfl rfl ?_
  refine J_get hK fo_RX1_37 qd0_48.2.2.2.2.2.2.2.2.2.2.1 rfl 1 0 rfl rfl rfl ?_
  refine J_put (g' := gLd d h0 x1_lineCount x1_goodsCount x1_workCount x0_years x0_lines x0_goods x0_works x0_change x0_coin x0_knownFree x0_isKnown) (gs' := [gLd d h0 x1_lineCount x1_goodsCount x1_workCount x0_years x0_lines x0_goods x0_works x0_change x0_coin x0_knownFree x0_isKnown, gLd d h1 x1_lineCount x1_goodsCount x1_workCount x1_years x1_lines x1_goods x1_works x1_change x1_coin x1_knownFree x1_isKnown]) hK fp_RX1_37 qd0_48.2.2.2.2.2.2.2.2.2.2.2.1 rfl 0 0 rfl rfl rfl rfl (Nat.le_of_ble_eq_true rfl) rfl rfl ?_
  refine J_aload_n hK qd0_48.2.2.2.2.2.2.2.2.2.2.2.2.1 rfl 0 rfl rfl ?_
  refine J_aload_n hK qd0_48.2.2.2.2.2.2.2.2.2.2.2.2.2.1 rfl 1 rfl rfl ?_
  refine J_get hK fo_RX1_40 qd0_48.2.2.2.2.2.2.2.2.2.2.2.2.2.2.1 rfl 1 0 rfl rfl rfl ?_
  refine J_put (g' := gLd d h0 x1_lineCount x1_goodsCount x1_workCount x1_years x0_lines x0_goods x0_works x0_change x0_coin x0_knownFree x0_isKnown) (gs' := [gLd d h0 x1_lineCount x1_goodsCount x1_workCount x1_years x0_lines x0_goods x0_works x0_change x0_coin x0_knownFree x0_isKnown, gLd d h1 x1_lineCount x1_goodsCount x1_workCount x1_years x1_lines x1_goods x1_works x1_change x1_coin x1_knownFree x1_isKnown]) hK fp_RX1_40 qd0_48.2.2.2.2.2.2.2.2.2.2.2.2.2.2.2.1 rfl 0 0 rfl rfl rfl rfl (Nat.le_of_ble_eq_true rfl) rfl rfl ?_
  refine J_aload_n hK qd0_49.1 rfl 1 rfl rfl ?_
  refine J_get hK fo_RX1_9 qd0_49.2.1 rfl 1 0 rfl rfl rfl ?_
  refine J_iconst (v := 0) hK qd0_49.2.2.1 rfl (by decide) ?_
  refine J_aload_n hK qd0_49.2.2.2.1 rfl 0 rfl rfl ?_
  refine J_get hK fo_RX1_9 qd0_49.2.2.2.2.1 rfl 0 0 rfl rfl rfl ?_
  refine J_iconst (v := 0) hK qd0_49.2.2.2.2.2.1 rfl (by decide) ?_
  refine J_aload_n hK qd0_49.2.2.2.2.2.2.1 rfl 0 rfl rfl ?_
  refine J_get hK fo_RX1_30 qd0_49.2.2.2.2.2.2.2.1 rfl 0 0 rfl rfl rfl ?_
  refine J_bipush (v := 7) hK qd0_49.2.2.2.2.2.2.2.2.1 rfl (by decide) ?_
  refine J_imul hK qd0_49.2.2.2.2.2.2.2.2.2.1 rfl ?_
  obtain ⟨f1, ef1, hf⟩ := bs hf
  refine J_cpyI (g' := gLd d h0 x1_lineCount x1_goodsCount x1_workCount x1_years f1 x0_goods x0_works x0_change x0_coin x0_knownFree x0_isKnown) (gs' := [gLd d h0 x1_lineCount x1_goodsCount x1_workCount x1_years f1 x0_goods x0_works x0_change x0_coin x0_knownFree x0_isKnown, gLd d h1 x1_lineCount x1_goodsCount x1_workCount x1_years x1_lines x1_goods x1_works x1_change x1_coin x1_knownFree x1_isKnown]) hK qd0_49.2.2.2.2.2.2.2.2.2.2.1 rfl cc_RX1_53 1 1 0 1 rfl rfl rfl rfl ef1 (by decide) (Nat.le_of_ble_eq_true rfl) rfl rfl ?_
  refine J_aload_n hK qd0_49.2.2.2.2.2.2.2.2.2.2.2.1 rfl 1 rfl rfl ?_
  refine J_get hK fo_RX1_15 qd0_49.2.2.2.2.2.2.2.2.2.2.2.2.1 rfl 1 0 rfl rfl rfl ?_
  refine J_iconst (v := 0) hK qd0_49.2.2.2.2.2.2.2.2.2.2.2.2.2.1 rfl (by decide) ?_
  refine J_aload_n hK qd0_49.2.2.2.2.2.2.2.2.2.2.2.2.2.2.1 rfl 0 rfl rfl ?_
  refine J_get hK fo_RX1_15 qd0_49.2.2.2.2.2.2.2.2.2.2.2.2.2.2.2.1 rfl 0 0 rfl rfl rfl ?_
  refine J_iconst (v := 0) hK qd0_50.1 rfl (by decide) ?_
  refine J_aload_n hK qd0_50.2.1 rfl 0 rfl rfl ?_
  refine J_get hK fo_RX1_34 qd0_50.2.2.1 rfl 0 0 rfl rfl rfl ?_
  refine J_iconst (v := 3) hK qd0_50.2.2.2.1 rfl (by decide) ?_
  refine J_imul hK qd0_50.2.2.2.2.1 rfl ?_
  obtain ⟨f2, ef2, hf⟩ := bs hf
  refine J_cpyI (g' := gLd d h0 x1_lineCount x1_goodsCount x1_workCount x1_years f1 f2 x0_works x0_change x0_coin x0_knownFree x0_isKnown) (gs' := [gLd d h0 x1_lineCount x1_goodsCount x1_workCount x1_years f1 f2 x0_works x0_change x0_coin x0_knownFree x0_isKnown, gLd d h1 x1_lineCount x1_goodsCount x1_workCount x1_years x1_lines x1_goods x1_works x1_change x1_coin x1_knownFree x1_isKnown]) hK qd0_50.2.2.2.2.2.1 rfl cc_RX1_53 1 2 0 2 rfl rfl rfl rfl ef2 (by decide) (Nat.le_of_ble_eq_true rfl) rfl rfl ?_
  refine J_aload_n hK qd0_50.2.2.2.2.2.2.1 rfl 1 rfl rfl ?_
  refine J_get hK fo_RX1_18 qd0_50.2.2.2.2.2.2.2.1 rfl 1 0 rfl rfl rfl ?_
  refine J_iconst (v := 0) hK qd0_50.2.2.2.2.2.2.2.2.1 rfl (by decide) ?_
  refine J_aload_n hK qd0_50.2.2.2.2.2.2.2.2.2.1 rfl 0 rfl rfl ?_
  refine J_get hK fo_RX1_18 qd0_50.2.2.2.2.2.2.2.2.2.2.1 rfl 0 0 rfl rfl rfl ?_
  refine J_iconst (v := 0) hK qd0_50.2.2.2.2.2.2.2.2.2.2.2.1 rfl (by decide) ?_
  refine J_aload_n hK qd0_50.2.2.2.2.2.2.2.2.2.2.2.2.1 rfl 0 rfl rfl ?_
  refine J_get hK fo_RX1_37 qd0_50.2.2.2.2.2.2.2.2.2.2.2.2.2.1 rfl 0 0 rfl rfl rfl ?_
  refine J_iconst (v := 5) hK qd0_50.2.2.2.2.2.2.2.2.2.2.2.2.2.2.1 rfl (by decide) ?_
  refine J_imul hK qd0_50.2.2.2.2.2.2.2.2.2.2.2.2.2.2.2.1 rfl ?_
  obtain ⟨f3, ef3, hf⟩ := bs hf
  refine J_cpyI (g' := gLd d h0 x1_lineCount x1_goodsCount x1_workCount x1_years f1 f2 f3 x0_change x0_coin x0_knownFree x0_isKnown) (gs' := [gLd d h0 x1_lineCount x1_goodsCount x1_workCount x1_years f1 f2 f3 x0_change x0_coin x0_knownFree x0_isKnown, gLd d h1 x1_lineCount x1_goodsCount x1_workCount x1_years x1_lines x1_goods x1_works x1_change x1_coin x1_knownFree x1_isKnown]) hK qd0_51.1 rfl cc_RX1_53 1 3 0 3 rfl rfl rfl rfl ef3 (by decide) (Nat.le_of_ble_eq_true rfl) rfl rfl ?_
  refine J_aload_n hK qd0_51.2.1 rfl 1 rfl rfl ?_
  refine J_get hK fo_RX1_21 qd0_51.2.2.1 rfl 1 0 rfl rfl rfl ?_
  refine J_iconst (v := 0) hK qd0_51.2.2.2.1 rfl (by decide) ?_
  refine J_aload_n hK qd0_51.2.2.2.2.1 rfl 0 rfl rfl ?_
  refine J_get hK fo_RX1_21 qd0_51.2.2.2.2.2.1 rfl 0 0 rfl rfl rfl ?_
  refine J_iconst (v := 0) hK qd0_51.2.2.2.2.2.2.1 rfl (by decide) ?_
  refine J_bipush (v := 12) hK qd0_51.2.2.2.2.2.2.2.1 rfl (by decide) ?_
  obtain ⟨f4, ef4, hf⟩ := bs hf
  refine J_cpyI (g' := gLd d h0 x1_lineCount x1_goodsCount x1_workCount x1_years f1 f2 f3 f4 x0_coin x0_knownFree x0_isKnown) (gs' := [gLd d h0 x1_lineCount x1_goodsCount x1_workCount x1_years f1 f2 f3 f4 x0_coin x0_knownFree x0_isKnown, gLd d h1 x1_lineCount x1_goodsCount x1_workCount x1_years x1_lines x1_goods x1_works x1_change x1_coin x1_knownFree x1_isKnown]) hK qd0_51.2.2.2.2.2.2.2.2.1 rfl cc_RX1_53 1 4 0 4 rfl rfl rfl rfl ef4 (by decide) (Nat.le_of_ble_eq_true rfl) rfl rfl ?_
  refine J_aload_n hK qd0_51.2.2.2.2.2.2.2.2.2.1 rfl 1 rfl rfl ?_
  refine J_get hK fo_RX1_24 qd0_51.2.2.2.2.2.2.2.2.2.2.1 rfl 1 0 rfl rfl rfl ?_
  refine J_iconst (v := 0) hK qd0_51.2.2.2.2.2.2.2.2.2.2.2.1 rfl (by decide) ?_
  refine J_aload_n hK qd0_51.2.2.2.2.2.2.2.2.2.2.2.2.1 rfl 0 rfl rfl ?_
  refine J_get hK fo_RX1_24 qd0_51.2.2.2.2.2.2.2.2.2.2.2.2.2.1 rfl 0 0 rfl rfl rfl ?_
  refine J_iconst (v := 0) hK qd0_51.2.2.2.2.2.2.2.2.2.2.2.2.2.2.1 rfl (by decide) ?_
  refine J_iconst (v := 3) hK qd0_51.2.2.2.2.2.2.2.2.2.2.2.2.2.2.2.1 rfl (by decide) ?_
  obtain ⟨f5, ef5, hf⟩ := bs hf
  refine J_cpyI (g' := gLd d h0 x1_lineCount x1_goodsCount x1_workCount x1_years f1 f2 f3 f4 f5 x0_knownFree x0_isKnown) (gs' := [gLd d h0 x1_lineCount x1_goodsCount x1_workCount x1_years f1 f2 f3 f4 f5 x0_knownFree x0_isKnown, gLd d h1 x1_lineCount x1_goodsCount x1_workCount x1_years x1_lines x1_goods x1_works x1_change x1_coin x1_knownFree x1_isKnown]) hK qd0_52.1 rfl cc_RX1_53 1 5 0 5 rfl rfl rfl rfl ef5 (by decide) (Nat.le_of_ble_eq_true rfl) rfl rfl ?_
  refine J_aload_n hK qd0_52.2.1 rfl 0 rfl rfl ?_
  refine J_iconst (v := 0) hK qd0_52.2.2.1 rfl (by decide) ?_
  refine J_put (g' := gLd d h0 x1_lineCount x1_goodsCount x1_workCount x1_years f1 f2 f3 f4 f5 x0_knownFree (0)) (gs' := [gLd d h0 x1_lineCount x1_goodsCount x1_workCount x1_years f1 f2 f3 f4 f5 x0_knownFree (0), gLd d h1 x1_lineCount x1_goodsCount x1_workCount x1_years x1_lines x1_goods x1_works x1_change x1_coin x1_knownFree x1_isKnown]) hK fp_RX1_43 qd0_52.2.2.2.1 rfl 0 0 rfl rfl rfl rfl (Nat.le_of_ble_eq_true rfl) rfl rfl ?_
  obtain rfl := Option.some.inj hf
  exact J_vret hK hR qd0_52.2.2.2.2.1 () rfl (by decide) (by decide)

def fX1_hasWork (X0 : LdT) (p1 : Int32) : Option (Int32) :=
  u11 (fun (x0_lineCount : Int32) (x0_goodsCount : Int32) (x0_workCount : Int32) (x0_years : Int32) (x0_lines : (Nat → Int32)) (x0_goods : (Nat → Int32)) (x0_works : (Nat → Int32)) (x0_change : (Nat → Int32)) (x0_coin : (Nat → Int32)) (x0_knownFree : (Nat → Int32)) (x0_isKnown : Int32) => (fX6_within p1 (0) (x0_workCount - 1)).bind (fun v1 => (zb v1).bind fun v3 => some v3)) X0
set_option maxHeartbeats 4000000 in
set_option maxRecDepth 100000 in
theorem kX1_hasWork (l : Launch) (d : DT) (h0 : Nat → Nat) (x0_lineCount : Int32) (x0_goodsCount : Int32) (x0_workCount : Int32) (x0_years : Int32) (x0_lines : (Nat → Int32)) (x0_goods : (Nat → Int32)) (x0_works : (Nat → Int32)) (x0_change : (Nat → Int32)) (x0_coin : (Nat → Int32)) (x0_knownFree : (Nat → Int32)) (x0_isKnown : Int32) (p1 : Int32)  {out : Int32} (hf : fX1_hasWork (x0_lineCount, x0_goodsCount, x0_workCount, x0_years, x0_lines, x0_goods, x0_works, x0_change, x0_coin, x0_knownFree, x0_isKnown) p1 = some out) : Ct l d yX1_hasWork cX1_hasWork 2 (some .boolean) { frames := 1, cells := 0, slots := 0, locals := 22 } [.ref (h0 0), .int p1] [gLd d h0 x0_lineCount x0_goodsCount x0_workCount x0_years x0_lines x0_goods x0_works x0_change x0_coin x0_knownFree x0_isKnown] (fun _ : Unit => (some (.int out), [gLd d h0 x0_lineCount x0_goodsCount x0_workCount x0_years x0_lines x0_goods x0_works x0_change x0_coin x0_knownFree x0_isKnown])) := by
  refine Ct.of (by decide) (Nat.le_of_ble_eq_true rfl) ?_
  intro Φ hl hK hR
  subst hl
  have hK : Ok d Φ RX1 "hasWork" cX1_hasWork 2 (some .boolean) { frames := 1, cells := 0, slots := 0, locals := 22 } := hK
  unfold fX1_hasWork at hf
  have hf := un11 hf
  show J d Φ 2 [gLd d h0 x0_lineCount x0_goodsCount x0_workCount x0_years x0_lines x0_goods x0_works x0_change x0_coin x0_knownFree x0_isKnown] 0 0 0 [(0, .ref (h0 0)), (1, .int p1)] []
  refine J_iload_n hK qd0_55.1 rfl 1 rfl rfl ?_
  refine J_iconst (v := 0) hK qd0_55.2.1 rfl (by decide) ?_
  refine J_aload_n hK qd0_55.2.2.1 rfl 0 rfl rfl ?_
  refine J_get hK fo_RX1_37 qd0_55.2.2.2.1 rfl 0 0 rfl rfl rfl ?_
  refine J_iconst (v := 1) hK qd0_55.2.2.2.2.1 rfl (by decide) ?_
  refine J_isub hK qd0_55.2.2.2.2.2.1 rfl ?_
  obtain ⟨v1, e2, hf⟩ := bs hf
  refine J_callN (m := 1) (m' := 1) (ce' := 0) (sl' := 0) (gr := [gLd d h0 x0_lineCount x0_goodsCount x0_workCount x0_years x0_lines x0_goods x0_works x0_change x0_coin x0_knownFree x0_isKnown]) (gs' := fun _ => [gLd d h0 x0_lineCount x0_goodsCount x0_workCount x0_years x0_lines x0_goods x0_works x0_change x0_coin x0_knownFree x0_isKnown]) (st' := fun _ => [.int v1]) (st := []) hK qd0_55.2.2.2.2.2.2.1 cn_RX1_59 (As := [.int p1, .int (0), .int (x0_workCount - 1)]) (kX6_within _ d p1 (0) (x0_workCount - 1) e2) rfl rfl (Nat.le_of_ble_eq_true rfl) (by decide) [] [0] rfl (by decide +kernel) rfl rfl [0] (by decide +kernel) (fun _ => rfl) (fun _ => rfl) rfl rfl rfl (fun _ => rfl) (fun _ => ?_)
  obtain ⟨v3, ev3, hf⟩ := bs hf
  obtain rfl := Option.some.inj hf
  exact J_zret hK hR qd0_55.2.2.2.2.2.2.2.1 () (zb_ok ev3).2 (by rw [(zb_ok ev3).1]) (by decide) (by decide)

def fX1_addLine (X0 : LdT) (p1 : Int32) (p2 : Int32) (p3 : Int32) (p4 : Int32) (p5 : Int32) (p6 : Int32) : Option (Int32 × (Nat → Int32) × Int32) :=
  u11 (fun (x0_lineCount : Int32) (x0_goodsCount : Int32) (x0_workCount : Int32) (x0_years : Int32) (x0_lines : (Nat → Int32)) (x0_goods : (Nat → Int32)) (x0_works : (Nat → Int32)) (x0_change : (Nat → Int32)) (x0_coin : (Nat → Int32)) (x0_knownFree : (Nat → Int32)) (x0_isKnown : Int32) => if x0_lineCount < 20 then ((wr 140 x0_lines ((x0_lineCount * 7) + 0) p1).bind fun f1 => (wr 140 f1 ((x0_lineCount * 7) + 1) p2).bind fun f2 => (wr 140 f2 ((x0_lineCount * 7) + 2) p3).bind fun f3 => (wr 140 f3 ((x0_lineCount * 7) + 3) p4).bind fun f4 => (wr 140 f4 ((x0_lineCount * 7) + 4) p5).bind fun f5 => (wr 140 f5 ((x0_lineCount * 7) + 5) p6).bind fun f6 => (wr 140 f6 ((x0_lineCount * 7) + 6) (0)).bind fun f7 => some ((x0_lineCount + 1), f7, 0)) else (some (x0_lineCount, x0_lines, x0_isKnown))) X0
set_option maxHeartbeats 4000000 in
set_option maxRecDepth 100000 in
theorem kX1_addLine (l : Launch) (d : DT) (h0 : Nat → Nat) (x0_lineCount : Int32) (x0_goodsCount : Int32) (x0_workCount : Int32) (x0_years : Int32) (x0_lines : (Nat → Int32)) (x0_goods : (Nat → Int32)) (x0_works : (Nat → Int32)) (x0_change : (Nat → Int32)) (x0_coin : (Nat → Int32)) (x0_knownFree : (Nat → Int32)) (x0_isKnown : Int32) (p1 : Int32) (p2 : Int32) (p3 : Int32) (p4 : Int32) (p5 : Int32) (p6 : Int32)  {out : Int32 × (Nat → Int32) × Int32} (hf : fX1_addLine (x0_lineCount, x0_goodsCount, x0_workCount, x0_years, x0_lines, x0_goods, x0_works, x0_change, x0_coin, x0_knownFree, x0_isKnown) p1 p2 p3 p4 p5 p6 = some out) : Ct l d yX1_addLine cX1_addLine 8 none { frames := 0, cells := 0, slots := 0, locals := 0 } [.ref (h0 0), .int p1, .int p2, .int p3, .int p4, .int p5, .int p6] [gLd d h0 x0_lineCount x0_goodsCount x0_workCount x0_years x0_lines x0_goods x0_works x0_change x0_coin x0_knownFree x0_isKnown] (fun _ : Unit => (none, [gLd d h0 (out.1) x0_goodsCount x0_workCount x0_years (out.2.1) x0_goods x0_works x0_change x0_coin x0_knownFree (out.2.2)])) := by
  refine Ct.of (by decide) (Nat.le_of_ble_eq_true rfl) ?_
  intro Φ hl hK hR
  subst hl
  have hK : Ok d Φ RX1 "addLine" cX1_addLine 8 none { frames := 0, cells := 0, slots := 0, locals := 0 } := hK
  unfold fX1_addLine at hf
  have hf := un11 hf
  show J d Φ 8 [gLd d h0 x0_lineCount x0_goodsCount x0_workCount x0_years x0_lines x0_goods x0_works x0_change x0_coin x0_knownFree x0_isKnown] 0 0 0 [(0, .ref (h0 0)), (1, .int p1), (2, .int p2), (3, .int p3), (4, .int p4), (5, .int p5), (6, .int p6)] []
  refine J_aload_n hK qd0_64.1 rfl 0 rfl rfl ?_
  refine J_get hK fo_RX1_30 qd0_64.2.1 rfl 0 0 rfl rfl rfl ?_
  refine J_bipush (v := 20) hK qd0_64.2.2.1 rfl (by decide) ?_
  refine J_icmp_lt (tg := 10) hK qd0_64.2.2.2.1 rfl rfl (fun hc6 => ?_) (fun hc6 => ?_)
  · have hf := ip hc6 hf
    refine J_aload_n hK qd0_64.2.2.2.2.2.1 rfl 0 rfl rfl ?_
    refine J_get hK fo_RX1_30 qd0_64.2.2.2.2.2.2.1 rfl 0 0 rfl rfl rfl ?_
    refine J_bipush (v := 7) hK qd0_64.2.2.2.2.2.2.2.1 rfl (by decide) ?_
    refine J_imul hK qd0_64.2.2.2.2.2.2.2.2.1 rfl ?_
    refine J_istore (L' := [(7, .int (x0_lineCount * 7)), (0, .ref (h0 0)), (1, .int p1), (2, .int p2), (3, .int p3), (4, .int p4), (5, .int p5), (6, .int p6)]) hK qd0_64.2.2.2.2.2.2.2.2.2.1 rfl (by decide) rfl ?_
    refine J_aload_n hK qd0_64.2.2.2.2.2.2.2.2.2.2.1 rfl 1 rfl rfl ?_
    refine J_get hK fo_RX1_9 qd0_64.2.2.2.2.2.2.2.2.2.2.2.1 rfl 0 0 rfl rfl rfl ?_
    refine J_iload hK qd0_64.2.2.2.2.2.2.2.2.2.2.2.2.1 rfl 0 rfl ?_
    refine J_iconst (v := 0) hK qd0_64.2.2.2.2.2.2.2.2.2.2.2.2.2.1 rfl (by decide) ?_
    refine J_iadd hK qd0_64.2.2.2.2.2.2.2.2.2.2.2.2.2.2.1 rfl ?_
    refine J_iload_n hK qd0_64.2.2.2.2.2.2.2.2.2.2.2.2.2.2.2.1 rfl 2 rfl rfl ?_
    obtain ⟨f1, ef1, hf⟩ := bs hf
    refine J_iast (g' := gLd d h0 x0_lineCount x0_goodsCount x0_workCount x0_years f1 x0_goods x0_works x0_change x0_coin x0_knownFree x0_isKnown) (gs' := [gLd d h0 x0_lineCount x0_goodsCount x0_workCount x0_years f1 x0_goods x0_works x0_change x0_coin x0_knownFree x0_isKnown]) hK qd0_65.1 rfl 0 1 rfl rfl ef1 rfl rfl ?_
    refine J_aload_n hK qd0_65.2.1 rfl 1 rfl rfl ?_
    refine J_get hK fo_RX1_9 qd0_65.2.2.1 rfl 0 0 rfl rfl rfl ?_
    refine J_iload hK qd0_65.2.2.2.1 rfl 0 rfl ?_
    refine J_iconst (v := 1) hK qd0_65.2.2.2.2.1 rfl (by decide) ?_
    refine J_iadd hK qd0_65.2.2.2.2.2.1 rfl ?_
    refine J_iload_n hK qd0_65.2.2.2.2.2.2.1 rfl 3 rfl rfl ?_
    obtain ⟨f2, ef2, hf⟩ := bs hf
    refine J_iast (g' := gLd d h0 x0_lineCount x0_goodsCount x0_workCount x0_years f2 x0_goods x0_works x0_change x0_coin x0_knownFree x0_isKnown) (gs' := [gLd d h0 x0_lineCount x0_goodsCount x0_workCount x0_years f2 x0_goods x0_works x0_change x0_coin x0_knownFree x0_isKnown]) hK qd0_65.2.2.2.2.2.2.2.1 rfl 0 1 rfl rfl ef2 rfl rfl ?_
    refine J_aload_n hK qd0_65.2.2.2.2.2.2.2.2.1 rfl 1 rfl rfl ?_
    refine J_get hK fo_RX1_9 qd0_65.2.2.2.2.2.2.2.2.2.1 rfl 0 0 rfl rfl rfl ?_
    refine J_iload hK qd0_65.2.2.2.2.2.2.2.2.2.2.1 rfl 0 rfl ?_
    refine J_iconst (v := 2) hK qd0_65.2.2.2.2.2.2.2.2.2.2.2.1 rfl (by decide) ?_
    refine J_iadd hK qd0_65.2.2.2.2.2.2.2.2.2.2.2.2.1 rfl ?_
    refine J_iload_n hK qd0_65.2.2.2.2.2.2.2.2.2.2.2.2.2.1 rfl 4 rfl rfl ?_
    obtain ⟨f3, ef3, hf⟩ := bs hf
    refine J_iast (g' := gLd d h0 x0_lineCount x0_goodsCount x0_workCount x0_years f3 x0_goods x0_works x0_change x0_coin x0_knownFree x0_isKnown) (gs' := [gLd d h0 x0_lineCount x0_goodsCount x0_workCount x0_years f3 x0_goods x0_works x0_change x0_coin x0_knownFree x0_isKnown]) hK qd0_65.2.2.2.2.2.2.2.2.2.2.2.2.2.2.1 rfl 0 1 rfl rfl ef3 rfl rfl ?_
    refine J_aload_n hK qd0_65.2.2.2.2.2.2.2.2.2.2.2.2.2.2.2.1 rfl 1 rfl rfl ?_
    refine J_get hK fo_RX1_9 qd0_66.1 rfl 0 0 rfl rfl rfl ?_
    refine J_iload hK qd0_66.2.1 rfl 0 rfl ?_
    refine J_iconst (v := 3) hK qd0_66.2.2.1 rfl (by decide) ?_
    refine J_iadd hK qd0_66.2.2.2.1 rfl ?_
    refine J_iload hK qd0_66.2.2.2.2.1 rfl 5 rfl ?_
    obtain ⟨f4, ef4, hf⟩ := bs hf
    refine J_iast (g' := gLd d h0 x0_lineCount x0_goodsCount x0_workCount x0_years f4 x0_goods x0_works x0_change x0_coin x0_knownFree x0_isKnown) (gs' := [gLd d h0 x0_lineCount x0_goodsCount x0_workCount x0_years f4 x0_goods x0_works x0_change x0_coin x0_knownFree x0_isKnown]) hK qd0_66.2.2.2.2.2.1 rfl 0 1 rfl rfl ef4 rfl rfl ?_
    refine J_aload_n hK qd0_66.2.2.2.2.2.2.1 rfl 1 rfl rfl ?_
    refine J_get hK fo_RX1_9 qd0_66.2.2.2.2.2.2.2.1 rfl 0 0 rfl rfl rfl ?_
    refine J_iload hK qd0_66.2.2.2.2.2.2.2.2.1 rfl 0 rfl ?_
    refine J_iconst (v := 4) hK qd0_66.2.2.2.2.2.2.2.2.2.1 rfl (by decide) ?_
    refine J_iadd hK qd0_66.2.2.2.2.2.2.2.2.2.2.1 rfl ?_
    refine J_iload hK qd0_66.2.2.2.2.2.2.2.2.2.2.2.1 rfl 6 rfl ?_
    obtain ⟨f5, ef5, hf⟩ := bs hf
    refine J_iast (g' := gLd d h0 x0_lineCount x0_goodsCount x0_workCount x0_years f5 x0_goods x0_works x0_change x0_coin x0_knownFree x0_isKnown) (gs' := [gLd d h0 x0_lineCount x0_goodsCount x0_workCount x0_years f5 x0_goods x0_works x0_change x0_coin x0_knownFree x0_isKnown]) hK qd0_66.2.2.2.2.2.2.2.2.2.2.2.2.1 rfl 0 1 rfl rfl ef5 rfl rfl ?_
    refine J_aload_n hK qd0_66.2.2.2.2.2.2.2.2.2.2.2.2.2.1 rfl 1 rfl rfl ?_
    refine J_get hK fo_RX1_9 qd0_66.2.2.2.2.2.2.2.2.2.2.2.2.2.2.1 rfl 0 0 rfl rfl rfl ?_
    refine J_iload hK qd0_66.2.2.2.2.2.2.2.2.2.2.2.2.2.2.2.1 rfl 0 rfl ?_
    refine J_iconst (v := 5) hK qd0_67.1 rfl (by decide) ?_
    refine J_iadd hK qd0_67.2.1 rfl ?_
    refine J_iload hK qd0_67.2.2.1 rfl 7 rfl ?_
    obtain ⟨f6, ef6, hf⟩ := bs hf
    refine J_iast (g' := gLd d h0 x0_lineCount x0_goodsCount x0_workCount x0_years f6 x0_goods x0_works x0_change x0_coin x0_knownFree x0_isKnown) (gs' := [gLd d h0 x0_lineCount x0_goodsCount x0_workCount x0_years f6 x0_goods x0_works x0_change x0_coin x0_knownFree x0_isKnown]) hK qd0_67.2.2.2.1 rfl 0 1 rfl rfl ef6 rfl rfl ?_
    refine J_aload_n hK qd0_67.2.2.2.2.1 rfl 1 rfl rfl ?_
    refine J_get hK fo_RX1_9 qd0_67.2.2.2.2.2.1 rfl 0 0 rfl rfl rfl ?_
    refine J_iload hK qd0_67.2.2.2.2.2.2.1 rfl 0 rfl ?_
    refine J_bipush (v := 6) hK qd0_67.2.2.2.2.2.2.2.1 rfl (by decide) ?_
    refine J_iadd hK qd0_67.2.2.2.2.2.2.2.2.1 rfl ?_
    refine J_iconst (v := 0) hK qd0_67.2.2.2.2.2.2.2.2.2.1 rfl (by decide) ?_
    obtain ⟨f7, ef7, hf⟩ := bs hf
    refine J_iast (g' := gLd d h0 x0_lineCount x0_goodsCount x0_workCount x0_years f7 x0_goods x0_works x0_change x0_coin x0_knownFree x0_isKnown) (gs' := [gLd d h0 x0_lineCount x0_goodsCount x0_workCount x0_years f7 x0_goods x0_works x0_change x0_coin x0_knownFree x0_isKnown]) hK qd0_67.2.2.2.2.2.2.2.2.2.2.1 rfl 0 1 rfl rfl ef7 rfl rfl ?_
    refine J_aload_n hK qd0_67.2.2.2.2.2.2.2.2.2.2.2.1 rfl 1 rfl rfl ?_
    refine J_dup hK qd0_67.2.2.2.2.2.2.2.2.2.2.2.2.1 rfl rfl ?_
    refine J_get hK fo_RX1_30 qd0_67.2.2.2.2.2.2.2.2.2.2.2.2.2.1 rfl 0 0 rfl rfl rfl ?_
    refine J_iconst (v := 1) hK qd0_67.2.2.2.2.2.2.2.2.2.2.2.2.2.2.1 rfl (by decide) ?_
    refine J_iadd hK qd0_67.2.2.2.2.2.2.2.2.2.2.2.2.2.2.2.1 rfl ?_
    refine J_put (g' := gLd d h0 (x0_lineCount + 1) x0_goodsCount x0_workCount x0_years f7 x0_goods x0_works x0_change x0_coin x0_knownFree x0_isKnown) (gs' := [gLd d h0 (x0_lineCount + 1) x0_goodsCount x0_workCount x0_years f7 x0_goods x0_works x0_change x0_coin x0_knownFree x0_isKnown]) hK fp_RX1_30 qd0_68.1 rfl 0 0 rfl rfl rfl rfl (Nat.le_of_ble_eq_true rfl) rfl rfl ?_
    refine J_aload_n hK qd0_68.2.1 rfl 1 rfl rfl ?_
    refine J_iconst (v := 0) hK qd0_68.2.2.1 rfl (by decide) ?_
    refine J_put (g' := gLd d h0 (x0_lineCount + 1) x0_goodsCount x0_workCount x0_years f7 x0_goods x0_works x0_change x0_coin x0_knownFree (0)) (gs' := [gLd d h0 (x0_lineCount + 1) x0_goodsCount x0_workCount x0_years f7 x0_goods x0_works x0_change x0_coin x0_knownFree (0)]) hK fp_RX1_43 qd0_68.2.2.2.1 rfl 0 0 rfl rfl rfl rfl (Nat.le_of_ble_eq_true rfl) rfl rfl ?_
    obtain rfl := Option.some.inj hf
    exact J_vret hK hR qd0_68.2.2.2.2.1 () rfl (by decide) (by decide)
  · have hf := iq hc6 hf
    obtain rfl := Option.some.inj hf
    exact J_vret hK hR qd0_64.2.2.2.2.1 () rfl (by decide) (by decide)

def fX1_putChange (X0 : LdT) (p1 : Int32) (p2 : Int32) : Option ((Nat → Int32) × Int32) :=
  u11 (fun (x0_lineCount : Int32) (x0_goodsCount : Int32) (x0_workCount : Int32) (x0_years : Int32) (x0_lines : (Nat → Int32)) (x0_goods : (Nat → Int32)) (x0_works : (Nat → Int32)) (x0_change : (Nat → Int32)) (x0_coin : (Nat → Int32)) (x0_knownFree : (Nat → Int32)) (x0_isKnown : Int32) => if p1 < 0 then (some (x0_change, x0_isKnown)) else (if 12 ≤ p1 then (some (x0_change, x0_isKnown)) else ((wr 12 x0_change p1 p2).bind fun f1 => some (f1, 0)))) X0
set_option maxHeartbeats 4000000 in
set_option maxRecDepth 100000 in
theorem kX1_putChange (l : Launch) (d : DT) (h0 : Nat → Nat) (x0_lineCount : Int32) (x0_goodsCount : Int32) (x0_workCount : Int32) (x0_years : Int32) (x0_lines : (Nat → Int32)) (x0_goods : (Nat → Int32)) (x0_works : (Nat → Int32)) (x0_change : (Nat → Int32)) (x0_coin : (Nat → Int32)) (x0_knownFree : (Nat → Int32)) (x0_isKnown : Int32) (p1 : Int32) (p2 : Int32)  {out : (Nat → Int32) × Int32} (hf : fX1_putChange (x0_lineCount, x0_goodsCount, x0_workCount, x0_years, x0_lines, x0_goods, x0_works, x0_change, x0_coin, x0_knownFree, x0_isKnown) p1 p2 = some out) : Ct l d yX1_putChange cX1_putChange 3 none { frames := 0, cells := 0, slots := 0, locals := 0 } [.ref (h0 0), .int p1, .int p2] [gLd d h0 x0_lineCount x0_goodsCount x0_workCount x0_years x0_lines x0_goods x0_works x0_change x0_coin x0_knownFree x0_isKnown] (fun _ : Unit => (none, [gLd d h0 x0_lineCount x0_goodsCount x0_workCount x0_years x0_lines x0_goods x0_works (out.1) x0_coin x0_knownFree (out.2)])) := by
  refine Ct.of (by decide) (Nat.le_of_ble_eq_true rfl) ?_
  intro Φ hl hK hR
  subst hl
  have hK : Ok d Φ RX1 "putChange" cX1_putChange 3 none { frames := 0, cells := 0, slots := 0, locals := 0 } := hK
  unfold fX1_putChange at hf
  have hf := un11 hf
  show J d Φ 3 [gLd d h0 x0_lineCount x0_goodsCount x0_workCount x0_years x0_lines x0_goods x0_works x0_change x0_coin x0_knownFree x0_isKnown] 0 0 0 [(0, .ref (h0 0)), (1, .int p1), (2, .int p2)] []
  refine J_iload_n hK qd0_76.1 rfl 1 rfl rfl ?_
  refine J_if_lt (tg := 22) hK qd0_76.2.1 rfl rfl (fun hc1 => ?_) (fun hc1 => ?_)
  · have hf := ip hc1 hf
    obtain rfl := Option.some.inj hf
    exact J_vret hK hR qd0_76.2.2.2.2.2.2.2.2.2.2.2.2.2.1 () rfl (by decide) (by decide)
  · have hf := iq hc1 hf
    refine J_iload_n hK qd0_76.2.2.1 rfl 1 rfl rfl ?_
    refine J_bipush (v := 12) hK qd0_76.2.2.2.1 rfl (by decide) ?_
    refine J_icmp_ge (tg := 22) hK qd0_76.2.2.2.2.1 rfl rfl (fun hc7 => ?_) (fun hc7 => ?_)
    · have hf := ip hc7 hf
      obtain rfl := Option.some.inj hf
      exact J_vret hK hR qd0_76.2.2.2.2.2.2.2.2.2.2.2.2.2.1 () rfl (by decide) (by decide)
    · have hf := iq hc7 hf
      refine J_aload_n hK qd0_76.2.2.2.2.2.1 rfl 0 rfl rfl ?_
      refine J_get hK fo_RX1_21 qd0_76.2.2.2.2.2.2.1 rfl 0 0 rfl rfl rfl ?_
      refine J_iload_n hK qd0_76.2.2.2.2.2.2.2.1 rfl 1 rfl rfl ?_
      refine J_iload_n hK qd0_76.2.2.2.2.2.2.2.2.1 rfl 2 rfl rfl ?_
      obtain ⟨f1, ef1, hf⟩ := bs hf
      refine J_iast (g' := gLd d h0 x0_lineCount x0_goodsCount x0_workCount x0_years x0_lines x0_goods x0_works f1 x0_coin x0_knownFree x0_isKnown) (gs' := [gLd d h0 x0_lineCount x0_goodsCount x0_workCount x0_years x0_lines x0_goods x0_works f1 x0_coin x0_knownFree x0_isKnown]) hK qd0_76.2.2.2.2.2.2.2.2.2.1 rfl 0 4 rfl rfl ef1 rfl rfl ?_
      refine J_aload_n hK qd0_76.2.2.2.2.2.2.2.2.2.2.1 rfl 0 rfl rfl ?_
      refine J_iconst (v := 0) hK qd0_76.2.2.2.2.2.2.2.2.2.2.2.1 rfl (by decide) ?_
      refine J_put (g' := gLd d h0 x0_lineCount x0_goodsCount x0_workCount x0_years x0_lines x0_goods x0_works f1 x0_coin x0_knownFree (0)) (gs' := [gLd d h0 x0_lineCount x0_goodsCount x0_workCount x0_years x0_lines x0_goods x0_works f1 x0_coin x0_knownFree (0)]) hK fp_RX1_43 qd0_76.2.2.2.2.2.2.2.2.2.2.2.2.1 rfl 0 0 rfl rfl rfl rfl (Nat.le_of_ble_eq_true rfl) rfl rfl ?_
      obtain rfl := Option.some.inj hf
      exact J_vret hK hR qd0_76.2.2.2.2.2.2.2.2.2.2.2.2.2.1 () rfl (by decide) (by decide)

def fX1_hasLine (X0 : LdT) (p1 : Int32) : Option (Int32) :=
  u11 (fun (x0_lineCount : Int32) (x0_goodsCount : Int32) (x0_workCount : Int32) (x0_years : Int32) (x0_lines : (Nat → Int32)) (x0_goods : (Nat → Int32)) (x0_works : (Nat → Int32)) (x0_change : (Nat → Int32)) (x0_coin : (Nat → Int32)) (x0_knownFree : (Nat → Int32)) (x0_isKnown : Int32) => (fX6_within p1 (0) (x0_lineCount - 1)).bind (fun v1 => (zb v1).bind fun v3 => some v3)) X0
set_option maxHeartbeats 4000000 in
set_option maxRecDepth 100000 in
theorem kX1_hasLine (l : Launch) (d : DT) (h0 : Nat → Nat) (x0_lineCount : Int32) (x0_goodsCount : Int32) (x0_workCount : Int32) (x0_years : Int32) (x0_lines : (Nat → Int32)) (x0_goods : (Nat → Int32)) (x0_works : (Nat → Int32)) (x0_change : (Nat → Int32)) (x0_coin : (Nat → Int32)) (x0_knownFree : (Nat → Int32)) (x0_isKnown : Int32) (p1 : Int32)  {out : Int32} (hf : fX1_hasLine (x0_lineCount, x0_goodsCount, x0_workCount, x0_years, x0_lines, x0_goods, x0_works, x0_change, x0_coin, x0_knownFree, x0_isKnown) p1 = some out) : Ct l d yX1_hasLine cX1_hasLine 2 (some .boolean) { frames := 1, cells := 0, slots := 0, locals := 22 } [.ref (h0 0), .int p1] [gLd d h0 x0_lineCount x0_goodsCount x0_workCount x0_years x0_lines x0_goods x0_works x0_change x0_coin x0_knownFree x0_isKnown] (fun _ : Unit => (some (.int out), [gLd d h0 x0_lineCount x0_goodsCount x0_workCount x0_years x0_lines x0_goods x0_works x0_change x0_coin x0_knownFree x0_isKnown])) := by
  refine Ct.of (by decide) (Nat.le_of_ble_eq_true rfl) ?_
  intro Φ hl hK hR
  subst hl
  have hK : Ok d Φ RX1 "hasLine" cX1_hasLine 2 (some .boolean) { frames := 1, cells := 0, slots := 0, locals := 22 } := hK
  unfold fX1_hasLine at hf
  have hf := un11 hf
  show J d Φ 2 [gLd d h0 x0_lineCount x0_goodsCount x0_workCount x0_years x0_lines x0_goods x0_works x0_change x0_coin x0_knownFree x0_isKnown] 0 0 0 [(0, .ref (h0 0)), (1, .int p1)] []
  refine J_iload_n hK qd0_53.1 rfl 1 rfl rfl ?_
  refine J_iconst (v := 0) hK qd0_53.2.1 rfl (by decide) ?_
  refine J_aload_n hK qd0_53.2.2.1 rfl 0 rfl rfl ?_
  refine J_get hK fo_RX1_30 qd0_53.2.2.2.1 rfl 0 0 rfl rfl rfl ?_
  refine J_iconst (v := 1) hK qd0_53.2.2.2.2.1 rfl (by decide) ?_
  refine J_isub hK qd0_53.2.2.2.2.2.1 rfl ?_
  obtain ⟨v1, e2, hf⟩ := bs hf
  refine J_callN (m := 1) (m' := 1) (ce' := 0) (sl' := 0) (gr := [gLd d h0 x0_lineCount x0_goodsCount x0_workCount x0_years x0_lines x0_goods x0_works x0_change x0_coin x0_knownFree x0_isKnown]) (gs' := fun _ => [gLd d h0 x0_lineCount x0_goodsCount x0_workCount x0_years x0_lines x0_goods x0_works x0_change x0_coin x0_knownFree x0_isKnown]) (st' := fun _ => [.int v1]) (st := []) hK qd0_53.2.2.2.2.2.2.1 cn_RX1_59 (As := [.int p1, .int (0), .int (x0_lineCount - 1)]) (kX6_within _ d p1 (0) (x0_lineCount - 1) e2) rfl rfl (Nat.le_of_ble_eq_true rfl) (by decide) [] [0] rfl (by decide +kernel) rfl rfl [0] (by decide +kernel) (fun _ => rfl) (fun _ => rfl) rfl rfl rfl (fun _ => rfl) (fun _ => ?_)
  obtain ⟨v3, ev3, hf⟩ := bs hf
  obtain rfl := Option.some.inj hf
  exact J_zret hK hR qd0_53.2.2.2.2.2.2.2.1 () (zb_ok ev3).2 (by rw [(zb_ok ev3).1]) (by decide) (by decide)

def fX1_ofLine (X0 : LdT) (p1 : Int32) (p2 : Int32) : Option (Int32) :=
  u11 (fun (x0_lineCount : Int32) (x0_goodsCount : Int32) (x0_workCount : Int32) (x0_years : Int32) (x0_lines : (Nat → Int32)) (x0_goods : (Nat → Int32)) (x0_works : (Nat → Int32)) (x0_change : (Nat → Int32)) (x0_coin : (Nat → Int32)) (x0_knownFree : (Nat → Int32)) (x0_isKnown : Int32) => (rd 140 x0_lines ((p1 * 7) + p2)).bind fun v1 => some v1) X0
set_option maxHeartbeats 4000000 in
set_option maxRecDepth 100000 in
theorem kX1_ofLine (l : Launch) (d : DT) (h0 : Nat → Nat) (x0_lineCount : Int32) (x0_goodsCount : Int32) (x0_workCount : Int32) (x0_years : Int32) (x0_lines : (Nat → Int32)) (x0_goods : (Nat → Int32)) (x0_works : (Nat → Int32)) (x0_change : (Nat → Int32)) (x0_coin : (Nat → Int32)) (x0_knownFree : (Nat → Int32)) (x0_isKnown : Int32) (p1 : Int32) (p2 : Int32)  {out : Int32} (hf : fX1_ofLine (x0_lineCount, x0_goodsCount, x0_workCount, x0_years, x0_lines, x0_goods, x0_works, x0_change, x0_coin, x0_knownFree, x0_isKnown) p1 p2 = some out) : Ct l d yX1_ofLine cX1_ofLine 3 (some .int) { frames := 0, cells := 0, slots := 0, locals := 0 } [.ref (h0 0), .int p1, .int p2] [gLd d h0 x0_lineCount x0_goodsCount x0_workCount x0_years x0_lines x0_goods x0_works x0_change x0_coin x0_knownFree x0_isKnown] (fun _ : Unit => (some (.int out), [gLd d h0 x0_lineCount x0_goodsCount x0_workCount x0_years x0_lines x0_goods x0_works x0_change x0_coin x0_knownFree x0_isKnown])) := by
  refine Ct.of (by decide) (Nat.le_of_ble_eq_true rfl) ?_
  intro Φ hl hK hR
  subst hl
  have hK : Ok d Φ RX1 "ofLine" cX1_ofLine 3 (some .int) { frames := 0, cells := 0, slots := 0, locals := 0 } := hK
  unfold fX1_ofLine at hf
  have hf := un11 hf
  show J d Φ 3 [gLd d h0 x0_lineCount x0_goodsCount x0_workCount x0_years x0_lines x0_goods x0_works x0_change x0_coin x0_knownFree x0_isKnown] 0 0 0 [(0, .ref (h0 0)), (1, .int p1), (2, .int p2)] []
  refine J_aload_n hK qd0_56.1 rfl 0 rfl rfl ?_
  refine J_get hK fo_RX1_9 qd0_56.2.1 rfl 0 0 rfl rfl rfl ?_
  refine J_iload_n hK qd0_56.2.2.1 rfl 1 rfl rfl ?_
  refine J_bipush (v := 7) hK qd0_56.2.2.2.1 rfl (by decide) ?_
  refine J_imul hK qd0_56.2.2.2.2.1 rfl ?_
  refine J_iload_n hK qd0_56.2.2.2.2.2.1 rfl 2 rfl rfl ?_
  refine J_iadd hK qd0_56.2.2.2.2.2.2.1 rfl ?_
  obtain ⟨v1, ev1, hf⟩ := bs hf
  refine J_iald hK qd0_56.2.2.2.2.2.2.2.1 rfl 0 1 rfl rfl ev1 ?_
  obtain rfl := Option.some.inj hf
  exact J_iret hK hR qd0_56.2.2.2.2.2.2.2.2.1 () rfl (by decide) (by decide)

def fX1_putWidths (X0 : LdT) (p1 : Int32) (p2 : Int32) : Option ((Nat → Int32) × Int32) :=
  u11 (fun (x0_lineCount : Int32) (x0_goodsCount : Int32) (x0_workCount : Int32) (x0_years : Int32) (x0_lines : (Nat → Int32)) (x0_goods : (Nat → Int32)) (x0_works : (Nat → Int32)) (x0_change : (Nat → Int32)) (x0_coin : (Nat → Int32)) (x0_knownFree : (Nat → Int32)) (x0_isKnown : Int32) => if p1 < 0 then (some (x0_lines, x0_isKnown)) else (if x0_lineCount ≤ p1 then (some (x0_lines, x0_isKnown)) else ((wr 140 x0_lines ((p1 * 7) + 2) p2).bind fun f1 => some (f1, 0)))) X0
set_option maxHeartbeats 4000000 in
set_option maxRecDepth 100000 in
theorem kX1_putWidths (l : Launch) (d : DT) (h0 : Nat → Nat) (x0_lineCount : Int32) (x0_goodsCount : Int32) (x0_workCount : Int32) (x0_years : Int32) (x0_lines : (Nat → Int32)) (x0_goods : (Nat → Int32)) (x0_works : (Nat → Int32)) (x0_change : (Nat → Int32)) (x0_coin : (Nat → Int32)) (x0_knownFree : (Nat → Int32)) (x0_isKnown : Int32) (p1 : Int32) (p2 : Int32)  {out : (Nat → Int32) × Int32} (hf : fX1_putWidths (x0_lineCount, x0_goodsCount, x0_workCount, x0_years, x0_lines, x0_goods, x0_works, x0_change, x0_coin, x0_knownFree, x0_isKnown) p1 p2 = some out) : Ct l d yX1_putWidths cX1_putWidths 3 none { frames := 0, cells := 0, slots := 0, locals := 0 } [.ref (h0 0), .int p1, .int p2] [gLd d h0 x0_lineCount x0_goodsCount x0_workCount x0_years x0_lines x0_goods x0_works x0_change x0_coin x0_knownFree x0_isKnown] (fun _ : Unit => (none, [gLd d h0 x0_lineCount x0_goodsCount x0_workCount x0_years (out.1) x0_goods x0_works x0_change x0_coin x0_knownFree (out.2)])) := by
  refine Ct.of (by decide) (Nat.le_of_ble_eq_true rfl) ?_
  intro Φ hl hK hR
  subst hl
  have hK : Ok d Φ RX1 "putWidths" cX1_putWidths 3 none { frames := 0, cells := 0, slots := 0, locals := 0 } := hK
  unfold fX1_putWidths at hf
  have hf := un11 hf
  show J d Φ 3 [gLd d h0 x0_lineCount x0_goodsCount x0_workCount x0_years x0_lines x0_goods x0_works x0_change x0_coin x0_knownFree x0_isKnown] 0 0 0 [(0, .ref (h0 0)), (1, .int p1), (2, .int p2)] []
  refine J_iload_n hK qd0_80.1 rfl 1 rfl rfl ?_
  refine J_if_lt (tg := 29) hK qd0_80.2.1 rfl rfl (fun hc1 => ?_) (fun hc1 => ?_)
  · have hf := ip hc1 hf
    obtain rfl := Option.some.inj hf
    exact J_vret hK hR qd0_81.2.2.1 () rfl (by decide) (by decide)
  · have hf := iq hc1 hf
    refine J_iload_n hK qd0_80.2.2.1 rfl 1 rfl rfl ?_
    refine J_aload_n hK qd0_80.2.2.2.1 rfl 0 rfl rfl ?_
    refine J_get hK fo_RX1_30 qd0_80.2.2.2.2.1 rfl 0 0 rfl rfl rfl ?_
    refine J_icmp_ge (tg := 29) hK qd0_80.2.2.2.2.2.1 rfl rfl (fun hc9 => ?_) (fun hc9 => ?_)
    · have hf := ip hc9 hf
      obtain rfl := Option.some.inj hf
      exact J_vret hK hR qd0_81.2.2.1 () rfl (by decide) (by decide)
    · have hf := iq hc9 hf
      refine J_aload_n hK qd0_80.2.2.2.2.2.2.1 rfl 0 rfl rfl ?_
      refine J_get hK fo_RX1_9 qd0_80.2.2.2.2.2.2.2.1 rfl 0 0 rfl rfl rfl ?_
      refine J_iload_n hK qd0_80.2.2.2.2.2.2.2.2.1 rfl 1 rfl rfl ?_
      refine J_bipush (v := 7) hK qd0_80.2.2.2.2.2.2.2.2.2.1 rfl (by decide) ?_
      refine J_imul hK qd0_80.2.2.2.2.2.2.2.2.2.2.1 rfl ?_
      refine J_iconst (v := 2) hK qd0_80.2.2.2.2.2.2.2.2.2.2.2.1 rfl (by decide) ?_
      refine J_iadd hK qd0_80.2.2.2.2.2.2.2.2.2.2.2.2.1 rfl ?_
      refine J_iload_n hK qd0_80.2.2.2.2.2.2.2.2.2.2.2.2.2.1 rfl 2 rfl rfl ?_
      obtain ⟨f1, ef1, hf⟩ := bs hf
      refine J_iast (g' := gLd d h0 x0_lineCount x0_goodsCount x0_workCount x0_years f1 x0_goods x0_works x0_change x0_coin x0_knownFree x0_isKnown) (gs' := [gLd d h0 x0_lineCount x0_goodsCount x0_workCount x0_years f1 x0_goods x0_works x0_change x0_coin x0_knownFree x0_isKnown]) hK qd0_80.2.2.2.2.2.2.2.2.2.2.2.2.2.2.1 rfl 0 1 rfl rfl ef1 rfl rfl ?_
      refine J_aload_n hK qd0_80.2.2.2.2.2.2.2.2.2.2.2.2.2.2.2.1 rfl 0 rfl rfl ?_
      refine J_iconst (v := 0) hK qd0_81.1 rfl (by decide) ?_
      refine J_put (g' := gLd d h0 x0_lineCount x0_goodsCount x0_workCount x0_years f1 x0_goods x0_works x0_change x0_coin x0_knownFree (0)) (gs' := [gLd d h0 x0_lineCount x0_goodsCount x0_workCount x0_years f1 x0_goods x0_works x0_change x0_coin x0_knownFree (0)]) hK fp_RX1_43 qd0_81.2.1 rfl 0 0 rfl rfl rfl rfl (Nat.le_of_ble_eq_true rfl) rfl rfl ?_
      obtain rfl := Option.some.inj hf
      exact J_vret hK hR qd0_81.2.2.1 () rfl (by decide) (by decide)

def fX1_perform (X0 : LdT) (p1 : Int32) : Option (Int32 × (Nat → Int32) × (Nat → Int32) × Int32) :=
  u11 (fun (x0_lineCount : Int32) (x0_goodsCount : Int32) (x0_workCount : Int32) (x0_years : Int32) (x0_lines : (Nat → Int32)) (x0_goods : (Nat → Int32)) (x0_works : (Nat → Int32)) (x0_change : (Nat → Int32)) (x0_coin : (Nat → Int32)) (x0_knownFree : (Nat → Int32)) (x0_isKnown : Int32) => (fX1_hasWork (x0_lineCount, x0_goodsCount, x0_workCount, x0_years, x0_lines, x0_goods, x0_works, x0_change, x0_coin, x0_knownFree, x0_isKnown) p1).bind (fun v1 => if v1 = 0 then (some (x0_lineCount, x0_lines, x0_change, x0_isKnown)) else ((fX1_ofWork (x0_lineCount, x0_goodsCount, x0_workCount, x0_years, x0_lines, x0_goods, x0_works, x0_change, x0_coin, x0_knownFree, x0_isKnown) p1 (1)).bind (fun v3 => (fX1_ofWork (x0_lineCount, x0_goodsCount, x0_workCount, x0_years, x0_lines, x0_goods, x0_works, x0_change, x0_coin, x0_knownFree, x0_isKnown) p1 (2)).bind (fun v5 => (fX1_ofWork (x0_lineCount, x0_goodsCount, x0_workCount, x0_years, x0_lines, x0_goods, x0_works, x0_change, x0_coin, x0_knownFree, x0_isKnown) p1 (0)).bind (fun v7 => if v7 = 1 then ((fX1_putWidths (x0_lineCount, x0_goodsCount, x0_workCount, x0_years, x0_lines, x0_goods, x0_works, x0_change, x0_coin, x0_knownFree, x0_isKnown) v3 ((1 : Int32) <<< (v5 &&& 31))).bind (u2 fun g9 g10 => some (x0_lineCount, g9, x0_change, g10))) else (if v7 = 2 then ((fX1_hasLine (x0_lineCount, x0_goodsCount, x0_workCount, x0_years, x0_lines, x0_goods, x0_works, x0_change, x0_coin, x0_knownFree, x0_isKnown) v3).bind (fun v12 => if v12 = 0 then (some (x0_lineCount, x0_lines, x0_change, x0_isKnown)) else ((fX1_ofLine (x0_lineCount, x0_goodsCount, x0_workCount, x0_years, x0_lines, x0_goods, x0_works, x0_change, x0_coin, x0_knownFree, x0_isKnown) v3 (2)).bind (fun v14 => (fX1_putWidths (x0_lineCount, x0_goodsCount, x0_workCount, x0_years, x0_lines, x0_goods, x0_works, x0_change, x0_coin, x0_knownFree, x0_isKnown) v3 (v14 ||| ((1 : Int32) <<< (v5 &&& 31)))).bind (u2 fun g16 g17 => some (x0_lineCount, g16, x0_change, g17)))))) else (if v7 = 3 then ((fX1_putChange (x0_lineCount, x0_goodsCount, x0_workCount, x0_years, x0_lines, x0_goods, x0_works, x0_change, x0_coin, x0_knownFree, x0_isKnown) v3 v5).bind (u2 fun g19 g20 => some (x0_lineCount, x0_lines, g19, g20))) else (if v7 = 4 then ((fX1_addLine (x0_lineCount, x0_goodsCount, x0_workCount, x0_years, x0_lines, x0_goods, x0_works, x0_change, x0_coin, x0_knownFree, x0_isKnown) v3 v5 (7) (10) (99) (0)).bind (u3 fun g22 g23 g24 => some (g22, g23, x0_change, g24))) else (if v7 = 5 then ((fX1_addLine (x0_lineCount, x0_goodsCount, x0_workCount, x0_years, x0_lines, x0_goods, x0_works, x0_change, x0_coin, x0_knownFree, x0_isKnown) v3 v5 (7) (10) (198) (0)).bind (u3 fun g26 g27 g28 => some (g26, g27, x0_change, g28))) else (some (x0_lineCount, x0_lines, x0_change, x0_isKnown)))))))))))) X0
set_option maxHeartbeats 4000000 in
set_option maxRecDepth 100000 in
theorem kX1_perform (l : Launch) (d : DT) (h0 : Nat → Nat) (x0_lineCount : Int32) (x0_goodsCount : Int32) (x0_workCount : Int32) (x0_years : Int32) (x0_lines : (Nat → Int32)) (x0_goods : (Nat → Int32)) (x0_works : (Nat → Int32)) (x0_change : (Nat → Int32)) (x0_coin : (Nat → Int32)) (x0_knownFree : (Nat → Int32)) (x0_isKnown : Int32) (p1 : Int32)  {out : Int32 × (Nat → Int32) × (Nat → Int32) × Int32} (hf : fX1_perform (x0_lineCount, x0_goodsCount, x0_workCount, x0_years, x0_lines, x0_goods, x0_works, x0_change, x0_coin, x0_knownFree, x0_isKnown) p1 = some out) : Ct l d yX1_perform cX1_perform 4 none { frames := 2, cells := 0, slots := 0, locals := 43 } [.ref (h0 0), .int p1] [gLd d h0 x0_lineCount x0_goodsCount x0_workCount x0_years x0_lines x0_goods x0_works x0_change x0_coin x0_knownFree x0_isKnown] (fun _ : Unit => (none, [gLd d h0 (out.1) x0_goodsCount x0_workCount x0_years (out.2.1) x0_goods x0_works (out.2.2.1) x0_coin x0_knownFree (out.2.2.2)])) := by
  refine Ct.of (by decide) (Nat.le_of_ble_eq_true rfl) ?_
  intro Φ hl hK hR
  subst hl
  have hK : Ok d Φ RX1 "perform" cX1_perform 4 none { frames := 2, cells := 0, slots := 0, locals := 43 } := hK
  unfold fX1_perform at hf
  have hf := un11 hf
  show J d Φ 4 [gLd d h0 x0_lineCount x0_goodsCount x0_workCount x0_years x0_lines x0_goods x0_works x0_change x0_coin x0_knownFree x0_isKnown] 0 0 0 [(0, .ref (h0 0)), (1, .int p1)] []
  refine J_aload_n hK qd0_86.1 rfl 0 rfl rfl ?_
  refine J_iload_n hK qd0_86.2.1 rfl 1 rfl rfl ?_
  obtain ⟨v1, e2, hf⟩ := bs hf
  refine J_callV (m := 1) (m' := 1) (ce' := 0) (sl' := 0) (gr := []) (gs' := fun _ => [gLd d h0 x0_lineCount x0_goodsCount x0_workCount x0_years x0_lines x0_goods x0_works x0_change x0_coin x0_knownFree x0_isKnown]) (st' := fun _ => [.int v1]) (st := []) hK qd0_86.2.2.1 cv_RX1_85 iv_yX1_hasWork (As := [.int p1]) (kX1_hasWork _ d h0 x0_lineCount x0_goodsCount x0_workCount x0_years x0_lines x0_goods x0_works x0_change x0_coin x0_knownFree x0_isKnown p1 e2) rfl rfl (Nat.le_of_ble_eq_true rfl) (by decide) 0 0 rfl rfl rfl [0] [] rfl (by decide +kernel) rfl rfl [0] (by decide +kernel) (fun _ => rfl) (fun _ => rfl) rfl rfl rfl (fun _ => rfl) (fun _ => ?_)
  refine J_if_ne (tg := 9) hK qd0_86.2.2.2.1 rfl rfl (fun hc5 => ?_) (fun hc5 => ?_)
  · have hf := iq hc5 hf
    refine J_aload_n hK qd0_86.2.2.2.2.2.1 rfl 0 rfl rfl ?_
    refine J_iload_n hK qd0_86.2.2.2.2.2.2.1 rfl 1 rfl rfl ?_
    refine J_iconst (v := 1) hK qd0_86.2.2.2.2.2.2.2.1 rfl (by decide) ?_
    obtain ⟨v3, e4, hf⟩ := bs hf
    refine J_callV (m := 1) (m' := 1) (ce' := 0) (sl' := 0) (gr := []) (gs' := fun _ => [gLd d h0 x0_lineCount x0_goodsCount x0_workCount x0_years x0_lines x0_goods x0_works x0_change x0_coin x0_knownFree x0_isKnown]) (st' := fun _ => [.int v3]) (st := []) hK qd0_86.2.2.2.2.2.2.2.2.1 cv_RX1_63 iv_yX1_ofWork (As := [.int p1, .int (1)]) (kX1_ofWork _ d h0 x0_lineCount x0_goodsCount x0_workCount x0_years x0_lines x0_goods x0_works x0_change x0_coin x0_knownFree x0_isKnown p1 (1) e4) rfl rfl (Nat.le_of_ble_eq_true rfl) (by decide) 0 0 rfl rfl rfl [0] [] rfl (by decide +kernel) rfl rfl [0] (by decide +kernel) (fun _ => rfl) (fun _ => rfl) rfl rfl rfl (fun _ => rfl) (fun _ => ?_)
    refine J_istore_n (L' := [(2, .int v3), (0, .ref (h0 0)), (1, .int p1)]) hK qd0_86.2.2.2.2.2.2.2.2.2.1 rfl rfl (by decide) rfl ?_
    refine J_aload_n hK qd0_86.2.2.2.2.2.2.2.2.2.2.1 rfl 1 rfl rfl ?_
    refine J_iload_n hK qd0_86.2.2.2.2.2.2.2.2.2.2.2.1 rfl 2 rfl rfl ?_
    refine J_iconst (v := 2) hK qd0_86.2.2.2.2.2.2.2.2.2.2.2.2.1 rfl (by decide) ?_
    obtain ⟨v5, e6, hf⟩ := bs hf
    refine J_callV (m := 1) (m' := 1) (ce' := 0) (sl' := 0) (gr := []) (gs' := fun _ => [gLd d h0 x0_lineCount x0_goodsCount x0_workCount x0_years x0_lines x0_goods x0_works x0_change x0_coin x0_knownFree x0_isKnown]) (st' := fun _ => [.int v5]) (st := []) hK qd0_86.2.2.2.2.2.2.2.2.2.2.2.2.2.1 cv_RX1_63 iv_yX1_ofWork (As := [.int p1, .int (2)]) (kX1_ofWork _ d h0 x0_lineCount x0_goodsCount x0_workCount x0_years x0_lines x0_goods x0_works x0_change x0_coin x0_knownFree x0_isKnown p1 (2) e6) rfl rfl (Nat.le_of_ble_eq_true rfl) (by decide) 0 0 rfl rfl rfl [0] [] rfl (by decide +kernel) rfl rfl [0] (by decide +kernel) (fun _ => rfl) (fun _ => rfl) rfl rfl rfl (fun _ => rfl) (fun _ => ?_)
    refine J_istore_n (L' := [(3, .int v5), (2, .int v3), (0, .ref (h0 0)), (1, .int p1)]) hK qd0_86.2.2.2.2.2.2.2.2.2.2.2.2.2.2.1 rfl rfl (by decide) rfl ?_
    refine J_aload_n hK qd0_86.2.2.2.2.2.2.2.2.2.2.2.2.2.2.2.1 rfl 2 rfl rfl ?_
    refine J_iload_n hK qd0_87.1 rfl 3 rfl rfl ?_
    refine J_iconst (v := 0) hK qd0_87.2.1 rfl (by decide) ?_
    obtain ⟨v7, e8, hf⟩ := bs hf
    refine J_callV (m := 1) (m' := 1) (ce' := 0) (sl' := 0) (gr := []) (gs' := fun _ => [gLd d h0 x0_lineCount x0_goodsCount x0_workCount x0_years x0_lines x0_goods x0_works x0_change x0_coin x0_knownFree x0_isKnown]) (st' := fun _ => [.int v7]) (st := []) hK qd0_87.2.2.1 cv_RX1_63 iv_yX1_ofWork (As := [.int p1, .int (0)]) (kX1_ofWork _ d h0 x0_lineCount x0_goodsCount x0_workCount x0_years x0_lines x0_goods x0_works x0_change x0_coin x0_knownFree x0_isKnown p1 (0) e8) rfl rfl (Nat.le_of_ble_eq_true rfl) (by decide) 0 0 rfl rfl rfl [0] [] rfl (by decide +kernel) rfl rfl [0] (by decide +kernel) (fun _ => rfl) (fun _ => rfl) rfl rfl rfl (fun _ => rfl) (fun _ => ?_)
    by_cases hc29_1 : v7 = 1
    · have hf := ip hc29_1 hf
      refine J_swI (tg := 64) hK dX1_perform_29 (by rw [hc29_1]; decide) (by rw [hc29_1]; decide) (by rw [hc29_1]; rfl) rfl ?_
      refine J_aload_n hK qd0_88.1 rfl 2 rfl rfl ?_
      refine J_iload_n hK qd0_88.2.1 rfl 1 rfl rfl ?_
      refine J_iconst (v := 1) hK qd0_88.2.2.1 rfl (by decide) ?_
      refine J_iload_n hK qd0_88.2.2.2.1 rfl 0 rfl rfl ?_
      refine J_ishl hK qd0_88.2.2.2.2.1 rfl ?_
      obtain ⟨⟨g9, g10⟩, e11, hf⟩ := bs hf
      have hf := un2 hf
      refine J_callV (m := 1) (m' := 1) (ce' := 0) (sl' := 0) (gr := []) (gs' := fun _ => [gLd d h0 x0_lineCount x0_goodsCount x0_workCount x0_years g9 x0_goods x0_works x0_change x0_coin x0_knownFree g10]) (st' := fun _ => []) (st := []) hK qd0_88.2.2.2.2.2.1 cv_RX1_88 iv_yX1_putWidths (As := [.int v3, .int ((1 : Int32) <<< (v5 &&& 31))]) (kX1_putWidths _ d h0 x0_lineCount x0_goodsCount x0_workCount x0_years x0_lines x0_goods x0_works x0_change x0_coin x0_knownFree x0_isKnown v3 ((1 : Int32) <<< (v5 &&& 31)) e11) rfl rfl (Nat.le_of_ble_eq_true rfl) (by decide) 0 0 rfl rfl rfl [0] [] rfl (by decide +kernel) rfl rfl [0] (by decide +kernel) (fun _ => rfl) (fun _ => rfl) rfl rfl rfl (fun _ => rfl) (fun _ => ?_)
      refine J_goto hK qd0_88.2.2.2.2.2.2.1 (n := 143) rfl ?_
      obtain rfl := Option.some.inj hf
      exact J_vret hK hR qd0_90.2.2.2.2.2.2.2.2.2.2.2.2.2.2.1 () rfl (by decide) (by decide)
    have hf := iq hc29_1 hf
    by_cases hc29_2 : v7 = 2
    · have hf := ip hc29_2 hf
      refine J_swI (tg := 75) hK dX1_perform_29 (by rw [hc29_2]; decide) (by rw [hc29_2]; decide) (by rw [hc29_2]; rfl) rfl ?_
      refine J_aload_n hK qd0_88.2.2.2.2.2.2.2.1 rfl 2 rfl rfl ?_
      refine J_iload_n hK qd0_88.2.2.2.2.2.2.2.2.1 rfl 1 rfl rfl ?_
      obtain ⟨v12, e13, hf⟩ := bs hf
      refine J_callV (m := 1) (m' := 1) (ce' := 0) (sl' := 0) (gr := []) (gs' := fun _ => [gLd d h0 x0_lineCount x0_goodsCount x0_workCount x0_years x0_lines x0_goods x0_works x0_change x0_coin x0_knownFree x0_isKnown]) (st' := fun _ => [.int v12]) (st := []) hK qd0_88.2.2.2.2.2.2.2.2.2.1 cv_RX1_92 iv_yX1_hasLine (As := [.int v3]) (kX1_hasLine _ d h0 x0_lineCount x0_goodsCount x0_workCount x0_years x0_lines x0_goods x0_works x0_change x0_coin x0_knownFree x0_isKnown v3 e13) rfl rfl (Nat.le_of_ble_eq_true rfl) (by decide) 0 0 rfl rfl rfl [0] [] rfl (by decide +kernel) rfl rfl [0] (by decide +kernel) (fun _ => rfl) (fun _ => rfl) rfl rfl rfl (fun _ => rfl) (fun _ => ?_)
      refine J_if_eq (tg := 143) hK qd0_88.2.2.2.2.2.2.2.2.2.2.1 rfl rfl (fun hc80 => ?_) (fun hc80 => ?_)
      · have hf := ip hc80 hf
        obtain rfl := Option.some.inj hf
        exact J_vret hK hR qd0_90.2.2.2.2.2.2.2.2.2.2.2.2.2.2.1 () rfl (by decide) (by decide)
      · have hf := iq hc80 hf
        refine J_aload_n hK qd0_88.2.2.2.2.2.2.2.2.2.2.2.1 rfl 2 rfl rfl ?_
        refine J_iload_n hK qd0_88.2.2.2.2.2.2.2.2.2.2.2.2.1 rfl 1 rfl rfl ?_
        refine J_aload_n hK qd0_88.2.2.2.2.2.2.2.2.2.2.2.2.2.1 rfl 2 rfl rfl ?_
        refine J_iload_n hK qd0_88.2.2.2.2.2.2.2.2.2.2.2.2.2.2.1 rfl 1 rfl rfl ?_
        refine J_iconst (v := 2) hK qd0_88.2.2.2.2.2.2.2.2.2.2.2.2.2.2.2.1 rfl (by decide) ?_
        obtain ⟨v14, e15, hf⟩ := bs hf
        refine J_callV (m := 1) (m' := 1) (ce' := 0) (sl' := 0) (gr := []) (gs' := fun _ => [gLd d h0 x0_lineCount x0_goodsCount x0_workCount x0_years x0_lines x0_goods x0_works x0_change x0_coin x0_knownFree x0_isKnown]) (st' := fun _ => [.int v14, .int v3, .ref (h0 0)]) (st := [.int v3, .ref (h0 0)]) hK qd0_89.1 cv_RX1_71 iv_yX1_ofLine (As := [.int v3, .int (2)]) (kX1_ofLine _ d h0 x0_lineCount x0_goodsCount x0_workCount x0_years x0_lines x0_goods x0_works x0_change x0_coin x0_knownFree x0_isKnown v3 (2) e15) rfl rfl (Nat.le_of_ble_eq_true rfl) (by decide) 0 0 rfl rfl rfl [0] [] rfl (by decide +kernel) rfl rfl [0] (by decide +kernel) (fun _ => rfl) (fun _ => rfl) rfl rfl rfl (fun _ => rfl) (fun _ => ?_)
        refine J_iconst (v := 1) hK qd0_89.2.1 rfl (by decide) ?_
        refine J_iload_n hK qd0_89.2.2.1 rfl 0 rfl rfl ?_
        refine J_ishl hK qd0_89.2.2.2.1 rfl ?_
        refine J_ior hK qd0_89.2.2.2.2.1 rfl ?_
        obtain ⟨⟨g16, g17⟩, e18, hf⟩ := bs hf
        have hf := un2 hf
        refine J_callV (m := 1) (m' := 1) (ce' := 0) (sl' := 0) (gr := []) (gs' := fun _ => [gLd d h0 x0_lineCount x0_goodsCount x0_workCount x0_years g16 x0_goods x0_works x0_change x0_coin x0_knownFree g17]) (st' := fun _ => []) (st := []) hK qd0_89.2.2.2.2.2.1 cv_RX1_88 iv_yX1_putWidths (As := [.int v3, .int (v14 ||| ((1 : Int32) <<< (v5 &&& 31)))]) (kX1_putWidths _ d h0 x0_lineCount x0_goodsCount x0_workCount x0_years x0_lines x0_goods x0_works x0_change x0_coin x0_knownFree x0_isKnown v3 (v14 ||| ((1 : Int32) <<< (v5 &&& 31))) e18) rfl rfl (Nat.le_of_ble_eq_true rfl) (by decide) 0 0 rfl rfl rfl [0] [] rfl (by decide +kernel) rfl rfl [0] (by decide +kernel) (fun _ => rfl) (fun _ => rfl) rfl rfl rfl (fun _ => rfl) (fun _ => ?_)
        refine J_goto hK qd0_89.2.2.2.2.2.2.1 (n := 143) rfl ?_
        obtain rfl := Option.some.inj hf
        exact J_vret hK hR qd0_90.2.2.2.2.2.2.2.2.2.2.2.2.2.2.1 () rfl (by decide) (by decide)
    have hf := iq hc29_2 hf
    by_cases hc29_3 : v7 = 3
    · have hf := ip hc29_3 hf
      refine J_swI (tg := 101) hK dX1_perform_29 (by rw [hc29_3]; decide) (by rw [hc29_3]; decide) (by rw [hc29_3]; rfl) rfl ?_
      refine J_aload_n hK qd0_89.2.2.2.2.2.2.2.1 rfl 2 rfl rfl ?_
      refine J_iload_n hK qd0_89.2.2.2.2.2.2.2.2.1 rfl 1 rfl rfl ?_
      refine J_iload_n hK qd0_89.2.2.2.2.2.2.2.2.2.1 rfl 0 rfl rfl ?_
      obtain ⟨⟨g19, g20⟩, e21, hf⟩ := bs hf
      have hf := un2 hf
      refine J_callV (m := 1) (m' := 1) (ce' := 0) (sl' := 0) (gr := []) (gs' := fun _ => [gLd d h0 x0_lineCount x0_goodsCount x0_workCount x0_years x0_lines x0_goods x0_works g19 x0_coin x0_knownFree g20]) (st' := fun _ => []) (st := []) hK qd0_89.2.2.2.2.2.2.2.2.2.2.1 cv_RX1_95 iv_yX1_putChange (As := [.int v3, .int v5]) (kX1_putChange _ d h0 x0_lineCount x0_goodsCount x0_workCount x0_years x0_lines x0_goods x0_works x0_change x0_coin x0_knownFree x0_isKnown v3 v5 e21) rfl rfl (Nat.le_of_ble_eq_true rfl) (by decide) 0 0 rfl rfl rfl [0] [] rfl (by decide +kernel) rfl rfl [0] (by decide +kernel) (fun _ => rfl) (fun _ => rfl) rfl rfl rfl (fun _ => rfl) (fun _ => ?_)
      refine J_goto hK qd0_89.2.2.2.2.2.2.2.2.2.2.2.1 (n := 143) rfl ?_
      obtain rfl := Option.some.inj hf
      exact J_vret hK hR qd0_90.2.2.2.2.2.2.2.2.2.2.2.2.2.2.1 () rfl (by decide) (by decide)
    have hf := iq hc29_3 hf
    by_cases hc29_4 : v7 = 4
    · have hf := ip hc29_4 hf
      refine J_swI (tg := 110) hK dX1_perform_29 (by rw [hc29_4]; decide) (by rw [hc29_4]; decide) (by rw [hc29_4]; rfl) rfl ?_
      refine J_aload_n hK qd0_89.2.2.2.2.2.2.2.2.2.2.2.2.1 rfl 2 rfl rfl ?_
      refine J_iload_n hK qd0_89.2.2.2.2.2.2.2.2.2.2.2.2.2.1 rfl 1 rfl rfl ?_
      refine J_iload_n hK qd0_89.2.2.2.2.2.2.2.2.2.2.2.2.2.2.1 rfl 0 rfl rfl ?_
      refine J_bipush (v := 7) hK qd0_89.2.2.2.2.2.2.2.2.2.2.2.2.2.2.2.1 rfl (by decide) ?_
      refine J_bipush (v := 10) hK qd0_90.1 rfl (by decide) ?_
      refine J_bipush (v := 99) hK qd0_90.2.1 rfl (by decide) ?_
      refine J_iconst (v := 0) hK qd0_90.2.2.1 rfl (by decide) ?_
      obtain ⟨⟨g22, g23, g24⟩, e25, hf⟩ := bs hf
      have hf := un3 hf
      refine J_callV (m := 1) (m' := 1) (ce' := 0) (sl' := 0) (gr := []) (gs' := fun _ => [gLd d h0 g22 x0_goodsCount x0_workCount x0_years g23 x0_goods x0_works x0_change x0_coin x0_knownFree g24]) (st' := fun _ => []) (st := []) hK qd0_90.2.2.2.1 cv_RX1_98 iv_yX1_addLine (As := [.int v3, .int v5, .int (7), .int (10), .int (99), .int (0)]) (kX1_addLine _ d h0 x0_lineCount x0_goodsCount x0_workCount x0_years x0_lines x0_goods x0_works x0_change x0_coin x0_knownFree x0_isKnown v3 v5 (7) (10) (99) (0) e25) rfl rfl (Nat.le_of_ble_eq_true rfl) (by decide) 0 0 rfl rfl rfl [0] [] rfl (by decide +kernel) rfl rfl [0] (by decide +kernel) (fun _ => rfl) (fun _ => rfl) rfl rfl rfl (fun _ => rfl) (fun _ => ?_)
      refine J_goto hK qd0_90.2.2.2.2.1 (n := 143) rfl ?_
      obtain rfl := Option.some.inj hf
      exact J_vret hK hR qd0_90.2.2.2.2.2.2.2.2.2.2.2.2.2.2.1 () rfl (by decide) (by decide)
    have hf := iq hc29_4 hf
    by_cases hc29_5 : v7 = 5
    · have hf := ip hc29_5 hf
      refine J_swI (tg := 126) hK dX1_perform_29 (by rw [hc29_5]; decide) (by rw [hc29_5]; decide) (by rw [hc29_5]; rfl) rfl ?_
      refine J_aload_n hK qd0_90.2.2.2.2.2.1 rfl 2 rfl rfl ?_
      refine J_iload_n hK qd0_90.2.2.2.2.2.2.1 rfl 1 rfl rfl ?_
      refine J_iload_n hK qd0_90.2.2.2.2.2.2.2.1 rfl 0 rfl rfl ?_
      refine J_bipush (v := 7) hK qd0_90.2.2.2.2.2.2.2.2.1 rfl (by decide) ?_
      refine J_bipush (v := 10) hK qd0_90.2.2.2.2.2.2.2.2.2.1 rfl (by decide) ?_
      refine J_sipush (v := 198) hK qd0_90.2.2.2.2.2.2.2.2.2.2.1 rfl (by decide) ?_
      refine J_iconst (v := 0) hK qd0_90.2.2.2.2.2.2.2.2.2.2.2.1 rfl (by decide) ?_
      obtain ⟨⟨g26, g27, g28⟩, e29, hf⟩ := bs hf
      have hf := un3 hf
      refine J_callV (m := 1) (m' := 1) (ce' := 0) (sl' := 0) (gr := []) (gs' := fun _ => [gLd d h0 g26 x0_goodsCount x0_workCount x0_years g27 x0_goods x0_works x0_change x0_coin x0_knownFree g28]) (st' := fun _ => []) (st := []) hK qd0_90.2.2.2.2.2.2.2.2.2.2.2.2.1 cv_RX1_98 iv_yX1_addLine (As := [.int v3, .int v5, .int (7), .int (10), .int (198), .int (0)]) (kX1_addLine _ d h0 x0_lineCount x0_goodsCount x0_workCount x0_years x0_lines x0_goods x0_works x0_change x0_coin x0_knownFree x0_isKnown v3 v5 (7) (10) (198) (0) e29) rfl rfl (Nat.le_of_ble_eq_true rfl) (by decide) 0 0 rfl rfl rfl [0] [] rfl (by decide +kernel) rfl rfl [0] (by decide +kernel) (fun _ => rfl) (fun _ => rfl) rfl rfl rfl (fun _ => rfl) (fun _ => ?_)
      refine J_goto hK qd0_90.2.2.2.2.2.2.2.2.2.2.2.2.2.1 (n := 143) rfl ?_
      obtain rfl := Option.some.inj hf
      exact J_vret hK hR qd0_90.2.2.2.2.2.2.2.2.2.2.2.2.2.2.1 () rfl (by decide) (by decide)
    have hf := iq hc29_5 hf
    refine J_swO (tg := 143) hK dX1_perform_29 (by have q1 : ¬ v7.toInt = 1 := fun h => hc29_1 (Int32.toInt_inj.mp (h.trans (by decide))); have q2 : ¬ v7.toInt = 2 := fun h => hc29_2 (Int32.toInt_inj.mp (h.trans (by decide))); have q3 : ¬ v7.toInt = 3 := fun h => hc29_3 (Int32.toInt_inj.mp (h.trans (by decide))); have q4 : ¬ v7.toInt = 4 := fun h => hc29_4 (Int32.toInt_inj.mp (h.trans (by decide))); have q5 : ¬ v7.toInt = 5 := fun h => hc29_5 (Int32.toInt_inj.mp (h.trans (by decide))); omega) rfl ?_
    obtain rfl := Option.some.inj hf
    exact J_vret hK hR qd0_90.2.2.2.2.2.2.2.2.2.2.2.2.2.2.1 () rfl (by decide) (by decide)
  · have hf := ip hc5 hf
    obtain rfl := Option.some.inj hf
    exact J_vret hK hR qd0_86.2.2.2.2.1 () rfl (by decide) (by decide)

def fX1_linesThere_s4 (x0_lineCount : Int32) (x0_goodsCount : Int32) (x0_workCount : Int32) (x0_years : Int32) (x0_lines : (Nat → Int32)) (x0_goods : (Nat → Int32)) (x0_works : (Nat → Int32)) (x0_change : (Nat → Int32)) (x0_coin : (Nat → Int32)) (x0_knownFree : (Nat → Int32)) (x0_isKnown : Int32) (z2 : Int32) (z3 : Int32) : Option ((Int32 × Int32) ⊕ (Int32)) :=
  if x0_lineCount ≤ z3 then (some (.inr z2)) else ((fX1_ofLine (x0_lineCount, x0_goodsCount, x0_workCount, x0_years, x0_lines, x0_goods, x0_works, x0_change, x0_coin, x0_knownFree, x0_isKnown) z3 (6)).bind (fun v6 => if v6 = 0 then ((some (z2 ||| ((1 : Int32) <<< (z3 &&& 31)))).bind fun t8 => some (.inl (t8, (z3 + 1)))) else (some (.inl (z2, (z3 + 1))))))
def fX1_linesThere (n : Nat) (X0 : LdT) : Option (Int32) :=
  u11 (fun (x0_lineCount : Int32) (x0_goodsCount : Int32) (x0_workCount : Int32) (x0_years : Int32) (x0_lines : (Nat → Int32)) (x0_goods : (Nat → Int32)) (x0_works : (Nat → Int32)) (x0_change : (Nat → Int32)) (x0_coin : (Nat → Int32)) (x0_knownFree : (Nat → Int32)) (x0_isKnown : Int32) => (lp (u2 (fX1_linesThere_s4 x0_lineCount x0_goodsCount x0_workCount x0_years x0_lines x0_goods x0_works x0_change x0_coin x0_knownFree x0_isKnown)) n (0, 0)).bind (fun w5 => some w5)) X0
set_option maxHeartbeats 4000000 in
set_option maxRecDepth 100000 in
theorem kX1_linesThere (l : Launch) (d : DT) (h0 : Nat → Nat) (n : Nat) (x0_lineCount : Int32) (x0_goodsCount : Int32) (x0_workCount : Int32) (x0_years : Int32) (x0_lines : (Nat → Int32)) (x0_goods : (Nat → Int32)) (x0_works : (Nat → Int32)) (x0_change : (Nat → Int32)) (x0_coin : (Nat → Int32)) (x0_knownFree : (Nat → Int32)) (x0_isKnown : Int32)  {out : Int32} (hf : fX1_linesThere n (x0_lineCount, x0_goodsCount, x0_workCount, x0_years, x0_lines, x0_goods, x0_works, x0_change, x0_coin, x0_knownFree, x0_isKnown) = some out) : Ct l d yX1_linesThere cX1_linesThere 3 (some .int) { frames := 1, cells := 0, slots := 0, locals := 22 } [.ref (h0 0)] [gLd d h0 x0_lineCount x0_goodsCount x0_workCount x0_years x0_lines x0_goods x0_works x0_change x0_coin x0_knownFree x0_isKnown] (fun _ : Unit => (some (.int out), [gLd d h0 x0_lineCount x0_goodsCount x0_workCount x0_years x0_lines x0_goods x0_works x0_change x0_coin x0_knownFree x0_isKnown])) := by
  refine Ct.of (by decide) (Nat.le_of_ble_eq_true rfl) ?_
  intro Φ hl hK hR
  subst hl
  have hK : Ok d Φ RX1 "linesThere" cX1_linesThere 3 (some .int) { frames := 1, cells := 0, slots := 0, locals := 22 } := hK
  unfold fX1_linesThere at hf
  have hf := un11 hf
  show J d Φ 3 [gLd d h0 x0_lineCount x0_goodsCount x0_workCount x0_years x0_lines x0_goods x0_works x0_change x0_coin x0_knownFree x0_isKnown] 0 0 0 [(0, .ref (h0 0))] []
  refine J_iconst (v := 0) hK qd0_62.1 rfl (by decide) ?_
  refine J_istore_n (L' := [(1, .int (0)), (0, .ref (h0 0))]) hK qd0_62.2.1 rfl rfl (by decide) rfl ?_
  refine J_iconst (v := 0) hK qd0_62.2.2.1 rfl (by decide) ?_
  refine J_istore_n (L' := [(2, .int (0)), (1, .int (0)), (0, .ref (h0 0))]) hK qd0_62.2.2.2.1 rfl rfl (by decide) rfl ?_
  obtain ⟨e4, hl1, hf⟩ := bs hf
  have hx1_34 : ∀ (w5 : Int32), w5 = e4 → J d Φ 3 [gLd d h0 x0_lineCount x0_goodsCount x0_workCount x0_years x0_lines x0_goods x0_works x0_change x0_coin x0_knownFree x0_isKnown] 0 0 34 [(1, .int w5)] [] := by
    intro w5 he
    rw [← he] at hf
    refine J_iload_n hK qd0_63.2.2.2.2.2.1 rfl 0 rfl rfl ?_
    obtain rfl := Option.some.inj hf
    exact J_iret hK hR qd0_63.2.2.2.2.2.2.1 () rfl (by decide) (by decide)
  have lo1 : ∀ (k : Nat) (z2 : Int32) (z3 : Int32), lp (u2 (fX1_linesThere_s4 x0_lineCount x0_goodsCount x0_workCount x0_years x0_lines x0_goods x0_works x0_change x0_coin x0_knownFree x0_isKnown)) k (z2, z3) = some e4 → J d Φ 3 [gLd d h0 x0_lineCount x0_goodsCount x0_workCount x0_years x0_lines x0_goods x0_works x0_change x0_coin x0_knownFree x0_isKnown] 0 0 4 [(0, .ref (h0 0)), (1, .int z2), (2, .int z3)] [] := by
    intro k
    induction k with
    | zero => intro z2 z3 h; cases h
    | succ k ih1 =>
      intro z2 z3 h
      obtain ⟨k2, rr1, hk2, hs1, hr1⟩ := lp_ok h
      cases hk2
      have hs1 : fX1_linesThere_s4 x0_lineCount x0_goodsCount x0_workCount x0_years x0_lines x0_goods x0_works x0_change x0_coin x0_knownFree x0_isKnown z2 z3 = some rr1 := hs1
      unfold fX1_linesThere_s4 at hs1
      refine J_iload_n hK qd0_62.2.2.2.2.1 rfl 2 rfl rfl ?_
      refine J_aload_n hK qd0_62.2.2.2.2.2.1 rfl 0 rfl rfl ?_
      refine J_get hK fo_RX1_30 qd0_62.2.2.2.2.2.2.1 rfl 0 0 rfl rfl rfl ?_
      refine J_icmp_ge (tg := 34) hK qd0_62.2.2.2.2.2.2.2.1 rfl rfl (fun hc9 => ?_) (fun hc9 => ?_)
      · have hs1 := ip hc9 hs1
        exact J_loc [1] rfl (hx1_34 z2 (lpx hs1 hr1))
      · have hs1 := iq hc9 hs1
        refine J_aload_n hK qd0_62.2.2.2.2.2.2.2.2.1 rfl 0 rfl rfl ?_
        refine J_iload_n hK qd0_62.2.2.2.2.2.2.2.2.2.1 rfl 2 rfl rfl ?_
        refine J_bipush (v := 6) hK qd0_62.2.2.2.2.2.2.2.2.2.2.1 rfl (by decide) ?_
        obtain ⟨v6, e7, hs1⟩ := bs hs1
        refine J_callV (m := 1) (m' := 1) (ce' := 0) (sl' := 0) (gr := []) (gs' := fun _ => [gLd d h0 x0_lineCount x0_goodsCount x0_workCount x0_years x0_lines x0_goods x0_works x0_change x0_coin x0_knownFree x0_isKnown]) (st' := fun _ => [.int v6]) (st := []) hK qd0_62.2.2.2.2.2.2.2.2.2.2.2.1 cv_RX1_71 iv_yX1_ofLine (As := [.int z3, .int (6)]) (kX1_ofLine _ d h0 x0_lineCount x0_goodsCount x0_workCount x0_years x0_lines x0_goods x0_works x0_change x0_coin x0_knownFree x0_isKnown z3 (6) e7) rfl rfl (Nat.le_of_ble_eq_true rfl) (by decide) 0 0 rfl rfl rfl [0] [] rfl (by decide +kernel) rfl rfl [0] (by decide +kernel) (fun _ => rfl) (fun _ => rfl) rfl rfl rfl (fun _ => rfl) (fun _ => ?_)
        refine J_if_ne (tg := 28) hK qd0_62.2.2.2.2.2.2.2.2.2.2.2.2.1 rfl rfl (fun hc19 => ?_) (fun hc19 => ?_)
        · have hs1 := iq hc19 hs1
          refine J_iinc (L' := [(2, .int (z3 + 1)), (0, .ref (h0 0)), (1, .int z2)]) (v := (z3 + 1)) hK qd0_63.2.2.2.1 rfl 2 rfl rfl (by decide) rfl ?_
          refine J_goto hK qd0_63.2.2.2.2.1 (n := 4) rfl ?_
          exact J_loc [1, 2, 0] rfl (ih1 z2 (z3 + 1) (lpc hs1 hr1))
        · have hs1 := ip hc19 hs1
          refine J_iload_n hK qd0_62.2.2.2.2.2.2.2.2.2.2.2.2.2.1 rfl 1 rfl rfl ?_
          refine J_iconst (v := 1) hK qd0_62.2.2.2.2.2.2.2.2.2.2.2.2.2.2.1 rfl (by decide) ?_
          refine J_iload_n hK qd0_62.2.2.2.2.2.2.2.2.2.2.2.2.2.2.2.1 rfl 2 rfl rfl ?_
          refine J_ishl hK qd0_63.1 rfl ?_
          refine J_ior hK qd0_63.2.1 rfl ?_
          obtain ⟨t8, et8, hs1⟩ := bs hs1
          refine J_nmi et8 ?_
          refine J_istore_n (L' := [(1, .int t8), (0, .ref (h0 0)), (2, .int z3)]) hK qd0_63.2.2.1 rfl rfl (by decide) rfl ?_
          refine J_iinc (L' := [(2, .int (z3 + 1)), (1, .int t8), (0, .ref (h0 0))]) (v := (z3 + 1)) hK qd0_63.2.2.2.1 rfl 2 rfl rfl (by decide) rfl ?_
          refine J_goto hK qd0_63.2.2.2.2.1 (n := 4) rfl ?_
          exact J_loc [2, 1, 0] rfl (ih1 t8 (z3 + 1) (lpc hs1 hr1))
  exact J_loc [2, 1, 0] rfl (lo1 n (0) (0) hl1)

def fX5_prepare_s58 (x1_lineCount : Int32) (x1_goodsCount : Int32) (x1_workCount : Int32) (x1_years : Int32) (x1_lines : (Nat → Int32)) (x1_goods : (Nat → Int32)) (x1_works : (Nat → Int32)) (x1_change : (Nat → Int32)) (x1_coin : (Nat → Int32)) (x1_knownFree : (Nat → Int32)) (x1_isKnown : Int32) (z3 : Int32) (y15 : Int32) (z17 : Int32) (z18 : (Nat → Int32)) (z19 : (Nat → Int32)) (z20 : (Nat → Int32)) (z21 : (Nat → Int32)) (z22 : Int32) : Option ((Int32 × (Nat → Int32) × (Nat → Int32) × (Nat → Int32) × (Nat → Int32) × Int32) ⊕ ((Nat → Int32) × (Nat → Int32) × (Nat → Int32) × (Nat → Int32) × Int32)) :=
  if 3 ≤ z17 then (some (.inr (z18, z19, z20, z21, z22))) else (if ((y15 >>> (z17 &&& 31)) &&& 1) = 0 then (some (.inl ((z17 + 1), z18, z19, z20, z21, z22))) else ((fX1_ofLine (x1_lineCount, x1_goodsCount, x1_workCount, x1_years, x1_lines, x1_goods, x1_works, x1_change, x1_coin, x1_knownFree, x1_isKnown) z3 (0)).bind (fun v29 => (wr 60 z18 z22 ((v29 * 3) + z17)).bind fun f31 => (fX1_ofLine (x1_lineCount, x1_goodsCount, x1_workCount, x1_years, x1_lines, x1_goods, x1_works, x1_change, x1_coin, x1_knownFree, x1_isKnown) z3 (1)).bind (fun v32 => (wr 60 z19 z22 ((v32 * 3) + z17)).bind fun f34 => (fX1_ofLine (x1_lineCount, x1_goodsCount, x1_workCount, x1_years, x1_lines, x1_goods, x1_works, x1_change, x1_coin, x1_knownFree, x1_isKnown) z3 (3)).bind (fun v35 => (rd 3 x1_coin z17).bind fun v37 => (wr 60 z20 z22 (v35 * v37)).bind fun f38 => (wr 60 z21 z22 z3).bind fun f39 => some (.inl ((z17 + 1), f31, f34, f38, f39, (z22 + 1))))))))
def fX5_prepare_j53 (n : Nat) (x1_lineCount : Int32) (x1_goodsCount : Int32) (x1_workCount : Int32) (x1_years : Int32) (x1_lines : (Nat → Int32)) (x1_goods : (Nat → Int32)) (x1_works : (Nat → Int32)) (x1_change : (Nat → Int32)) (x1_coin : (Nat → Int32)) (x1_knownFree : (Nat → Int32)) (x1_isKnown : Int32) (z3 : Int32) (z4 : (Nat → Int32)) (z5 : (Nat → Int32)) (z6 : (Nat → Int32)) (z7 : (Nat → Int32)) (z8 : Int32) (y15 : Int32) : Option ((Int32 × (Nat → Int32) × (Nat → Int32) × (Nat → Int32) × (Nat → Int32) × Int32) ⊕ ((Nat → Int32) × (Nat → Int32) × (Nat → Int32) × (Nat → Int32) × Int32)) :=
  (lp (u6 (fX5_prepare_s58 x1_lineCount x1_goodsCount x1_workCount x1_years x1_lines x1_goods x1_works x1_change x1_coin x1_knownFree x1_isKnown z3 y15)) n (0, z4, z5, z6, z7, z8)).bind (u5 fun w24 w25 w26 w27 w28 => some (.inl ((z3 + 1), w24, w25, w26, w27, w28)))
def fX5_prepare_s27 (n : Nat) (p2 : Int32) (x1_lineCount : Int32) (x1_goodsCount : Int32) (x1_workCount : Int32) (x1_years : Int32) (x1_lines : (Nat → Int32)) (x1_goods : (Nat → Int32)) (x1_works : (Nat → Int32)) (x1_change : (Nat → Int32)) (x1_coin : (Nat → Int32)) (x1_knownFree : (Nat → Int32)) (x1_isKnown : Int32) (z3 : Int32) (z4 : (Nat → Int32)) (z5 : (Nat → Int32)) (z6 : (Nat → Int32)) (z7 : (Nat → Int32)) (z8 : Int32) : Option ((Int32 × (Nat → Int32) × (Nat → Int32) × (Nat → Int32) × (Nat → Int32) × Int32) ⊕ ((Nat → Int32) × (Nat → Int32) × (Nat → Int32) × (Nat → Int32) × Int32)) :=
  if x1_lineCount ≤ z3 then (some (.inr (z4, z5, z6, z7, z8))) else (if ((p2 >>> (z3 &&& 31)) &&& 1) = 0 then (fX5_prepare_j53 n x1_lineCount x1_goodsCount x1_workCount x1_years x1_lines x1_goods x1_works x1_change x1_coin x1_knownFree x1_isKnown z3 z4 z5 z6 z7 z8 (0)) else ((fX1_ofLine (x1_lineCount, x1_goodsCount, x1_workCount, x1_years, x1_lines, x1_goods, x1_works, x1_change, x1_coin, x1_knownFree, x1_isKnown) z3 (2)).bind (fun v40 => fX5_prepare_j53 n x1_lineCount x1_goodsCount x1_workCount x1_years x1_lines x1_goods x1_works x1_change x1_coin x1_knownFree x1_isKnown z3 z4 z5 z6 z7 z8 v40)))
def fX5_prepare (n : Nat) (X0 : WyT) (X1 : LdT) (p2 : Int32) : Option (((Nat → Int32) × (Nat → Int32) × (Nat → Int32) × (Nat → Int32) × (Nat → Int32) × Int32 × Int32)) :=
  u14 (fun (x0_edgeA : (Nat → Int32)) (x0_edgeB : (Nat → Int32)) (x0_edgeCost : (Nat → Int32)) (x0_edgeLine : (Nat → Int32)) (x0_change : (Nat → Int32)) (x0_away : (Nat → Int32)) (x0_steps : (Nat → Int32)) (x0_nodes : (Nat → Int32)) (x0_stepCount : Int32) (x0_open : (Nat → Int32)) (x0_openCount : Int32) (x0_seen : Int64) (x0_edgeCount : Int32) (x0_aim : Int32) => u11 (fun (x1_lineCount : Int32) (x1_goodsCount : Int32) (x1_workCount : Int32) (x1_years : Int32) (x1_lines : (Nat → Int32)) (x1_goods : (Nat → Int32)) (x1_works : (Nat → Int32)) (x1_change : (Nat → Int32)) (x1_coin : (Nat → Int32)) (x1_knownFree : (Nat → Int32)) (x1_isKnown : Int32) => (cpy 12 x1_change 12 x0_change (0) (0) (12)).bind fun f1 => (lp (u6 (fX5_prepare_s27 n p2 x1_lineCount x1_goodsCount x1_workCount x1_years x1_lines x1_goods x1_works x1_change x1_coin x1_knownFree x1_isKnown)) n (0, x0_edgeA, x0_edgeB, x0_edgeCost, x0_edgeLine, 0)).bind (u5 fun w10 w11 w12 w13 w14 => some (w10, w11, w12, w13, f1, w14, (-1)))) X1) X0
set_option maxHeartbeats 4000000 in
set_option maxRecDepth 100000 in
theorem kX5_prepare (l : Launch) (d : DT) (h0 : Nat → Nat) (h1 : Nat → Nat) (n : Nat) (x0_edgeA : (Nat → Int32)) (x0_edgeB : (Nat → Int32)) (x0_edgeCost : (Nat → Int32)) (x0_edgeLine : (Nat → Int32)) (x0_change : (Nat → Int32)) (x0_away : (Nat → Int32)) (x0_steps : (Nat → Int32)) (x0_nodes : (Nat → Int32)) (x0_stepCount : Int32) (x0_open : (Nat → Int32)) (x0_openCount : Int32) (x0_seen : Int64) (x0_edgeCount : Int32) (x0_aim : Int32) (x1_lineCount : Int32) (x1_goodsCount : Int32) (x1_workCount : Int32) (x1_years : Int32) (x1_lines : (Nat → Int32)) (x1_goods : (Nat → Int32)) (x1_works : (Nat → Int32)) (x1_change : (Nat → Int32)) (x1_coin : (Nat → Int32)) (x1_knownFree : (Nat → Int32)) (x1_isKnown : Int32) (p2 : Int32)  {out : ((Nat → Int32) × (Nat → Int32) × (Nat → Int32) × (Nat → Int32) × (Nat → Int32) × Int32 × Int32)} (hf : fX5_prepare n (x0_edgeA, x0_edgeB, x0_edgeCost, x0_edgeLine, x0_change, x0_away, x0_steps, x0_nodes, x0_stepCount, x0_open, x0_openCount, x0_seen, x0_edgeCount, x0_aim) (x1_lineCount, x1_goodsCount, x1_workCount, x1_years, x1_lines, x1_goods, x1_works, x1_change, x1_coin, x1_knownFree, x1_isKnown) p2 = some out) : Ct l d yX5_prepare cX5_prepare 6 none { frames := 1, cells := 0, slots := 0, locals := 26 } [.ref (h0 0), .ref (h1 0), .int p2] [gWy d h0 x0_edgeA x0_edgeB x0_edgeCost x0_edgeLine x0_change x0_away x0_steps x0_nodes x0_stepCount x0_open x0_openCount x0_seen x0_edgeCount x0_aim, gLd d h1 x1_lineCount x1_goodsCount x1_workCount x1_years x1_lines x1_goods x1_works x1_change x1_coin x1_knownFree x1_isKnown] (fun _ : Unit => (none, [gWy d h0 (out.1) (out.2.1) (out.2.2.1) (out.2.2.2.1) (out.2.2.2.2.1) x0_away x0_steps x0_nodes x0_stepCount x0_open x0_openCount x0_seen (out.2.2.2.2.2.1) (out.2.2.2.2.2.2), gLd d h1 x1_lineCount x1_goodsCount x1_workCount x1_years x1_lines x1_goods x1_works x1_change x1_coin x1_knownFree x1_isKnown])) := by
  refine Ct.of (by decide) (Nat.le_of_ble_eq_true rfl) ?_
  intro Φ hl hK hR
  subst hl
  have hK : Ok d Φ RX5 "prepare" cX5_prepare 6 none { frames := 1, cells := 0, slots := 0, locals := 26 } := hK
  unfold fX5_prepare at hf
  have hf := un14 hf
  have hf := un11 hf
  show J d Φ 6 [gWy d h0 x0_edgeA x0_edgeB x0_edgeCost x0_edgeLine x0_change x0_away x0_steps x0_nodes x0_stepCount x0_open x0_openCount x0_seen x0_edgeCount x0_aim, gLd d h1 x1_lineCount x1_goodsCount x1_workCount x1_years x1_lines x1_goods x1_works x1_change x1_coin x1_knownFree x1_isKnown] 0 0 0 [(0, .ref (h0 0)), (1, .ref (h1 0)), (2, .int p2)] []
  refine J_aload_n hK qd1_55.1 rfl 1 rfl rfl ?_
  refine J_get hK fo_RX5_43 qd1_55.2.1 rfl 1 0 rfl rfl rfl ?_
  refine J_iconst (v := 0) hK qd1_55.2.2.1 rfl (by decide) ?_
  refine J_aload_n hK qd1_55.2.2.2.1 rfl 0 rfl rfl ?_
  refine J_get hK fo_RX5_24 qd1_55.2.2.2.2.1 rfl 0 0 rfl rfl rfl ?_
  refine J_iconst (v := 0) hK qd1_55.2.2.2.2.2.1 rfl (by decide) ?_
  refine J_bipush (v := 12) hK qd1_55.2.2.2.2.2.2.1 rfl (by decide) ?_
  obtain ⟨f1, ef1, hf⟩ := bs hf
  refine J_cpyI (g' := gWy d h0 x0_edgeA x0_edgeB x0_edgeCost x0_edgeLine f1 x0_away x0_steps x0_nodes x0_stepCount x0_open x0_openCount x0_seen x0_edgeCount x0_aim) (gs' := [gWy d h0 x0_edgeA x0_edgeB x0_edgeCost x0_edgeLine f1 x0_away x0_steps x0_nodes x0_stepCount x0_open x0_openCount x0_seen x0_edgeCount x0_aim, gLd d h1 x1_lineCount x1_goodsCount x1_workCount x1_years x1_lines x1_goods x1_works x1_change x1_coin x1_knownFree x1_isKnown]) hK qd1_55.2.2.2.2.2.2.2.1 rfl cc_RX5_46 1 4 0 5 rfl rfl rfl rfl ef1 (by decide) (Nat.le_of_ble_eq_true rfl) rfl rfl ?_
  refine J_aload_n hK qd1_55.2.2.2.2.2.2.2.2.1 rfl 0 rfl rfl ?_
  refine J_iconst (v := (-1)) hK qd1_55.2.2.2.2.2.2.2.2.2.1 rfl (by decide) ?_
  refine J_put (g' := gWy d h0 x0_edgeA x0_edgeB x0_edgeCost x0_edgeLine f1 x0_away x0_steps x0_nodes x0_stepCount x0_open x0_openCount x0_seen x0_edgeCount (-1)) (gs' := [gWy d h0 x0_edgeA x0_edgeB x0_edgeCost x0_edgeLine f1 x0_away x0_steps x0_nodes x0_stepCount x0_open x0_openCount x0_seen x0_edgeCount (-1), gLd d h1 x1_lineCount x1_goodsCount x1_workCount x1_years x1_lines x1_goods x1_works x1_change x1_coin x1_knownFree x1_isKnown]) hK fp_RX5_39 qd1_55.2.2.2.2.2.2.2.2.2.2.1 rfl 0 0 rfl rfl rfl rfl (Nat.le_of_ble_eq_true rfl) rfl rfl ?_
  refine J_aload_n hK qd1_55.2.2.2.2.2.2.2.2.2.2.2.1 rfl 0 rfl rfl ?_
  refine J_iconst (v := 0) hK qd1_55.2.2.2.2.2.2.2.2.2.2.2.2.1 rfl (by decide) ?_
  refine J_put (g' := gWy d h0 x0_edgeA x0_edgeB x0_edgeCost x0_edgeLine f1 x0_away x0_steps x0_nodes x0_stepCount x0_open x0_openCount x0_seen (0) (-1)) (gs' := [gWy d h0 x0_edgeA x0_edgeB x0_edgeCost x0_edgeLine f1 x0_away x0_steps x0_nodes x0_stepCount x0_open x0_openCount x0_seen (0) (-1), gLd d h1 x1_lineCount x1_goodsCount x1_workCount x1_years x1_lines x1_goods x1_works x1_change x1_coin x1_knownFree x1_isKnown]) hK fp_RX5_52 qd1_55.2.2.2.2.2.2.2.2.2.2.2.2.2.1 rfl 0 0 rfl rfl rfl rfl (Nat.le_of_ble_eq_true rfl) rfl rfl ?_
  refine J_iconst (v := 0) hK qd1_55.2.2.2.2.2.2.2.2.2.2.2.2.2.2.1 rfl (by decide) ?_
  refine J_istore_n (L' := [(3, .int (0)), (0, .ref (h0 0)), (1, .ref (h1 0)), (2, .int p2)]) hK qd1_55.2.2.2.2.2.2.2.2.2.2.2.2.2.2.2.1 rfl rfl (by decide) rfl ?_
  obtain ⟨e9, hl2, hf⟩ := bs hf
  have hx2_169 : ∀ (w10 : (Nat → Int32)) (w11 : (Nat → Int32)) (w12 : (Nat → Int32)) (w13 : (Nat → Int32)) (w14 : Int32), (w10, w11, w12, w13, w14) = e9 → J d Φ 6 [gWy d h0 w10 w11 w12 w13 f1 x0_away x0_steps x0_nodes x0_stepCount x0_open x0_openCount x0_seen w14 (-1), gLd d h1 x1_lineCount x1_goodsCount x1_workCount x1_years x1_lines x1_goods x1_works x1_change x1_coin x1_knownFree x1_isKnown] 0 0 169 [] [] := by
    intro w10 w11 w12 w13 w14 he
    rw [← he] at hf
    have hf := un5 hf
    obtain rfl := Option.some.inj hf
    exact J_vret hK hR qd1_61.2.2.2.2.1 () rfl (by decide) (by decide)
  have lo2 : ∀ (k : Nat) (z3 : Int32) (z4 : (Nat → Int32)) (z5 : (Nat → Int32)) (z6 : (Nat → Int32)) (z7 : (Nat → Int32)) (z8 : Int32), lp (u6 (fX5_prepare_s27 n p2 x1_lineCount x1_goodsCount x1_workCount x1_years x1_lines x1_goods x1_works x1_change x1_coin x1_knownFree x1_isKnown)) k (z3, z4, z5, z6, z7, z8) = some e9 → J d Φ 6 [gWy d h0 z4 z5 z6 z7 f1 x0_away x0_steps x0_nodes x0_stepCount x0_open x0_openCount x0_seen z8 (-1), gLd d h1 x1_lineCount x1_goodsCount x1_workCount x1_years x1_lines x1_goods x1_works x1_change x1_coin x1_knownFree x1_isKnown] 0 0 27 [(0, .ref (h0 0)), (1, .ref (h1 0)), (2, .int p2), (3, .int z3)] [] := by
    intro k
    induction k with
    | zero => intro z3 z4 z5 z6 z7 z8 h; cases h
    | succ k ih2 =>
      intro z3 z4 z5 z6 z7 z8 h
      obtain ⟨k2, rr2, hk2, hs2, hr2⟩ := lp_ok h
      cases hk2
      have hs2 : fX5_prepare_s27 n p2 x1_lineCount x1_goodsCount x1_workCount x1_years x1_lines x1_goods x1_works x1_change x1_coin x1_knownFree x1_isKnown z3 z4 z5 z6 z7 z8 = some rr2 := hs2
      unfold fX5_prepare_s27 at hs2
      refine J_iload_n hK qd1_56.1 rfl 3 rfl rfl ?_
      refine J_aload_n hK qd1_56.2.1 rfl 1 rfl rfl ?_
      refine J_get hK fo_RX5_55 qd1_56.2.2.1 rfl 1 0 rfl rfl rfl ?_
      refine J_icmp_ge (tg := 169) hK qd1_56.2.2.2.1 rfl rfl (fun hc32 => ?_) (fun hc32 => ?_)
      · have hs2 := ip hc32 hs2
        exact J_loc [] rfl (hx2_169 z4 z5 z6 z7 z8 (lpx hs2 hr2))
      · have hs2 := iq hc32 hs2
        refine J_iload_n hK qd1_56.2.2.2.2.1 rfl 2 rfl rfl ?_
        refine J_iload_n hK qd1_56.2.2.2.2.2.1 rfl 3 rfl rfl ?_
        refine J_ishr hK qd1_56.2.2.2.2.2.2.1 rfl ?_
        refine J_iconst (v := 1) hK qd1_56.2.2.2.2.2.2.2.1 rfl (by decide) ?_
        refine J_iand hK qd1_56.2.2.2.2.2.2.2.2.1 rfl ?_
        have j53 : ∀ (y15 : Int32), fX5_prepare_j53 n x1_lineCount x1_goodsCount x1_workCount x1_years x1_lines x1_goods x1_works x1_change x1_coin x1_knownFree x1_isKnown z3 z4 z5 z6 z7 z8 y15 = some rr2 → J d Φ 6 [gWy d h0 z4 z5 z6 z7 f1 x0_away x0_steps x0_nodes x0_stepCount x0_open x0_openCount x0_seen z8 (-1), gLd d h1 x1_lineCount x1_goodsCount x1_workCount x1_years x1_lines x1_goods x1_works x1_change x1_coin x1_knownFree x1_isKnown] 0 0 53 [(0, .ref (h0 0)), (1, .ref (h1 0)), (2, .int p2), (3, .int z3)] [.int y15] := by
          intro y15 hs2
          unfold fX5_prepare_j53 at hs2
          refine J_istore (L' := [(4, .int y15), (0, .ref (h0 0)), (1, .ref (h1 0)), (2, .int p2), (3, .int z3)]) hK qd1_57.1 rfl (by decide) rfl ?_
          refine J_iconst (v := 0) hK qd1_57.2.1 rfl (by decide) ?_
          refine J_istore (L' := [(5, .int (0)), (4, .int y15), (0, .ref (h0 0)), (1, .ref (h1 0)), (2, .int p2), (3, .int z3)]) hK qd1_57.2.2.1 rfl (by decide) rfl ?_
          obtain ⟨e23, hl16, hs2⟩ := bs hs2
          have hx16_163 : ∀ (w24 : (Nat → Int32)) (w25 : (Nat → Int32)) (w26 : (Nat → Int32)) (w27 : (Nat → Int32)) (w28 : Int32), (w24, w25, w26, w27, w28) = e23 → J d Φ 6 [gWy d h0 w24 w25 w26 w27 f1 x0_away x0_steps x0_nodes x0_stepCount x0_open x0_openCount x0_seen w28 (-1), gLd d h1 x1_lineCount x1_goodsCount x1_workCount x1_years x1_lines x1_goods x1_works x1_change x1_coin x1_knownFree x1_isKnown] 0 0 163 [(0, .ref (h0 0)), (1, .ref (h1 0)), (2, .int p2), (3, .int z3)] [] := by
            intro w24 w25 w26 w27 w28 he
            rw [← he] at hs2
            have hs2 := un5 hs2
            refine J_iinc (L' := [(3, .int (z3 + 1)), (0, .ref (h0 0)), (1, .ref (h1 0)), (2, .int p2)]) (v := (z3 + 1)) hK qd1_61.2.2.1 rfl 3 rfl rfl (by decide) rfl ?_
            refine J_goto hK qd1_61.2.2.2.1 (n := 27) rfl ?_
            exact J_loc [1, 2, 3, 0] rfl (ih2 (z3 + 1) w24 w25 w26 w27 w28 (lpc hs2 hr2))
          have lo16 : ∀ (k : Nat) (z17 : Int32) (z18 : (Nat → Int32)) (z19 : (Nat → Int32)) (z20 : (Nat → Int32)) (z21 : (Nat → Int32)) (z22 : Int32), lp (u6 (fX5_prepare_s58 x1_lineCount x1_goodsCount x1_workCount x1_years x1_lines x1_goods x1_works x1_change x1_coin x1_knownFree x1_isKnown z3 y15)) k (z17, z18, z19, z20, z21, z22) = some e23 → J d Φ 6 [gWy d h0 z18 z19 z20 z21 f1 x0_away x0_steps x0_nodes x0_stepCount x0_open x0_openCount x0_seen z22 (-1), gLd d h1 x1_lineCount x1_goodsCount x1_workCount x1_years x1_lines x1_goods x1_works x1_change x1_coin x1_knownFree x1_isKnown] 0 0 58 [(0, .ref (h0 0)), (1, .ref (h1 0)), (2, .int p2), (3, .int z3), (4, .int y15), (5, .int z17)] [] := by
            intro k
            induction k with
            | zero => intro z17 z18 z19 z20 z21 z22 h; cases h
            | succ k ih16 =>
              intro z17 z18 z19 z20 z21 z22 h
              obtain ⟨k2, rr16, hk2, hs16, hr16⟩ := lp_ok h
              cases hk2
              have hs16 : fX5_prepare_s58 x1_lineCount x1_goodsCount x1_workCount x1_years x1_lines x1_goods x1_works x1_change x1_coin x1_knownFree x1_isKnown z3 y15 z17 z18 z19 z20 z21 z22 = some rr16 := hs16
              unfold fX5_prepare_s58 at hs16
              refine J_iload hK qd1_57.2.2.2.1 rfl 5 rfl ?_
              refine J_iconst (v := 3) hK qd1_57.2.2.2.2.1 rfl (by decide) ?_
              refine J_icmp_ge (tg := 163) hK qd1_57.2.2.2.2.2.1 rfl rfl (fun hc61 => ?_) (fun hc61 => ?_)
              · have hs16 := ip hc61 hs16
                exact J_loc [0, 1, 2, 3] rfl (hx16_163 z18 z19 z20 z21 z22 (lpx hs16 hr16))
              · have hs16 := iq hc61 hs16
                refine J_iload hK qd1_57.2.2.2.2.2.2.1 rfl 4 rfl ?_
                refine J_iload hK qd1_57.2.2.2.2.2.2.2.1 rfl 5 rfl ?_
                refine J_ishr hK qd1_57.2.2.2.2.2.2.2.2.1 rfl ?_
                refine J_iconst (v := 1) hK qd1_57.2.2.2.2.2.2.2.2.2.1 rfl (by decide) ?_
                refine J_iand hK qd1_57.2.2.2.2.2.2.2.2.2.2.1 rfl ?_
                refine J_if_eq (tg := 157) hK qd1_57.2.2.2.2.2.2.2.2.2.2.2.1 rfl rfl (fun hc71 => ?_) (fun hc71 => ?_)
                · have hs16 := ip hc71 hs16
                  refine J_iinc (L' := [(5, .int (z17 + 1)), (0, .ref (h0 0)), (1, .ref (h1 0)), (2, .int p2), (3, .int z3), (4, .int y15)]) (v := (z17 + 1)) hK qd1_61.1 rfl 5 rfl rfl (by decide) rfl ?_
                  refine J_goto hK qd1_61.2.1 (n := 58) rfl ?_
                  exact J_loc [1, 2, 3, 4, 5, 0] rfl (ih16 (z17 + 1) z18 z19 z20 z21 z22 (lpc hs16 hr16))
                · have hs16 := iq hc71 hs16
                  refine J_aload_n hK qd1_57.2.2.2.2.2.2.2.2.2.2.2.2.1 rfl 0 rfl rfl ?_
                  refine J_get hK fo_RX5_9 qd1_57.2.2.2.2.2.2.2.2.2.2.2.2.2.1 rfl 0 0 rfl rfl rfl ?_
                  refine J_aload_n hK qd1_57.2.2.2.2.2.2.2.2.2.2.2.2.2.2.1 rfl 0 rfl rfl ?_
                  refine J_get hK fo_RX5_52 qd1_57.2.2.2.2.2.2.2.2.2.2.2.2.2.2.2.1 rfl 0 0 rfl rfl rfl ?_
                  refine J_aload_n hK qd1_58.1 rfl 1 rfl rfl ?_
                  refine J_iload_n hK qd1_58.2.1 rfl 3 rfl rfl ?_
                  refine J_iconst (v := 0) hK qd1_58.2.2.1 rfl (by decide) ?_
                  obtain ⟨v29, e30, hs16⟩ := bs hs16
                  refine J_callV (m := 2) (m' := 2) (ce' := 0) (sl' := 0) (gr := [gWy d h0 z18 z19 z20 z21 f1 x0_away x0_steps x0_nodes x0_stepCount x0_open x0_openCount x0_seen z22 (-1)]) (gs' := fun _ => [gWy d h0 z18 z19 z20 z21 f1 x0_away x0_steps x0_nodes x0_stepCount x0_open x0_openCount x0_seen z22 (-1), gLd d h1 x1_lineCount x1_goodsCount x1_workCount x1_years x1_lines x1_goods x1_works x1_change x1_coin x1_knownFree x1_isKnown]) (st' := fun _ => [.int v29, .int z22, .ref (h0 1)]) (st := [.int z22, .ref (h0 1)]) hK qd1_58.2.2.2.1 cv_RX5_58 iv_yX1_ofLine (As := [.int z3, .int (0)]) (kX1_ofLine _ d h1 x1_lineCount x1_goodsCount x1_workCount x1_years x1_lines x1_goods x1_works x1_change x1_coin x1_knownFree x1_isKnown z3 (0) e30) rfl rfl (Nat.le_of_ble_eq_true rfl) (by decide) 1 0 rfl rfl rfl [1] [0] rfl (by decide +kernel) rfl rfl [0, 1] (by decide +kernel) (fun _ => rfl) (fun _ => rfl) rfl rfl rfl (fun _ => rfl) (fun _ => ?_)
                  refine J_iconst (v := 3) hK qd1_58.2.2.2.2.1 rfl (by decide) ?_
                  refine J_imul hK qd1_58.2.2.2.2.2.1 rfl ?_
                  refine J_iload hK qd1_58.2.2.2.2.2.2.1 rfl 5 rfl ?_
                  refine J_iadd hK qd1_58.2.2.2.2.2.2.2.1 rfl ?_
                  obtain ⟨f31, ef31, hs16⟩ := bs hs16
                  refine J_iast (g' := gWy d h0 f31 z19 z20 z21 f1 x0_away x0_steps x0_nodes x0_stepCount x0_open x0_openCount x0_seen z22 (-1)) (gs' := [gWy d h0 f31 z19 z20 z21 f1 x0_away x0_steps x0_nodes x0_stepCount x0_open x0_openCount x0_seen z22 (-1), gLd d h1 x1_lineCount x1_goodsCount x1_workCount x1_years x1_lines x1_goods x1_works x1_change x1_coin x1_knownFree x1_isKnown]) hK qd1_58.2.2.2.2.2.2.2.2.1 rfl 0 1 rfl rfl ef31 rfl rfl ?_
                  refine J_aload_n hK qd1_58.2.2.2.2.2.2.2.2.2.1 rfl 0 rfl rfl ?_
                  refine J_get hK fo_RX5_15 qd1_58.2.2.2.2.2.2.2.2.2.2.1 rfl 0 0 rfl rfl rfl ?_
                  refine J_aload_n hK qd1_58.2.2.2.2.2.2.2.2.2.2.2.1 rfl 0 rfl rfl ?_
                  refine J_get hK fo_RX5_52 qd1_58.2.2.2.2.2.2.2.2.2.2.2.2.1 rfl 0 0 rfl rfl rfl ?_
                  refine J_aload_n hK qd1_58.2.2.2.2.2.2.2.2.2.2.2.2.2.1 rfl 1 rfl rfl ?_
                  refine J_iload_n hK qd1_58.2.2.2.2.2.2.2.2.2.2.2.2.2.2.1 rfl 3 rfl rfl ?_
                  refine J_iconst (v := 1) hK qd1_58.2.2.2.2.2.2.2.2.2.2.2.2.2.2.2.1 rfl (by decide) ?_
                  obtain ⟨v32, e33, hs16⟩ := bs hs16
                  refine J_callV (m := 2) (m' := 2) (ce' := 0) (sl' := 0) (gr := [gWy d h0 f31 z19 z20 z21 f1 x0_away x0_steps x0_nodes x0_stepCount x0_open x0_openCount x0_seen z22 (-1)]) (gs' := fun _ => [gWy d h0 f31 z19 z20 z21 f1 x0_away x0_steps x0_nodes x0_stepCount x0_open x0_openCount x0_seen z22 (-1), gLd d h1 x1_lineCount x1_goodsCount x1_workCount x1_years x1_lines x1_goods x1_works x1_change x1_coin x1_knownFree x1_isKnown]) (st' := fun _ => [.int v32, .int z22, .ref (h0 2)]) (st := [.int z22, .ref (h0 2)]) hK qd1_59.1 cv_RX5_58 iv_yX1_ofLine (As := [.int z3, .int (1)]) (kX1_ofLine _ d h1 x1_lineCount x1_goodsCount x1_workCount x1_years x1_lines x1_goods x1_works x1_change x1_coin x1_knownFree x1_isKnown z3 (1) e33) rfl rfl (Nat.le_of_ble_eq_true rfl) (by decide) 1 0 rfl rfl rfl [1] [0] rfl (by decide +kernel) rfl rfl [0, 1] (by decide +kernel) (fun _ => rfl) (fun _ => rfl) rfl rfl rfl (fun _ => rfl) (fun _ => ?_)
                  refine J_iconst (v := 3) hK qd1_59.2.1 rfl (by decide) ?_
                  refine J_imul hK qd1_59.2.2.1 rfl ?_
                  refine J_iload hK qd1_59.2.2.2.1 rfl 5 rfl ?_
                  refine J_iadd hK qd1_59.2.2.2.2.1 rfl ?_
                  obtain ⟨f34, ef34, hs16⟩ := bs hs16
                  refine J_iast (g' := gWy d h0 f31 f34 z20 z21 f1 x0_away x0_steps x0_nodes x0_stepCount x0_open x0_openCount x0_seen z22 (-1)) (gs' := [gWy d h0 f31 f34 z20 z21 f1 x0_away x0_steps x0_nodes x0_stepCount x0_open x0_openCount x0_seen z22 (-1), gLd d h1 x1_lineCount x1_goodsCount x1_workCount x1_years x1_lines x1_goods x1_works x1_change x1_coin x1_knownFree x1_isKnown]) hK qd1_59.2.2.2.2.2.1 rfl 0 2 rfl rfl ef34 rfl rfl ?_
                  refine J_aload_n hK qd1_59.2.2.2.2.2.2.1 rfl 0 rfl rfl ?_
                  refine J_get hK fo_RX5_18 qd1_59.2.2.2.2.2.2.2.1 rfl 0 0 rfl rfl rfl ?_
                  refine J_aload_n hK qd1_59.2.2.2.2.2.2.2.2.1 rfl 0 rfl rfl ?_
                  refine J_get hK fo_RX5_52 qd1_59.2.2.2.2.2.2.2.2.2.1 rfl 0 0 rfl rfl rfl ?_
                  refine J_aload_n hK qd1_59.2.2.2.2.2.2.2.2.2.2.1 rfl 1 rfl rfl ?_
                  refine J_iload_n hK qd1_59.2.2.2.2.2.2.2.2.2.2.2.1 rfl 3 rfl rfl ?_
                  refine J_iconst (v := 3) hK qd1_59.2.2.2.2.2.2.2.2.2.2.2.2.1 rfl (by decide) ?_
                  obtain ⟨v35, e36, hs16⟩ := bs hs16
                  refine J_callV (m := 2) (m' := 2) (ce' := 0) (sl' := 0) (gr := [gWy d h0 f31 f34 z20 z21 f1 x0_away x0_steps x0_nodes x0_stepCount x0_open x0_openCount x0_seen z22 (-1)]) (gs' := fun _ => [gWy d h0 f31 f34 z20 z21 f1 x0_away x0_steps x0_nodes x0_stepCount x0_open x0_openCount x0_seen z22 (-1), gLd d h1 x1_lineCount x1_goodsCount x1_workCount x1_years x1_lines x1_goods x1_works x1_change x1_coin x1_knownFree x1_isKnown]) (st' := fun _ => [.int v35, .int z22, .ref (h0 3)]) (st := [.int z22, .ref (h0 3)]) hK qd1_59.2.2.2.2.2.2.2.2.2.2.2.2.2.1 cv_RX5_58 iv_yX1_ofLine (As := [.int z3, .int (3)]) (kX1_ofLine _ d h1 x1_lineCount x1_goodsCount x1_workCount x1_years x1_lines x1_goods x1_works x1_change x1_coin x1_knownFree x1_isKnown z3 (3) e36) rfl rfl (Nat.le_of_ble_eq_true rfl) (by decide) 1 0 rfl rfl rfl [1] [0] rfl (by decide +kernel) rfl rfl [0, 1] (by decide +kernel) (fun _ => rfl) (fun _ => rfl) rfl rfl rfl (fun _ => rfl) (fun _ => ?_)
                  refine J_aload_n hK qd1_59.2.2.2.2.2.2.2.2.2.2.2.2.2.2.1 rfl 1 rfl rfl ?_
                  refine J_get hK fo_RX5_62 qd1_59.2.2.2.2.2.2.2.2.2.2.2.2.2.2.2.1 rfl 1 0 rfl rfl rfl ?_
                  refine J_iload hK qd1_60.1 rfl 5 rfl ?_
                  obtain ⟨v37, ev37, hs16⟩ := bs hs16
                  refine J_iald hK qd1_60.2.1 rfl 1 5 rfl rfl ev37 ?_
                  refine J_imul hK qd1_60.2.2.1 rfl ?_
                  obtain ⟨f38, ef38, hs16⟩ := bs hs16
                  refine J_iast (g' := gWy d h0 f31 f34 f38 z21 f1 x0_away x0_steps x0_nodes x0_stepCount x0_open x0_openCount x0_seen z22 (-1)) (gs' := [gWy d h0 f31 f34 f38 z21 f1 x0_away x0_steps x0_nodes x0_stepCount x0_open x0_openCount x0_seen z22 (-1), gLd d h1 x1_lineCount x1_goodsCount x1_workCount x1_years x1_lines x1_goods x1_works x1_change x1_coin x1_knownFree x1_isKnown]) hK qd1_60.2.2.2.1 rfl 0 3 rfl rfl ef38 rfl rfl ?_
                  refine J_aload_n hK qd1_60.2.2.2.2.1 rfl 0 rfl rfl ?_
                  refine J_get hK fo_RX5_21 qd1_60.2.2.2.2.2.1 rfl 0 0 rfl rfl rfl ?_
                  refine J_aload_n hK qd1_60.2.2.2.2.2.2.1 rfl 0 rfl rfl ?_
                  refine J_get hK fo_RX5_52 qd1_60.2.2.2.2.2.2.2.1 rfl 0 0 rfl rfl rfl ?_
                  refine J_iload_n hK qd1_60.2.2.2.2.2.2.2.2.1 rfl 3 rfl rfl ?_
                  obtain ⟨f39, ef39, hs16⟩ := bs hs16
                  refine J_iast (g' := gWy d h0 f31 f34 f38 f39 f1 x0_away x0_steps x0_nodes x0_stepCount x0_open x0_openCount x0_seen z22 (-1)) (gs' := [gWy d h0 f31 f34 f38 f39 f1 x0_away x0_steps x0_nodes x0_stepCount x0_open x0_openCount x0_seen z22 (-1), gLd d h1 x1_lineCount x1_goodsCount x1_workCount x1_years x1_lines x1_goods x1_works x1_change x1_coin x1_knownFree x1_isKnown]) hK qd1_60.2.2.2.2.2.2.2.2.2.1 rfl 0 4 rfl rfl ef39 rfl rfl ?_
                  refine J_aload_n hK qd1_60.2.2.2.2.2.2.2.2.2.2.1 rfl 0 rfl rfl ?_
                  refine J_dup hK qd1_60.2.2.2.2.2.2.2.2.2.2.2.1 rfl rfl ?_
                  refine J_get hK fo_RX5_52 qd1_60.2.2.2.2.2.2.2.2.2.2.2.2.1 rfl 0 0 rfl rfl rfl ?_
                  refine J_iconst (v := 1) hK qd1_60.2.2.2.2.2.2.2.2.2.2.2.2.2.1 rfl (by decide) ?_
                  refine J_iadd hK qd1_60.2.2.2.2.2.2.2.2.2.2.2.2.2.2.1 rfl ?_
                  refine J_put (g' := gWy d h0 f31 f34 f38 f39 f1 x0_away x0_steps x0_nodes x0_stepCount x0_open x0_openCount x0_seen (z22 + 1) (-1)) (gs' := [gWy d h0 f31 f34 f38 f39 f1 x0_away x0_steps x0_nodes x0_stepCount x0_open x0_openCount x0_seen (z22 + 1) (-1), gLd d h1 x1_lineCount x1_goodsCount x1_workCount x1_years x1_lines x1_goods x1_works x1_change x1_coin x1_knownFree x1_isKnown]) hK fp_RX5_52 qd1_60.2.2.2.2.2.2.2.2.2.2.2.2.2.2.2.1 rfl 0 0 rfl rfl rfl rfl (Nat.le_of_ble_eq_true rfl) rfl rfl ?_
                  refine J_iinc (L' := [(5, .int (z17 + 1)), (0, .ref (h0 0)), (1, .ref (h1 0)), (2, .int p2), (3, .int z3), (4, .int y15)]) (v := (z17 + 1)) hK qd1_61.1 rfl 5 rfl rfl (by decide) rfl ?_
                  refine J_goto hK qd1_61.2.1 (n := 58) rfl ?_
                  exact J_loc [1, 2, 3, 4, 5, 0] rfl (ih16 (z17 + 1) f31 f34 f38 f39 (z22 + 1) (lpc hs16 hr16))
          exact J_loc [2, 3, 4, 5, 1, 0] rfl (lo16 n (0) z4 z5 z6 z7 z8 hl16)
        refine J_if_eq (tg := 52) hK qd1_56.2.2.2.2.2.2.2.2.2.1 rfl rfl (fun hc40 => ?_) (fun hc40 => ?_)
        · have hs2 := ip hc40 hs2
          refine J_iconst (v := 0) hK qd1_56.2.2.2.2.2.2.2.2.2.2.2.2.2.2.2.1 rfl (by decide) ?_
          exact (j53 (0) hs2)
        · have hs2 := iq hc40 hs2
          refine J_aload_n hK qd1_56.2.2.2.2.2.2.2.2.2.2.1 rfl 1 rfl rfl ?_
          refine J_iload_n hK qd1_56.2.2.2.2.2.2.2.2.2.2.2.1 rfl 3 rfl rfl ?_
          refine J_iconst (v := 2) hK qd1_56.2.2.2.2.2.2.2.2.2.2.2.2.1 rfl (by decide) ?_
          obtain ⟨v40, e41, hs2⟩ := bs hs2
          refine J_callV (m := 2) (m' := 2) (ce' := 0) (sl' := 0) (gr := [gWy d h0 z4 z5 z6 z7 f1 x0_away x0_steps x0_nodes x0_stepCount x0_open x0_openCount x0_seen z8 (-1)]) (gs' := fun _ => [gWy d h0 z4 z5 z6 z7 f1 x0_away x0_steps x0_nodes x0_stepCount x0_open x0_openCount x0_seen z8 (-1), gLd d h1 x1_lineCount x1_goodsCount x1_workCount x1_years x1_lines x1_goods x1_works x1_change x1_coin x1_knownFree x1_isKnown]) (st' := fun _ => [.int v40]) (st := []) hK qd1_56.2.2.2.2.2.2.2.2.2.2.2.2.2.1 cv_RX5_58 iv_yX1_ofLine (As := [.int z3, .int (2)]) (kX1_ofLine _ d h1 x1_lineCount x1_goodsCount x1_workCount x1_years x1_lines x1_goods x1_works x1_change x1_coin x1_knownFree x1_isKnown z3 (2) e41) rfl rfl (Nat.le_of_ble_eq_true rfl) (by decide) 1 0 rfl rfl rfl [1] [0] rfl (by decide +kernel) rfl rfl [0, 1] (by decide +kernel) (fun _ => rfl) (fun _ => rfl) rfl rfl rfl (fun _ => rfl) (fun _ => ?_)
          refine J_goto hK qd1_56.2.2.2.2.2.2.2.2.2.2.2.2.2.2.1 (n := 53) rfl ?_
          exact (j53 v40 hs2)
  exact J_loc [1, 2, 3, 0] rfl (lo2 n (0) x0_edgeA x0_edgeB x0_edgeCost x0_edgeLine (0) hl2)
end
section
def fX1_ofGoods (X0 : LdT) (p1 : Int32) (p2 : Int32) : Option (Int32) :=
  u11 (fun (x0_lineCount : Int32) (x0_goodsCount : Int32) (x0_workCount : Int32) (x0_years : Int32) (x0_lines : (Nat → Int32)) (x0_goods : (Nat → Int32)) (x0_works : (Nat → Int32)) (x0_change : (Nat → Int32)) (x0_coin : (Nat → Int32)) (x0_knownFree : (Nat → Int32)) (x0_isKnown : Int32) => (rd 24 x0_goods ((p1 * 3) + p2)).bind fun v1 => some v1) X0
set_option maxHeartbeats 4000000 in
set_option maxRecDepth 100000 in
theorem kX1_ofGoods (l : Launch) (d : DT) (h0 : Nat → Nat) (x0_lineCount : Int32) (x0_goodsCount : Int32) (x0_workCount : Int32) (x0_years : Int32) (x0_lines : (Nat → Int32)) (x0_goods : (Nat → Int32)) (x0_works : (Nat → Int32)) (x0_change : (Nat → Int32)) (x0_coin : (Nat → Int32)) (x0_knownFree : (Nat → Int32)) (x0_isKnown : Int32) (p1 : Int32) (p2 : Int32)  {out : Int32} (hf : fX1_ofGoods (x0_lineCount, x0_goodsCount, x0_workCount, x0_years, x0_lines, x0_goods, x0_works, x0_change, x0_coin, x0_knownFree, x0_isKnown) p1 p2 = some out) : Ct l d yX1_ofGoods cX1_ofGoods 3 (some .int) { frames := 0, cells := 0, slots := 0, locals := 0 } [.ref (h0 0), .int p1, .int p2] [gLd d h0 x0_lineCount x0_goodsCount x0_workCount x0_years x0_lines x0_goods x0_works x0_change x0_coin x0_knownFree x0_isKnown] (fun _ : Unit => (some (.int out), [gLd d h0 x0_lineCount x0_goodsCount x0_workCount x0_years x0_lines x0_goods x0_works x0_change x0_coin x0_knownFree x0_isKnown])) := by
  refine Ct.of (by decide) (Nat.le_of_ble_eq_true rfl) ?_
  intro Φ hl hK hR
  subst hl
  have hK : Ok d Φ RX1 "ofGoods" cX1_ofGoods 3 (some .int) { frames := 0, cells := 0, slots := 0, locals := 0 } := hK
  unfold fX1_ofGoods at hf
  have hf := un11 hf
  show J d Φ 3 [gLd d h0 x0_lineCount x0_goodsCount x0_workCount x0_years x0_lines x0_goods x0_works x0_change x0_coin x0_knownFree x0_isKnown] 0 0 0 [(0, .ref (h0 0)), (1, .int p1), (2, .int p2)] []
  refine J_aload_n hK qd0_57.1 rfl 0 rfl rfl ?_
  refine J_get hK fo_RX1_15 qd0_57.2.1 rfl 0 0 rfl rfl rfl ?_
  refine J_iload_n hK qd0_57.2.2.1 rfl 1 rfl rfl ?_
  refine J_iconst (v := 3) hK qd0_57.2.2.2.1 rfl (by decide) ?_
  refine J_imul hK qd0_57.2.2.2.2.1 rfl ?_
  refine J_iload_n hK qd0_57.2.2.2.2.2.1 rfl 2 rfl rfl ?_
  refine J_iadd hK qd0_57.2.2.2.2.2.2.1 rfl ?_
  obtain ⟨v1, ev1, hf⟩ := bs hf
  refine J_iald hK qd0_57.2.2.2.2.2.2.2.1 rfl 0 2 rfl rfl ev1 ?_
  obtain rfl := Option.some.inj hf
  exact J_iret hK hR qd0_57.2.2.2.2.2.2.2.2.1 () rfl (by decide) (by decide)

def fX5_nearByLines_s4 (x0_edgeA : (Nat → Int32)) (x0_edgeB : (Nat → Int32)) (x0_edgeCost : (Nat → Int32)) (x0_edgeCount : Int32) (z2 : Int32) (z3 : Int32) (z4 : (Nat → Int32)) : Option ((Int32 × Int32 × (Nat → Int32)) ⊕ (Int32 × (Nat → Int32))) :=
  if x0_edgeCount ≤ z3 then (some (.inr (z2, z4))) else ((rd 60 x0_edgeA z3).bind fun v9 => (rd 60 x0_edgeB z3).bind fun v10 => (rd 60 x0_edgeCost z3).bind fun v11 => (rd 36 z4 v9).bind fun v12 => (rd 36 z4 v10).bind fun v13 => if v13 ≤ (v12 + v11) then ((rd 36 z4 v10).bind fun v14 => (rd 36 z4 v9).bind fun v15 => if v15 ≤ (v14 + v11) then (some (.inl (z2, (z3 + 1), z4))) else ((rd 36 z4 v10).bind fun v16 => (wr 36 z4 v9 (v16 + v11)).bind fun f17 => some (.inl (1, (z3 + 1), f17)))) else ((rd 36 z4 v9).bind fun v18 => (wr 36 z4 v10 (v18 + v11)).bind fun f19 => some (.inl (1, (z3 + 1), f19))))
def fX5_nearByLines (n : Nat) (X0 : WyT) : Option (Int32 × (Nat → Int32)) :=
  u14 (fun (x0_edgeA : (Nat → Int32)) (x0_edgeB : (Nat → Int32)) (x0_edgeCost : (Nat → Int32)) (x0_edgeLine : (Nat → Int32)) (x0_change : (Nat → Int32)) (x0_away : (Nat → Int32)) (x0_steps : (Nat → Int32)) (x0_nodes : (Nat → Int32)) (x0_stepCount : Int32) (x0_open : (Nat → Int32)) (x0_openCount : Int32) (x0_seen : Int64) (x0_edgeCount : Int32) (x0_aim : Int32) => (lp (u3 (fX5_nearByLines_s4 x0_edgeA x0_edgeB x0_edgeCost x0_edgeCount)) n (0, 0, x0_away)).bind (u2 fun w6 w7 => (zb w6).bind fun v8 => some (v8, w7))) X0
set_option maxHeartbeats 4000000 in
set_option maxRecDepth 100000 in
theorem kX5_nearByLines (l : Launch) (d : DT) (h0 : Nat → Nat) (n : Nat) (x0_edgeA : (Nat → Int32)) (x0_edgeB : (Nat → Int32)) (x0_edgeCost : (Nat → Int32)) (x0_edgeLine : (Nat → Int32)) (x0_change : (Nat → Int32)) (x0_away : (Nat → Int32)) (x0_steps : (Nat → Int32)) (x0_nodes : (Nat → Int32)) (x0_stepCount : Int32) (x0_open : (Nat → Int32)) (x0_openCount : Int32) (x0_seen : Int64) (x0_edgeCount : Int32) (x0_aim : Int32)  {out : Int32 × (Nat → Int32)} (hf : fX5_nearByLines n (x0_edgeA, x0_edgeB, x0_edgeCost, x0_edgeLine, x0_change, x0_away, x0_steps, x0_nodes, x0_stepCount, x0_open, x0_openCount, x0_seen, x0_edgeCount, x0_aim) = some out) : Ct l d yX5_nearByLines cX5_nearByLines 6 (some .boolean) { frames := 0, cells := 0, slots := 0, locals := 0 } [.ref (h0 0)] [gWy d h0 x0_edgeA x0_edgeB x0_edgeCost x0_edgeLine x0_change x0_away x0_steps x0_nodes x0_stepCount x0_open x0_openCount x0_seen x0_edgeCount x0_aim] (fun _ : Unit => (some (.int out.1), [gWy d h0 x0_edgeA x0_edgeB x0_edgeCost x0_edgeLine x0_change (out.2) x0_steps x0_nodes x0_stepCount x0_open x0_openCount x0_seen x0_edgeCount x0_aim])) := by
  refine Ct.of (by decide) (Nat.le_of_ble_eq_true rfl) ?_
  intro Φ hl hK hR
  subst hl
  have hK : Ok d Φ RX5 "nearByLines" cX5_nearByLines 6 (some .boolean) { frames := 0, cells := 0, slots := 0, locals := 0 } := hK
  unfold fX5_nearByLines at hf
  have hf := un14 hf
  show J d Φ 6 [gWy d h0 x0_edgeA x0_edgeB x0_edgeCost x0_edgeLine x0_change x0_away x0_steps x0_nodes x0_stepCount x0_open x0_openCount x0_seen x0_edgeCount x0_aim] 0 0 0 [(0, .ref (h0 0))] []
  refine J_iconst (v := 0) hK qd1_65.1 rfl (by decide) ?_
  refine J_istore_n (L' := [(1, .int (0)), (0, .ref (h0 0))]) hK qd1_65.2.1 rfl rfl (by decide) rfl ?_
  refine J_iconst (v := 0) hK qd1_65.2.2.1 rfl (by decide) ?_
  refine J_istore_n (L' := [(2, .int (0)), (1, .int (0)), (0, .ref (h0 0))]) hK qd1_65.2.2.2.1 rfl rfl (by decide) rfl ?_
  obtain ⟨e5, hl1, hf⟩ := bs hf
  have hx1_118 : ∀ (w6 : Int32) (w7 : (Nat → Int32)), (w6, w7) = e5 → J d Φ 6 [gWy d h0 x0_edgeA x0_edgeB x0_edgeCost x0_edgeLine x0_change w7 x0_steps x0_nodes x0_stepCount x0_open x0_openCount x0_seen x0_edgeCount x0_aim] 0 0 118 [(1, .int w6)] [] := by
    intro w6 w7 he
    rw [← he] at hf
    have hf := un2 hf
    refine J_iload_n hK qd1_69.2.2.2.2.2.2.2.2.1 rfl 0 rfl rfl ?_
    obtain ⟨v8, ev8, hf⟩ := bs hf
    obtain rfl := Option.some.inj hf
    exact J_zret hK hR qd1_69.2.2.2.2.2.2.2.2.2.1 () (zb_ok ev8).2 (by rw [(zb_ok ev8).1]) (by decide) (by decide)
  have lo1 : ∀ (k : Nat) (z2 : Int32) (z3 : Int32) (z4 : (Nat → Int32)), lp (u3 (fX5_nearByLines_s4 x0_edgeA x0_edgeB x0_edgeCost x0_edgeCount)) k (z2, z3, z4) = some e5 → J d Φ 6 [gWy d h0 x0_edgeA x0_edgeB x0_edgeCost x0_edgeLine x0_change z4 x0_steps x0_nodes x0_stepCount x0_open x0_openCount x0_seen x0_edgeCount x0_aim] 0 0 4 [(0, .ref (h0 0)), (1, .int z2), (2, .int z3)] [] := by
    intro k
    induction k with
    | zero => intro z2 z3 z4 h; cases h
    | succ k ih1 =>
      intro z2 z3 z4 h
      obtain ⟨k2, rr1, hk2, hs1, hr1⟩ := lp_ok h
      cases hk2
      have hs1 : fX5_nearByLines_s4 x0_edgeA x0_edgeB x0_edgeCost x0_edgeCount z2 z3 z4 = some rr1 := hs1
      unfold fX5_nearByLines_s4 at hs1
      refine J_iload_n hK qd1_65.2.2.2.2.1 rfl 2 rfl rfl ?_
      refine J_aload_n hK qd1_65.2.2.2.2.2.1 rfl 0 rfl rfl ?_
      refine J_get hK fo_RX5_52 qd1_65.2.2.2.2.2.2.1 rfl 0 0 rfl rfl rfl ?_
      refine J_icmp_ge (tg := 118) hK qd1_65.2.2.2.2.2.2.2.1 rfl rfl (fun hc9 => ?_) (fun hc9 => ?_)
      · have hs1 := ip hc9 hs1
        exact J_loc [1] rfl (hx1_118 z2 z4 (lpx hs1 hr1))
      · have hs1 := iq hc9 hs1
        refine J_aload_n hK qd1_65.2.2.2.2.2.2.2.2.1 rfl 0 rfl rfl ?_
        refine J_get hK fo_RX5_9 qd1_65.2.2.2.2.2.2.2.2.2.1 rfl 0 0 rfl rfl rfl ?_
        refine J_iload_n hK qd1_65.2.2.2.2.2.2.2.2.2.2.1 rfl 2 rfl rfl ?_
        obtain ⟨v9, ev9, hs1⟩ := bs hs1
        refine J_iald hK qd1_65.2.2.2.2.2.2.2.2.2.2.2.1 rfl 0 1 rfl rfl ev9 ?_
        refine J_istore_n (L' := [(3, .int v9), (0, .ref (h0 0)), (1, .int z2), (2, .int z3)]) hK qd1_65.2.2.2.2.2.2.2.2.2.2.2.2.1 rfl rfl (by decide) rfl ?_
        refine J_aload_n hK qd1_65.2.2.2.2.2.2.2.2.2.2.2.2.2.1 rfl 1 rfl rfl ?_
        refine J_get hK fo_RX5_15 qd1_65.2.2.2.2.2.2.2.2.2.2.2.2.2.2.1 rfl 0 0 rfl rfl rfl ?_
        refine J_iload_n hK qd1_65.2.2.2.2.2.2.2.2.2.2.2.2.2.2.2.1 rfl 3 rfl rfl ?_
        obtain ⟨v10, ev10, hs1⟩ := bs hs1
        refine J_iald hK qd1_66.1 rfl 0 2 rfl rfl ev10 ?_
        refine J_istore (L' := [(4, .int v10), (3, .int v9), (0, .ref (h0 0)), (1, .int z2), (2, .int z3)]) hK qd1_66.2.1 rfl (by decide) rfl ?_
        refine J_aload_n hK qd1_66.2.2.1 rfl 2 rfl rfl ?_
        refine J_get hK fo_RX5_18 qd1_66.2.2.2.1 rfl 0 0 rfl rfl rfl ?_
        refine J_iload_n hK qd1_66.2.2.2.2.1 rfl 4 rfl rfl ?_
        obtain ⟨v11, ev11, hs1⟩ := bs hs1
        refine J_iald hK qd1_66.2.2.2.2.2.1 rfl 0 3 rfl rfl ev11 ?_
        refine J_istore (L' := [(5, .int v11), (4, .int v10), (3, .int v9), (0, .ref (h0 0)), (1, .int z2), (2, .int z3)]) hK qd1_66.2.2.2.2.2.2.1 rfl (by decide) rfl ?_
        refine J_aload_n hK qd1_66.2.2.2.2.2.2.2.1 rfl 3 rfl rfl ?_
        refine J_get hK fo_RX5_27 qd1_66.2.2.2.2.2.2.2.2.1 rfl 0 0 rfl rfl rfl ?_
        refine J_iload_n hK qd1_66.2.2.2.2.2.2.2.2.2.1 rfl 2 rfl rfl ?_
        obtain ⟨v12, ev12, hs1⟩ := bs hs1
        refine J_iald hK qd1_66.2.2.2.2.2.2.2.2.2.2.1 rfl 0 6 rfl rfl ev12 ?_
        refine J_iload hK qd1_66.2.2.2.2.2.2.2.2.2.2.2.1 rfl 0 rfl ?_
        refine J_iadd hK qd1_66.2.2.2.2.2.2.2.2.2.2.2.2.1 rfl ?_
        refine J_aload_n hK qd1_66.2.2.2.2.2.2.2.2.2.2.2.2.2.1 rfl 3 rfl rfl ?_
        refine J_get hK fo_RX5_27 qd1_66.2.2.2.2.2.2.2.2.2.2.2.2.2.2.1 rfl 0 0 rfl rfl rfl ?_
        refine J_iload hK qd1_66.2.2.2.2.2.2.2.2.2.2.2.2.2.2.2.1 rfl 1 rfl ?_
        obtain ⟨v13, ev13, hs1⟩ := bs hs1
        refine J_iald hK qd1_67.1 rfl 0 6 rfl rfl ev13 ?_
        refine J_icmp_ge (tg := 75) hK qd1_67.2.1 rfl rfl (fun hc51 => ?_) (fun hc51 => ?_)
        · have hs1 := ip hc51 hs1
          refine J_aload_n hK qd1_67.2.2.2.2.2.2.2.2.2.2.2.2.2.2.2.1 rfl 3 rfl rfl ?_
          refine J_get hK fo_RX5_27 qd1_68.1 rfl 0 0 rfl rfl rfl ?_
          refine J_iload hK qd1_68.2.1 rfl 1 rfl ?_
          obtain ⟨v14, ev14, hs1⟩ := bs hs1
          refine J_iald hK qd1_68.2.2.1 rfl 0 6 rfl rfl ev14 ?_
          refine J_iload hK qd1_68.2.2.2.1 rfl 0 rfl ?_
          refine J_iadd hK qd1_68.2.2.2.2.1 rfl ?_
          refine J_aload_n hK qd1_68.2.2.2.2.2.1 rfl 3 rfl rfl ?_
          refine J_get hK fo_RX5_27 qd1_68.2.2.2.2.2.2.1 rfl 0 0 rfl rfl rfl ?_
          refine J_iload_n hK qd1_68.2.2.2.2.2.2.2.1 rfl 2 rfl rfl ?_
          obtain ⟨v15, ev15, hs1⟩ := bs hs1
          refine J_iald hK qd1_68.2.2.2.2.2.2.2.2.1 rfl 0 6 rfl rfl ev15 ?_
          refine J_icmp_ge (tg := 112) hK qd1_68.2.2.2.2.2.2.2.2.2.1 rfl rfl (fun hc91 => ?_) (fun hc91 => ?_)
          · have hs1 := ip hc91 hs1
            refine J_iinc (L' := [(2, .int (z3 + 1)), (5, .int v11), (4, .int v10), (3, .int v9), (0, .ref (h0 0)), (1, .int z2)]) (v := (z3 + 1)) hK qd1_69.2.2.2.2.2.2.1 rfl 5 rfl rfl (by decide) rfl ?_
            refine J_goto hK qd1_69.2.2.2.2.2.2.2.1 (n := 4) rfl ?_
            exact J_loc [4, 5, 0] rfl (ih1 z2 (z3 + 1) z4 (lpc hs1 hr1))
          · have hs1 := iq hc91 hs1
            refine J_aload_n hK qd1_68.2.2.2.2.2.2.2.2.2.2.1 rfl 3 rfl rfl ?_
            refine J_get hK fo_RX5_27 qd1_68.2.2.2.2.2.2.2.2.2.2.2.1 rfl 0 0 rfl rfl rfl ?_
            refine J_iload_n hK qd1_68.2.2.2.2.2.2.2.2.2.2.2.2.1 rfl 2 rfl rfl ?_
            refine J_aload_n hK qd1_68.2.2.2.2.2.2.2.2.2.2.2.2.2.1 rfl 3 rfl rfl ?_
            refine J_get hK fo_RX5_27 qd1_68.2.2.2.2.2.2.2.2.2.2.2.2.2.2.1 rfl 0 0 rfl rfl rfl ?_
            refine J_iload hK qd1_68.2.2.2.2.2.2.2.2.2.2.2.2.2.2.2.1 rfl 1 rfl ?_
            obtain ⟨v16, ev16, hs1⟩ := bs hs1
            refine J_iald hK qd1_69.1 rfl 0 6 rfl rfl ev16 ?_
            refine J_iload hK qd1_69.2.1 rfl 0 rfl ?_
            refine J_iadd hK qd1_69.2.2.1 rfl ?_
            obtain ⟨f17, ef17, hs1⟩ := bs hs1
            refine J_iast (g' := gWy d h0 x0_edgeA x0_edgeB x0_edgeCost x0_edgeLine x0_change f17 x0_steps x0_nodes x0_stepCount x0_open x0_openCount x0_seen x0_edgeCount x0_aim) (gs' := [gWy d h0 x0_edgeA x0_edgeB x0_edgeCost x0_edgeLine x0_change f17 x0_steps x0_nodes x0_stepCount x0_open x0_openCount x0_seen x0_edgeCount x0_aim]) hK qd1_69.2.2.2.1 rfl 0 6 rfl rfl ef17 rfl rfl ?_
            refine J_iconst (v := 1) hK qd1_69.2.2.2.2.1 rfl (by decide) ?_
            refine J_istore_n (L' := [(1, .int (1)), (5, .int v11), (4, .int v10), (3, .int v9), (0, .ref (h0 0)), (2, .int z3)]) hK qd1_69.2.2.2.2.2.1 rfl rfl (by decide) rfl ?_
            refine J_iinc (L' := [(2, .int (z3 + 1)), (1, .int (1)), (5, .int v11), (4, .int v10), (3, .int v9), (0, .ref (h0 0))]) (v := (z3 + 1)) hK qd1_69.2.2.2.2.2.2.1 rfl 5 rfl rfl (by decide) rfl ?_
            refine J_goto hK qd1_69.2.2.2.2.2.2.2.1 (n := 4) rfl ?_
            exact J_loc [5, 1, 0] rfl (ih1 (1) (z3 + 1) f17 (lpc hs1 hr1))
        · have hs1 := iq hc51 hs1
          refine J_aload_n hK qd1_67.2.2.1 rfl 3 rfl rfl ?_
          refine J_get hK fo_RX5_27 qd1_67.2.2.2.1 rfl 0 0 rfl rfl rfl ?_
          refine J_iload hK qd1_67.2.2.2.2.1 rfl 1 rfl ?_
          refine J_aload_n hK qd1_67.2.2.2.2.2.1 rfl 3 rfl rfl ?_
          refine J_get hK fo_RX5_27 qd1_67.2.2.2.2.2.2.1 rfl 0 0 rfl rfl rfl ?_
          refine J_iload_n hK qd1_67.2.2.2.2.2.2.2.1 rfl 2 rfl rfl ?_
          obtain ⟨v18, ev18, hs1⟩ := bs hs1
          refine J_iald hK qd1_67.2.2.2.2.2.2.2.2.1 rfl 0 6 rfl rfl ev18 ?_
          refine J_iload hK qd1_67.2.2.2.2.2.2.2.2.2.1 rfl 0 rfl ?_
          refine J_iadd hK qd1_67.2.2.2.2.2.2.2.2.2.2.1 rfl ?_
          obtain ⟨f19, ef19, hs1⟩ := bs hs1
          refine J_iast (g' := gWy d h0 x0_edgeA x0_edgeB x0_edgeCost x0_edgeLine x0_change f19 x0_steps x0_nodes x0_stepCount x0_open x0_openCount x0_seen x0_edgeCount x0_aim) (gs' := [gWy d h0 x0_edgeA x0_edgeB x0_edgeCost x0_edgeLine x0_change f19 x0_steps x0_nodes x0_stepCount x0_open x0_openCount x0_seen x0_edgeCount x0_aim]) hK qd1_67.2.2.2.2.2.2.2.2.2.2.2.1 rfl 0 6 rfl rfl ef19 rfl rfl ?_
          refine J_iconst (v := 1) hK qd1_67.2.2.2.2.2.2.2.2.2.2.2.2.1 rfl (by decide) ?_
          refine J_istore_n (L' := [(1, .int (1)), (5, .int v11), (4, .int v10), (3, .int v9), (0, .ref (h0 0)), (2, .int z3)]) hK qd1_67.2.2.2.2.2.2.2.2.2.2.2.2.2.1 rfl rfl (by decide) rfl ?_
          refine J_goto hK qd1_67.2.2.2.2.2.2.2.2.2.2.2.2.2.2.1 (n := 112) rfl ?_
          refine J_iinc (L' := [(2, .int (z3 + 1)), (1, .int (1)), (5, .int v11), (4, .int v10), (3, .int v9), (0, .ref (h0 0))]) (v := (z3 + 1)) hK qd1_69.2.2.2.2.2.2.1 rfl 5 rfl rfl (by decide) rfl ?_
          refine J_goto hK qd1_69.2.2.2.2.2.2.2.1 (n := 4) rfl ?_
          exact J_loc [5, 1, 0] rfl (ih1 (1) (z3 + 1) f19 (lpc hs1 hr1))
  exact J_loc [2, 1, 0] rfl (lo1 n (0) (0) x0_away hl1)

def fX5_nearByChanges_s70 (z2 : Int32) (w11 : Int32) (v12 : Int32) (z14 : Int32) (z15 : (Nat → Int32)) : Option ((Int32 × (Nat → Int32)) ⊕ ((Nat → Int32))) :=
  if 3 ≤ z14 then (some (.inr z15)) else ((rd 36 z15 ((z2 * 3) + z14)).bind fun v18 => if v18 ≤ (w11 + v12) then (some (.inl ((z14 + 1), z15))) else ((wr 36 z15 ((z2 * 3) + z14) (w11 + v12)).bind fun f19 => some (.inl ((z14 + 1), f19))))
def fX5_nearByChanges_s22 (z2 : Int32) (z3 : (Nat → Int32)) (z8 : Int32) (z9 : Int32) : Option ((Int32 × Int32) ⊕ (Int32)) :=
  if 3 ≤ z9 then (some (.inr z8)) else ((rd 36 z3 ((z2 * 3) + z9)).bind fun v20 => if z8 ≤ v20 then (some (.inl (z8, (z9 + 1)))) else ((rd 36 z3 ((z2 * 3) + z9)).bind fun v21 => some (.inl (v21, (z9 + 1)))))
def fX5_nearByChanges_s2 (n : Nat) (x0_change : (Nat → Int32)) (z2 : Int32) (z3 : (Nat → Int32)) : Option ((Int32 × (Nat → Int32)) ⊕ ((Nat → Int32))) :=
  if 12 ≤ z2 then (some (.inr z3)) else ((rd 36 z3 (z2 * 3)).bind fun v6 => (lp (u2 (fX5_nearByChanges_s22 z2 z3)) n (v6, 1)).bind (fun w11 => (rd 12 x0_change z2).bind fun v12 => (lp (u2 (fX5_nearByChanges_s70 z2 w11 v12)) n (0, z3)).bind (fun w17 => some (.inl ((z2 + 1), w17)))))
def fX5_nearByChanges (n : Nat) (X0 : WyT) : Option ((Nat → Int32)) :=
  u14 (fun (x0_edgeA : (Nat → Int32)) (x0_edgeB : (Nat → Int32)) (x0_edgeCost : (Nat → Int32)) (x0_edgeLine : (Nat → Int32)) (x0_change : (Nat → Int32)) (x0_away : (Nat → Int32)) (x0_steps : (Nat → Int32)) (x0_nodes : (Nat → Int32)) (x0_stepCount : Int32) (x0_open : (Nat → Int32)) (x0_openCount : Int32) (x0_seen : Int64) (x0_edgeCount : Int32) (x0_aim : Int32) => (lp (u2 (fX5_nearByChanges_s2 n x0_change)) n (0, x0_away)).bind (fun w5 => some w5)) X0
set_option maxHeartbeats 4000000 in
set_option maxRecDepth 100000 in
theorem kX5_nearByChanges (l : Launch) (d : DT) (h0 : Nat → Nat) (n : Nat) (x0_edgeA : (Nat → Int32)) (x0_edgeB : (Nat → Int32)) (x0_edgeCost : (Nat → Int32)) (x0_edgeLine : (Nat → Int32)) (x0_change : (Nat → Int32)) (x0_away : (Nat → Int32)) (x0_steps : (Nat → Int32)) (x0_nodes : (Nat → Int32)) (x0_stepCount : Int32) (x0_open : (Nat → Int32)) (x0_openCount : Int32) (x0_seen : Int64) (x0_edgeCount : Int32) (x0_aim : Int32)  {out : (Nat → Int32)} (hf : fX5_nearByChanges n (x0_edgeA, x0_edgeB, x0_edgeCost, x0_edgeLine, x0_change, x0_away, x0_steps, x0_nodes, x0_stepCount, x0_open, x0_openCount, x0_seen, x0_edgeCount, x0_aim) = some out) : Ct l d yX5_nearByChanges cX5_nearByChanges 6 none { frames := 0, cells := 0, slots := 0, locals := 0 } [.ref (h0 0)] [gWy d h0 x0_edgeA x0_edgeB x0_edgeCost x0_edgeLine x0_change x0_away x0_steps x0_nodes x0_stepCount x0_open x0_openCount x0_seen x0_edgeCount x0_aim] (fun _ : Unit => (none, [gWy d h0 x0_edgeA x0_edgeB x0_edgeCost x0_edgeLine x0_change out x0_steps x0_nodes x0_stepCount x0_open x0_openCount x0_seen x0_edgeCount x0_aim])) := by
  refine Ct.of (by decide) (Nat.le_of_ble_eq_true rfl) ?_
  intro Φ hl hK hR
  subst hl
  have hK : Ok d Φ RX5 "nearByChanges" cX5_nearByChanges 6 none { frames := 0, cells := 0, slots := 0, locals := 0 } := hK
  unfold fX5_nearByChanges at hf
  have hf := un14 hf
  show J d Φ 6 [gWy d h0 x0_edgeA x0_edgeB x0_edgeCost x0_edgeLine x0_change x0_away x0_steps x0_nodes x0_stepCount x0_open x0_openCount x0_seen x0_edgeCount x0_aim] 0 0 0 [(0, .ref (h0 0))] []
  refine J_iconst (v := 0) hK qd1_70.1 rfl (by decide) ?_
  refine J_istore_n (L' := [(1, .int (0)), (0, .ref (h0 0))]) hK qd1_70.2.1 rfl rfl (by decide) rfl ?_
  obtain ⟨e4, hl1, hf⟩ := bs hf
  have hx1_113 : ∀ (w5 : (Nat → Int32)), w5 = e4 → J d Φ 6 [gWy d h0 x0_edgeA x0_edgeB x0_edgeCost x0_edgeLine x0_change w5 x0_steps x0_nodes x0_stepCount x0_open x0_openCount x0_seen x0_edgeCount x0_aim] 0 0 113 [] [] := by
    intro w5 he
    rw [← he] at hf
    obtain rfl := Option.some.inj hf
    exact J_vret hK hR qd1_74.2.2.2.1 () rfl (by decide) (by decide)
  have lo1 : ∀ (k : Nat) (z2 : Int32) (z3 : (Nat → Int32)), lp (u2 (fX5_nearByChanges_s2 n x0_change)) k (z2, z3) = some e4 → J d Φ 6 [gWy d h0 x0_edgeA x0_edgeB x0_edgeCost x0_edgeLine x0_change z3 x0_steps x0_nodes x0_stepCount x0_open x0_openCount x0_seen x0_edgeCount x0_aim] 0 0 2 [(0, .ref (h0 0)), (1, .int z2)] [] := by
    intro k
    induction k with
    | zero => intro z2 z3 h; cases h
    | succ k ih1 =>
      intro z2 z3 h
      obtain ⟨k2, rr1, hk2, hs1, hr1⟩ := lp_ok h
      cases hk2
      have hs1 : fX5_nearByChanges_s2 n x0_change z2 z3 = some rr1 := hs1
      unfold fX5_nearByChanges_s2 at hs1
      refine J_iload_n hK qd1_70.2.2.1 rfl 1 rfl rfl ?_
      refine J_bipush (v := 12) hK qd1_70.2.2.2.1 rfl (by decide) ?_
      refine J_icmp_ge (tg := 113) hK qd1_70.2.2.2.2.1 rfl rfl (fun hc5 => ?_) (fun hc5 => ?_)
      · have hs1 := ip hc5 hs1
        exact J_loc [] rfl (hx1_113 z3 (lpx hs1 hr1))
      · have hs1 := iq hc5 hs1
        refine J_iload_n hK qd1_70.2.2.2.2.2.1 rfl 1 rfl rfl ?_
        refine J_iconst (v := 3) hK qd1_70.2.2.2.2.2.2.1 rfl (by decide) ?_
        refine J_imul hK qd1_70.2.2.2.2.2.2.2.1 rfl ?_
        refine J_istore_n (L' := [(2, .int (z2 * 3)), (0, .ref (h0 0)), (1, .int z2)]) hK qd1_70.2.2.2.2.2.2.2.2.1 rfl rfl (by decide) rfl ?_
        refine J_aload_n hK qd1_70.2.2.2.2.2.2.2.2.2.1 rfl 1 rfl rfl ?_
        refine J_get hK fo_RX5_27 qd1_70.2.2.2.2.2.2.2.2.2.2.1 rfl 0 0 rfl rfl rfl ?_
        refine J_iload_n hK qd1_70.2.2.2.2.2.2.2.2.2.2.2.1 rfl 0 rfl rfl ?_
        obtain ⟨v6, ev6, hs1⟩ := bs hs1
        refine J_iald hK qd1_70.2.2.2.2.2.2.2.2.2.2.2.2.1 rfl 0 6 rfl rfl ev6 ?_
        refine J_istore_n (L' := [(3, .int v6), (2, .int (z2 * 3)), (0, .ref (h0 0)), (1, .int z2)]) hK qd1_70.2.2.2.2.2.2.2.2.2.2.2.2.2.1 rfl rfl (by decide) rfl ?_
        refine J_iconst (v := 1) hK qd1_70.2.2.2.2.2.2.2.2.2.2.2.2.2.2.1 rfl (by decide) ?_
        refine J_istore (L' := [(4, .int (1)), (3, .int v6), (2, .int (z2 * 3)), (0, .ref (h0 0)), (1, .int z2)]) hK qd1_70.2.2.2.2.2.2.2.2.2.2.2.2.2.2.2.1 rfl (by decide) rfl ?_
        obtain ⟨e10, hl7, hs1⟩ := bs hs1
        have hx7_57 : ∀ (w11 : Int32), w11 = e10 → J d Φ 6 [gWy d h0 x0_edgeA x0_edgeB x0_edgeCost x0_edgeLine x0_change z3 x0_steps x0_nodes x0_stepCount x0_open x0_openCount x0_seen x0_edgeCount x0_aim] 0 0 57 [(0, .ref (h0 0)), (1, .int z2), (2, .int (z2 * 3)), (3, .int w11)] [] := by
          intro w11 he
          rw [← he] at hs1
          refine J_iload_n hK qd1_72.2.2.2.2.1 rfl 3 rfl rfl ?_
          refine J_aload_n hK qd1_72.2.2.2.2.2.1 rfl 0 rfl rfl ?_
          refine J_get hK fo_RX5_24 qd1_72.2.2.2.2.2.2.1 rfl 0 0 rfl rfl rfl ?_
          refine J_iload_n hK qd1_72.2.2.2.2.2.2.2.1 rfl 1 rfl rfl ?_
          obtain ⟨v12, ev12, hs1⟩ := bs hs1
          refine J_iald hK qd1_72.2.2.2.2.2.2.2.2.1 rfl 0 5 rfl rfl ev12 ?_
          refine J_iadd hK qd1_72.2.2.2.2.2.2.2.2.2.1 rfl ?_
          refine J_istore (L' := [(4, .int (w11 + v12)), (0, .ref (h0 0)), (1, .int z2), (2, .int (z2 * 3)), (3, .int w11)]) hK qd1_72.2.2.2.2.2.2.2.2.2.2.1 rfl (by decide) rfl ?_
          refine J_iconst (v := 0) hK qd1_72.2.2.2.2.2.2.2.2.2.2.2.1 rfl (by decide) ?_
          refine J_istore (L' := [(5, .int (0)), (4, .int (w11 + v12)), (0, .ref (h0 0)), (1, .int z2), (2, .int (z2 * 3)), (3, .int w11)]) hK qd1_72.2.2.2.2.2.2.2.2.2.2.2.2.1 rfl (by decide) rfl ?_
          obtain ⟨e16, hl13, hs1⟩ := bs hs1
          have hx13_107 : ∀ (w17 : (Nat → Int32)), w17 = e16 → J d Φ 6 [gWy d h0 x0_edgeA x0_edgeB x0_edgeCost x0_edgeLine x0_change w17 x0_steps x0_nodes x0_stepCount x0_open x0_openCount x0_seen x0_edgeCount x0_aim] 0 0 107 [(0, .ref (h0 0)), (1, .int z2)] [] := by
            intro w17 he
            rw [← he] at hs1
            refine J_iinc (L' := [(1, .int (z2 + 1)), (0, .ref (h0 0))]) (v := (z2 + 1)) hK qd1_74.2.1 rfl 1 rfl rfl (by decide) rfl ?_
            refine J_goto hK qd1_74.2.2.1 (n := 2) rfl ?_
            exact J_loc [1, 0] rfl (ih1 (z2 + 1) w17 (lpc hs1 hr1))
          have lo13 : ∀ (k : Nat) (z14 : Int32) (z15 : (Nat → Int32)), lp (u2 (fX5_nearByChanges_s70 z2 w11 v12)) k (z14, z15) = some e16 → J d Φ 6 [gWy d h0 x0_edgeA x0_edgeB x0_edgeCost x0_edgeLine x0_change z15 x0_steps x0_nodes x0_stepCount x0_open x0_openCount x0_seen x0_edgeCount x0_aim] 0 0 70 [(0, .ref (h0 0)), (1, .int z2), (2, .int (z2 * 3)), (4, .int (w11 + v12)), (5, .int z14)] [] := by
            intro k
            induction k with
            | zero => intro z14 z15 h; cases h
            | succ k ih13 =>
              intro z14 z15 h
              obtain ⟨k2, rr13, hk2, hs13, hr13⟩ := lp_ok h
              cases hk2
              have hs13 : fX5_nearByChanges_s70 z2 w11 v12 z14 z15 = some rr13 := hs13
              unfold fX5_nearByChanges_s70 at hs13
              refine J_iload hK qd1_72.2.2.2.2.2.2.2.2.2.2.2.2.2.1 rfl 4 rfl ?_
              refine J_iconst (v := 3) hK qd1_72.2.2.2.2.2.2.2.2.2.2.2.2.2.2.1 rfl (by decide) ?_
              refine J_icmp_ge (tg := 107) hK qd1_72.2.2.2.2.2.2.2.2.2.2.2.2.2.2.2.1 rfl rfl (fun hc73 => ?_) (fun hc73 => ?_)
              · have hs13 := ip hc73 hs13
                exact J_loc [0, 1] rfl (hx13_107 z15 (lpx hs13 hr13))
              · have hs13 := iq hc73 hs13
                refine J_iload hK qd1_73.1 rfl 3 rfl ?_
                refine J_aload_n hK qd1_73.2.1 rfl 0 rfl rfl ?_
                refine J_get hK fo_RX5_27 qd1_73.2.2.1 rfl 0 0 rfl rfl rfl ?_
                refine J_iload_n hK qd1_73.2.2.2.1 rfl 2 rfl rfl ?_
                refine J_iload hK qd1_73.2.2.2.2.1 rfl 4 rfl ?_
                refine J_iadd hK qd1_73.2.2.2.2.2.1 rfl ?_
                obtain ⟨v18, ev18, hs13⟩ := bs hs13
                refine J_iald hK qd1_73.2.2.2.2.2.2.1 rfl 0 6 rfl rfl ev18 ?_
                refine J_icmp_ge (tg := 101) hK qd1_73.2.2.2.2.2.2.2.1 rfl rfl (fun hc87 => ?_) (fun hc87 => ?_)
                · have hs13 := ip hc87 hs13
                  refine J_iinc (L' := [(5, .int (z14 + 1)), (0, .ref (h0 0)), (1, .int z2), (2, .int (z2 * 3)), (4, .int (w11 + v12))]) (v := (z14 + 1)) hK qd1_73.2.2.2.2.2.2.2.2.2.2.2.2.2.2.2.1 rfl 4 rfl rfl (by decide) rfl ?_
                  refine J_goto hK qd1_74.1 (n := 70) rfl ?_
                  exact J_loc [1, 2, 3, 4, 0] rfl (ih13 (z14 + 1) z15 (lpc hs13 hr13))
                · have hs13 := iq hc87 hs13
                  refine J_aload_n hK qd1_73.2.2.2.2.2.2.2.2.1 rfl 0 rfl rfl ?_
                  refine J_get hK fo_RX5_27 qd1_73.2.2.2.2.2.2.2.2.2.1 rfl 0 0 rfl rfl rfl ?_
                  refine J_iload_n hK qd1_73.2.2.2.2.2.2.2.2.2.2.1 rfl 2 rfl rfl ?_
                  refine J_iload hK qd1_73.2.2.2.2.2.2.2.2.2.2.2.1 rfl 4 rfl ?_
                  refine J_iadd hK qd1_73.2.2.2.2.2.2.2.2.2.2.2.2.1 rfl ?_
                  refine J_iload hK qd1_73.2.2.2.2.2.2.2.2.2.2.2.2.2.1 rfl 3 rfl ?_
                  obtain ⟨f19, ef19, hs13⟩ := bs hs13
                  refine J_iast (g' := gWy d h0 x0_edgeA x0_edgeB x0_edgeCost x0_edgeLine x0_change f19 x0_steps x0_nodes x0_stepCount x0_open x0_openCount x0_seen x0_edgeCount x0_aim) (gs' := [gWy d h0 x0_edgeA x0_edgeB x0_edgeCost x0_edgeLine x0_change f19 x0_steps x0_nodes x0_stepCount x0_open x0_openCount x0_seen x0_edgeCount x0_aim]) hK qd1_73.2.2.2.2.2.2.2.2.2.2.2.2.2.2.1 rfl 0 6 rfl rfl ef19 rfl rfl ?_
                  refine J_iinc (L' := [(5, .int (z14 + 1)), (0, .ref (h0 0)), (1, .int z2), (2, .int (z2 * 3)), (4, .int (w11 + v12))]) (v := (z14 + 1)) hK qd1_73.2.2.2.2.2.2.2.2.2.2.2.2.2.2.2.1 rfl 4 rfl rfl (by decide) rfl ?_
                  refine J_goto hK qd1_74.1 (n := 70) rfl ?_
                  exact J_loc [1, 2, 3, 4, 0] rfl (ih13 (z14 + 1) f19 (lpc hs13 hr13))
          exact J_loc [2, 3, 4, 1, 0] rfl (lo13 n (0) z3 hl13)
        have lo7 : ∀ (k : Nat) (z8 : Int32) (z9 : Int32), lp (u2 (fX5_nearByChanges_s22 z2 z3)) k (z8, z9) = some e10 → J d Φ 6 [gWy d h0 x0_edgeA x0_edgeB x0_edgeCost x0_edgeLine x0_change z3 x0_steps x0_nodes x0_stepCount x0_open x0_openCount x0_seen x0_edgeCount x0_aim] 0 0 22 [(0, .ref (h0 0)), (1, .int z2), (2, .int (z2 * 3)), (3, .int z8), (4, .int z9)] [] := by
          intro k
          induction k with
          | zero => intro z8 z9 h; cases h
          | succ k ih7 =>
            intro z8 z9 h
            obtain ⟨k2, rr7, hk2, hs7, hr7⟩ := lp_ok h
            cases hk2
            have hs7 : fX5_nearByChanges_s22 z2 z3 z8 z9 = some rr7 := hs7
            unfold fX5_nearByChanges_s22 at hs7
            refine J_iload hK qd1_71.1 rfl 4 rfl ?_
            refine J_iconst (v := 3) hK qd1_71.2.1 rfl (by decide) ?_
            refine J_icmp_ge (tg := 57) hK qd1_71.2.2.1 rfl rfl (fun hc25 => ?_) (fun hc25 => ?_)
            · have hs7 := ip hc25 hs7
              exact J_loc [0, 1, 2, 3] rfl (hx7_57 z8 (lpx hs7 hr7))
            · have hs7 := iq hc25 hs7
              refine J_aload_n hK qd1_71.2.2.2.1 rfl 0 rfl rfl ?_
              refine J_get hK fo_RX5_27 qd1_71.2.2.2.2.1 rfl 0 0 rfl rfl rfl ?_
              refine J_iload_n hK qd1_71.2.2.2.2.2.1 rfl 2 rfl rfl ?_
              refine J_iload hK qd1_71.2.2.2.2.2.2.1 rfl 4 rfl ?_
              refine J_iadd hK qd1_71.2.2.2.2.2.2.2.1 rfl ?_
              obtain ⟨v20, ev20, hs7⟩ := bs hs7
              refine J_iald hK qd1_71.2.2.2.2.2.2.2.2.1 rfl 0 6 rfl rfl ev20 ?_
              refine J_iload_n hK qd1_71.2.2.2.2.2.2.2.2.2.1 rfl 3 rfl rfl ?_
              refine J_icmp_ge (tg := 51) hK qd1_71.2.2.2.2.2.2.2.2.2.2.1 rfl rfl (fun hc38 => ?_) (fun hc38 => ?_)
              · have hs7 := ip hc38 hs7
                refine J_iinc (L' := [(4, .int (z9 + 1)), (0, .ref (h0 0)), (1, .int z2), (2, .int (z2 * 3)), (3, .int z8)]) (v := (z9 + 1)) hK qd1_72.2.2.1 rfl 4 rfl rfl (by decide) rfl ?_
                refine J_goto hK qd1_72.2.2.2.1 (n := 22) rfl ?_
                exact J_loc [1, 2, 3, 4, 0] rfl (ih7 z8 (z9 + 1) (lpc hs7 hr7))
              · have hs7 := iq hc38 hs7
                refine J_aload_n hK qd1_71.2.2.2.2.2.2.2.2.2.2.2.1 rfl 0 rfl rfl ?_
                refine J_get hK fo_RX5_27 qd1_71.2.2.2.2.2.2.2.2.2.2.2.2.1 rfl 0 0 rfl rfl rfl ?_
                refine J_iload_n hK qd1_71.2.2.2.2.2.2.2.2.2.2.2.2.2.1 rfl 2 rfl rfl ?_
                refine J_iload hK qd1_71.2.2.2.2.2.2.2.2.2.2.2.2.2.2.1 rfl 4 rfl ?_
                refine J_iadd hK qd1_71.2.2.2.2.2.2.2.2.2.2.2.2.2.2.2.1 rfl ?_
                obtain ⟨v21, ev21, hs7⟩ := bs hs7
                refine J_iald hK qd1_72.1 rfl 0 6 rfl rfl ev21 ?_
                refine J_istore_n (L' := [(3, .int v21), (0, .ref (h0 0)), (1, .int z2), (2, .int (z2 * 3)), (4, .int z9)]) hK qd1_72.2.1 rfl rfl (by decide) rfl ?_
                refine J_iinc (L' := [(4, .int (z9 + 1)), (3, .int v21), (0, .ref (h0 0)), (1, .int z2), (2, .int (z2 * 3))]) (v := (z9 + 1)) hK qd1_72.2.2.1 rfl 4 rfl rfl (by decide) rfl ?_
                refine J_goto hK qd1_72.2.2.2.1 (n := 22) rfl ?_
                exact J_loc [2, 3, 4, 1, 0] rfl (ih7 v21 (z9 + 1) (lpc hs7 hr7))
        exact J_loc [3, 4, 2, 1, 0] rfl (lo7 n v6 (1) hl7)
  exact J_loc [1, 0] rfl (lo1 n (0) x0_away hl1)

def fX5_aimAt_s49 (n : Nat) (p1 : Int32) (x0_edgeA : (Nat → Int32)) (x0_edgeB : (Nat → Int32)) (x0_edgeCost : (Nat → Int32)) (x0_edgeLine : (Nat → Int32)) (x0_change : (Nat → Int32)) (x0_steps : (Nat → Int32)) (x0_nodes : (Nat → Int32)) (x0_stepCount : Int32) (x0_open : (Nat → Int32)) (x0_openCount : Int32) (x0_seen : Int64) (x0_edgeCount : Int32) (z9 : Int32) (z10 : (Nat → Int32)) : Option ((Int32 × (Nat → Int32)) ⊕ ((Nat → Int32))) :=
  if 36 ≤ z9 then (some (.inr z10)) else ((fX5_nearByLines n (x0_edgeA, x0_edgeB, x0_edgeCost, x0_edgeLine, x0_change, z10, x0_steps, x0_nodes, x0_stepCount, x0_open, x0_openCount, x0_seen, x0_edgeCount, p1)).bind (u2 fun v13 g14 => if v13 = 0 then (some (.inr g14)) else ((fX5_nearByChanges n (x0_edgeA, x0_edgeB, x0_edgeCost, x0_edgeLine, x0_change, g14, x0_steps, x0_nodes, x0_stepCount, x0_open, x0_openCount, x0_seen, x0_edgeCount, p1)).bind (fun g16 => some (.inl ((z9 + 1), g16))))))
def fX5_aimAt_s25 (p1 : Int32) (z4 : Int32) (z5 : (Nat → Int32)) : Option ((Int32 × (Nat → Int32)) ⊕ ((Nat → Int32))) :=
  if 3 ≤ z4 then (some (.inr z5)) else ((wr 36 z5 ((p1 * 3) + z4) (0)).bind fun f18 => some (.inl ((z4 + 1), f18)))
def fX5_aimAt (n : Nat) (X0 : WyT) (p1 : Int32) : Option ((Nat → Int32) × Int32) :=
  u14 (fun (x0_edgeA : (Nat → Int32)) (x0_edgeB : (Nat → Int32)) (x0_edgeCost : (Nat → Int32)) (x0_edgeLine : (Nat → Int32)) (x0_change : (Nat → Int32)) (x0_away : (Nat → Int32)) (x0_steps : (Nat → Int32)) (x0_nodes : (Nat → Int32)) (x0_stepCount : Int32) (x0_open : (Nat → Int32)) (x0_openCount : Int32) (x0_seen : Int64) (x0_edgeCount : Int32) (x0_aim : Int32) => if x0_aim = p1 then (some (x0_away, x0_aim)) else ((fJ7_fill_53178 n 36 x0_away (1000000)).bind (fun g1 => (lp (u2 (fX5_aimAt_s25 p1)) n (0, g1)).bind (fun w7 => (lp (u2 (fX5_aimAt_s49 n p1 x0_edgeA x0_edgeB x0_edgeCost x0_edgeLine x0_change x0_steps x0_nodes x0_stepCount x0_open x0_openCount x0_seen x0_edgeCount)) n (0, w7)).bind (fun w12 => some (w12, p1)))))) X0
set_option maxHeartbeats 4000000 in
set_option maxRecDepth 100000 in
theorem kX5_aimAt (l : Launch) (d : DT) (h0 : Nat → Nat) (n : Nat) (x0_edgeA : (Nat → Int32)) (x0_edgeB : (Nat → Int32)) (x0_edgeCost : (Nat → Int32)) (x0_edgeLine : (Nat → Int32)) (x0_change : (Nat → Int32)) (x0_away : (Nat → Int32)) (x0_steps : (Nat → Int32)) (x0_nodes : (Nat → Int32)) (x0_stepCount : Int32) (x0_open : (Nat → Int32)) (x0_openCount : Int32) (x0_seen : Int64) (x0_edgeCount : Int32) (x0_aim : Int32) (p1 : Int32)  {out : (Nat → Int32) × Int32} (hf : fX5_aimAt n (x0_edgeA, x0_edgeB, x0_edgeCost, x0_edgeLine, x0_change, x0_away, x0_steps, x0_nodes, x0_stepCount, x0_open, x0_openCount, x0_seen, x0_edgeCount, x0_aim) p1 = some out) : Ct l d yX5_aimAt cX5_aimAt 3 none { frames := 1, cells := 0, slots := 0, locals := 25 } [.ref (h0 0), .int p1] [gWy d h0 x0_edgeA x0_edgeB x0_edgeCost x0_edgeLine x0_change x0_away x0_steps x0_nodes x0_stepCount x0_open x0_openCount x0_seen x0_edgeCount x0_aim] (fun _ : Unit => (none, [gWy d h0 x0_edgeA x0_edgeB x0_edgeCost x0_edgeLine x0_change (out.1) x0_steps x0_nodes x0_stepCount x0_open x0_openCount x0_seen x0_edgeCount (out.2)])) := by
  refine Ct.of (by decide) (Nat.le_of_ble_eq_true rfl) ?_
  intro Φ hl hK hR
  subst hl
  have hK : Ok d Φ RX5 "aimAt" cX5_aimAt 3 none { frames := 1, cells := 0, slots := 0, locals := 25 } := hK
  unfold fX5_aimAt at hf
  have hf := un14 hf
  show J d Φ 3 [gWy d h0 x0_edgeA x0_edgeB x0_edgeCost x0_edgeLine x0_change x0_away x0_steps x0_nodes x0_stepCount x0_open x0_openCount x0_seen x0_edgeCount x0_aim] 0 0 0 [(0, .ref (h0 0)), (1, .int p1)] []
  refine J_aload_n hK qd1_62.1 rfl 0 rfl rfl ?_
  refine J_get hK fo_RX5_39 qd1_62.2.1 rfl 0 0 rfl rfl rfl ?_
  refine J_iload_n hK qd1_62.2.2.1 rfl 1 rfl rfl ?_
  refine J_icmp_ne (tg := 9) hK qd1_62.2.2.2.1 rfl rfl (fun hc5 => ?_) (fun hc5 => ?_)
  · have hf := iq hc5 hf
    refine J_aload_n hK qd1_62.2.2.2.2.2.1 rfl 0 rfl rfl ?_
    refine J_iload_n hK qd1_62.2.2.2.2.2.2.1 rfl 1 rfl rfl ?_
    refine J_put (g' := gWy d h0 x0_edgeA x0_edgeB x0_edgeCost x0_edgeLine x0_change x0_away x0_steps x0_nodes x0_stepCount x0_open x0_openCount x0_seen x0_edgeCount p1) (gs' := [gWy d h0 x0_edgeA x0_edgeB x0_edgeCost x0_edgeLine x0_change x0_away x0_steps x0_nodes x0_stepCount x0_open x0_openCount x0_seen x0_edgeCount p1]) hK fp_RX5_39 qd1_62.2.2.2.2.2.2.2.1 rfl 0 0 rfl rfl rfl rfl (Nat.le_of_ble_eq_true rfl) rfl rfl ?_
    refine J_aload_n hK qd1_62.2.2.2.2.2.2.2.2.1 rfl 0 rfl rfl ?_
    refine J_get hK fo_RX5_27 qd1_62.2.2.2.2.2.2.2.2.2.1 rfl 0 0 rfl rfl rfl ?_
    refine J_ldc (v := 1000000) hK qd1_62.2.2.2.2.2.2.2.2.2.2.1 rfl wk_RX5_65 ?_
    refine J_fl (gs2 := [(gWy d h0 x0_edgeA x0_edgeB x0_edgeCost x0_edgeLine x0_change x0_away x0_steps x0_nodes x0_stepCount x0_open x0_openCount x0_seen x0_edgeCount p1).take 6, [cI d (h0 6) 36 x0_away], (gWy d h0 x0_edgeA x0_edgeB x0_edgeCost x0_edgeLine x0_change x0_away x0_steps x0_nodes x0_stepCount x0_open x0_openCount x0_seen x0_edgeCount p1).drop 7]) rfl ?_
    obtain ⟨g1, e2, hf⟩ := bs hf
    refine J_callS (m := 3) (m' := 3) (ce' := 0) (sl' := 0) (gr := [(gWy d h0 x0_edgeA x0_edgeB x0_edgeCost x0_edgeLine x0_change x0_away x0_steps x0_nodes x0_stepCount x0_open x0_openCount x0_seen x0_edgeCount p1).take 6, (gWy d h0 x0_edgeA x0_edgeB x0_edgeCost x0_edgeLine x0_change x0_away x0_steps x0_nodes x0_stepCount x0_open x0_openCount x0_seen x0_edgeCount p1).drop 7]) (gs' := fun _ => [(gWy d h0 x0_edgeA x0_edgeB x0_edgeCost x0_edgeLine x0_change x0_away x0_steps x0_nodes x0_stepCount x0_open x0_openCount x0_seen x0_edgeCount p1).take 6, [cI d (h0 6) 36 g1], (gWy d h0 x0_edgeA x0_edgeB x0_edgeCost x0_edgeLine x0_change x0_away x0_steps x0_nodes x0_stepCount x0_open x0_openCount x0_seen x0_edgeCount p1).drop 7]) (st' := fun _ => []) (st := []) hK qd1_62.2.2.2.2.2.2.2.2.2.2.2.1 cv_RX5_66 ws_yJ7_fill_53178 (As := [.ref (h0 6), .int (1000000)]) (kJ7_fill_53178 _ d (h0 6) n 36 x0_away (1000000) e2) rfl rfl (Nat.le_of_ble_eq_true rfl) (by decide) [1] [0, 2] rfl (by decide +kernel) rfl rfl [0, 2, 1] (by decide +kernel) (fun _ => rfl) (fun _ => rfl) rfl rfl rfl (fun _ => rfl) (fun _ => ?_)
    refine J_fl (gs2 := [gWy d h0 x0_edgeA x0_edgeB x0_edgeCost x0_edgeLine x0_change g1 x0_steps x0_nodes x0_stepCount x0_open x0_openCount x0_seen x0_edgeCount p1]) rfl ?_
    refine J_iconst (v := 0) hK qd1_62.2.2.2.2.2.2.2.2.2.2.2.2.1 rfl (by decide) ?_
    refine J_istore_n (L' := [(2, .int (0)), (0, .ref (h0 0)), (1, .int p1)]) hK qd1_62.2.2.2.2.2.2.2.2.2.2.2.2.2.1 rfl rfl (by decide) rfl ?_
    obtain ⟨e6, hl3, hf⟩ := bs hf
    have hx3_47 : ∀ (w7 : (Nat → Int32)), w7 = e6 → J d Φ 3 [gWy d h0 x0_edgeA x0_edgeB x0_edgeCost x0_edgeLine x0_change w7 x0_steps x0_nodes x0_stepCount x0_open x0_openCount x0_seen x0_edgeCount p1] 0 0 47 [(0, .ref (h0 0))] [] := by
      intro w7 he
      rw [← he] at hf
      refine J_iconst (v := 0) hK qd1_63.2.2.2.2.2.2.2.2.2.2.2.2.1 rfl (by decide) ?_
      refine J_istore_n (L' := [(2, .int (0)), (0, .ref (h0 0))]) hK qd1_63.2.2.2.2.2.2.2.2.2.2.2.2.2.1 rfl rfl (by decide) rfl ?_
      obtain ⟨e11, hl8, hf⟩ := bs hf
      have hx8_72 : ∀ (w12 : (Nat → Int32)), w12 = e11 → J d Φ 3 [gWy d h0 x0_edgeA x0_edgeB x0_edgeCost x0_edgeLine x0_change w12 x0_steps x0_nodes x0_stepCount x0_open x0_openCount x0_seen x0_edgeCount p1] 0 0 72 [] [] := by
        intro w12 he
        rw [← he] at hf
        obtain rfl := Option.some.inj hf
        exact J_vret hK hR qd1_64.2.2.2.2.2.2.2.2.1 () rfl (by decide) (by decide)
      have lo8 : ∀ (k : Nat) (z9 : Int32) (z10 : (Nat → Int32)), lp (u2 (fX5_aimAt_s49 n p1 x0_edgeA x0_edgeB x0_edgeCost x0_edgeLine x0_change x0_steps x0_nodes x0_stepCount x0_open x0_openCount x0_seen x0_edgeCount)) k (z9, z10) = some e11 → J d Φ 3 [gWy d h0 x0_edgeA x0_edgeB x0_edgeCost x0_edgeLine x0_change z10 x0_steps x0_nodes x0_stepCount x0_open x0_openCount x0_seen x0_edgeCount p1] 0 0 49 [(0, .ref (h0 0)), (2, .int z9)] [] := by
        intro k
        induction k with
        | zero => intro z9 z10 h; cases h
        | succ k ih8 =>
          intro z9 z10 h
          obtain ⟨k2, rr8, hk2, hs8, hr8⟩ := lp_ok h
          cases hk2
          have hs8 : fX5_aimAt_s49 n p1 x0_edgeA x0_edgeB x0_edgeCost x0_edgeLine x0_change x0_steps x0_nodes x0_stepCount x0_open x0_openCount x0_seen x0_edgeCount z9 z10 = some rr8 := hs8
          unfold fX5_aimAt_s49 at hs8
          refine J_iload_n hK qd1_63.2.2.2.2.2.2.2.2.2.2.2.2.2.2.1 rfl 1 rfl rfl ?_
          refine J_bipush (v := 36) hK qd1_63.2.2.2.2.2.2.2.2.2.2.2.2.2.2.2.1 rfl (by decide) ?_
          refine J_icmp_ge (tg := 72) hK qd1_64.1 rfl rfl (fun hc52 => ?_) (fun hc52 => ?_)
          · have hs8 := ip hc52 hs8
            exact J_loc [] rfl (hx8_72 z10 (lpx hs8 hr8))
          · have hs8 := iq hc52 hs8
            refine J_aload_n hK qd1_64.2.1 rfl 0 rfl rfl ?_
            obtain ⟨⟨v13, g14⟩, e15, hs8⟩ := bs hs8
            have hs8 := un2 hs8
            refine J_callV (m := 1) (m' := 1) (ce' := 0) (sl' := 0) (gr := []) (gs' := fun _ => [gWy d h0 x0_edgeA x0_edgeB x0_edgeCost x0_edgeLine x0_change g14 x0_steps x0_nodes x0_stepCount x0_open x0_openCount x0_seen x0_edgeCount p1]) (st' := fun _ => [.int v13]) (st := []) hK qd1_64.2.2.1 cv_RX5_72 iv_yX5_nearByLines (As := []) (kX5_nearByLines _ d h0 n x0_edgeA x0_edgeB x0_edgeCost x0_edgeLine x0_change z10 x0_steps x0_nodes x0_stepCount x0_open x0_openCount x0_seen x0_edgeCount p1 e15) rfl rfl (Nat.le_of_ble_eq_true rfl) (by decide) 0 0 rfl rfl rfl [0] [] rfl (by decide +kernel) rfl rfl [0] (by decide +kernel) (fun _ => rfl) (fun _ => rfl) rfl rfl rfl (fun _ => rfl) (fun _ => ?_)
            refine J_if_eq (tg := 72) hK qd1_64.2.2.2.1 rfl rfl (fun hc59 => ?_) (fun hc59 => ?_)
            · have hs8 := ip hc59 hs8
              exact J_loc [] rfl (hx8_72 g14 (lpx hs8 hr8))
            · have hs8 := iq hc59 hs8
              refine J_aload_n hK qd1_64.2.2.2.2.1 rfl 0 rfl rfl ?_
              obtain ⟨g16, e17, hs8⟩ := bs hs8
              refine J_callV (m := 1) (m' := 1) (ce' := 0) (sl' := 0) (gr := []) (gs' := fun _ => [gWy d h0 x0_edgeA x0_edgeB x0_edgeCost x0_edgeLine x0_change g16 x0_steps x0_nodes x0_stepCount x0_open x0_openCount x0_seen x0_edgeCount p1]) (st' := fun _ => []) (st := []) hK qd1_64.2.2.2.2.2.1 cv_RX5_76 iv_yX5_nearByChanges (As := []) (kX5_nearByChanges _ d h0 n x0_edgeA x0_edgeB x0_edgeCost x0_edgeLine x0_change g14 x0_steps x0_nodes x0_stepCount x0_open x0_openCount x0_seen x0_edgeCount p1 e17) rfl rfl (Nat.le_of_ble_eq_true rfl) (by decide) 0 0 rfl rfl rfl [0] [] rfl (by decide +kernel) rfl rfl [0] (by decide +kernel) (fun _ => rfl) (fun _ => rfl) rfl rfl rfl (fun _ => rfl) (fun _ => ?_)
              refine J_iinc (L' := [(2, .int (z9 + 1)), (0, .ref (h0 0))]) (v := (z9 + 1)) hK qd1_64.2.2.2.2.2.2.1 rfl 1 rfl rfl (by decide) rfl ?_
              refine J_goto hK qd1_64.2.2.2.2.2.2.2.1 (n := 49) rfl ?_
              exact J_loc [1, 0] rfl (ih8 (z9 + 1) g16 (lpc hs8 hr8))
      exact J_loc [1, 0] rfl (lo8 n (0) w7 hl8)
    have lo3 : ∀ (k : Nat) (z4 : Int32) (z5 : (Nat → Int32)), lp (u2 (fX5_aimAt_s25 p1)) k (z4, z5) = some e6 → J d Φ 3 [gWy d h0 x0_edgeA x0_edgeB x0_edgeCost x0_edgeLine x0_change z5 x0_steps x0_nodes x0_stepCount x0_open x0_openCount x0_seen x0_edgeCount p1] 0 0 25 [(0, .ref (h0 0)), (1, .int p1), (2, .int z4)] [] := by
      intro k
      induction k with
      | zero => intro z4 z5 h; cases h
      | succ k ih3 =>
        intro z4 z5 h
        obtain ⟨k2, rr3, hk2, hs3, hr3⟩ := lp_ok h
        cases hk2
        have hs3 : fX5_aimAt_s25 p1 z4 z5 = some rr3 := hs3
        unfold fX5_aimAt_s25 at hs3
        refine J_iload_n hK qd1_62.2.2.2.2.2.2.2.2.2.2.2.2.2.2.1 rfl 2 rfl rfl ?_
        refine J_iconst (v := 3) hK qd1_62.2.2.2.2.2.2.2.2.2.2.2.2.2.2.2.1 rfl (by decide) ?_
        refine J_icmp_ge (tg := 47) hK qd1_63.1 rfl rfl (fun hc27 => ?_) (fun hc27 => ?_)
        · have hs3 := ip hc27 hs3
          exact J_loc [0] rfl (hx3_47 z5 (lpx hs3 hr3))
        · have hs3 := iq hc27 hs3
          refine J_aload_n hK qd1_63.2.1 rfl 0 rfl rfl ?_
          refine J_get hK fo_RX5_27 qd1_63.2.2.1 rfl 0 0 rfl rfl rfl ?_
          refine J_iload_n hK qd1_63.2.2.2.1 rfl 1 rfl rfl ?_
          refine J_iconst (v := 3) hK qd1_63.2.2.2.2.1 rfl (by decide) ?_
          refine J_imul hK qd1_63.2.2.2.2.2.1 rfl ?_
          refine J_iload_n hK qd1_63.2.2.2.2.2.2.1 rfl 2 rfl rfl ?_
          refine J_iadd hK qd1_63.2.2.2.2.2.2.2.1 rfl ?_
          refine J_iconst (v := 0) hK qd1_63.2.2.2.2.2.2.2.2.1 rfl (by decide) ?_
          obtain ⟨f18, ef18, hs3⟩ := bs hs3
          refine J_iast (g' := gWy d h0 x0_edgeA x0_edgeB x0_edgeCost x0_edgeLine x0_change f18 x0_steps x0_nodes x0_stepCount x0_open x0_openCount x0_seen x0_edgeCount p1) (gs' := [gWy d h0 x0_edgeA x0_edgeB x0_edgeCost x0_edgeLine x0_change f18 x0_steps x0_nodes x0_stepCount x0_open x0_openCount x0_seen x0_edgeCount p1]) hK qd1_63.2.2.2.2.2.2.2.2.2.1 rfl 0 6 rfl rfl ef18 rfl rfl ?_
          refine J_iinc (L' := [(2, .int (z4 + 1)), (0, .ref (h0 0)), (1, .int p1)]) (v := (z4 + 1)) hK qd1_63.2.2.2.2.2.2.2.2.2.2.1 rfl 2 rfl rfl (by decide) rfl ?_
          refine J_goto hK qd1_63.2.2.2.2.2.2.2.2.2.2.2.1 (n := 25) rfl ?_
          exact J_loc [1, 2, 0] rfl (ih3 (z4 + 1) f18 (lpc hs3 hr3))
    exact J_loc [1, 2, 0] rfl (lo3 n (0) g1 hl3)
  · have hf := ip hc5 hf
    obtain rfl := Option.some.inj hf
    exact J_vret hK hR qd1_62.2.2.2.2.1 () rfl (by decide) (by decide)

def fX5_costFrom_s5 (p1 : Int32) (x0_away : (Nat → Int32)) (z2 : Int32) (z3 : Int32) : Option ((Int32 × Int32) ⊕ (Int32)) :=
  if 3 ≤ z3 then (some (.inr z2)) else ((rd 36 x0_away ((p1 * 3) + z3)).bind fun v6 => if z2 ≤ v6 then (some (.inl (z2, (z3 + 1)))) else ((rd 36 x0_away ((p1 * 3) + z3)).bind fun v7 => some (.inl (v7, (z3 + 1)))))
def fX5_costFrom (n : Nat) (X0 : WyT) (p1 : Int32) : Option (Int32) :=
  u14 (fun (x0_edgeA : (Nat → Int32)) (x0_edgeB : (Nat → Int32)) (x0_edgeCost : (Nat → Int32)) (x0_edgeLine : (Nat → Int32)) (x0_change : (Nat → Int32)) (x0_away : (Nat → Int32)) (x0_steps : (Nat → Int32)) (x0_nodes : (Nat → Int32)) (x0_stepCount : Int32) (x0_open : (Nat → Int32)) (x0_openCount : Int32) (x0_seen : Int64) (x0_edgeCount : Int32) (x0_aim : Int32) => (lp (u2 (fX5_costFrom_s5 p1 x0_away)) n (1000000, 0)).bind (fun w5 => if 1000000 ≤ w5 then (some (-1)) else (some w5))) X0
set_option maxHeartbeats 4000000 in
set_option maxRecDepth 100000 in
theorem kX5_costFrom (l : Launch) (d : DT) (h0 : Nat → Nat) (n : Nat) (x0_edgeA : (Nat → Int32)) (x0_edgeB : (Nat → Int32)) (x0_edgeCost : (Nat → Int32)) (x0_edgeLine : (Nat → Int32)) (x0_change : (Nat → Int32)) (x0_away : (Nat → Int32)) (x0_steps : (Nat → Int32)) (x0_nodes : (Nat → Int32)) (x0_stepCount : Int32) (x0_open : (Nat → Int32)) (x0_openCount : Int32) (x0_seen : Int64) (x0_edgeCount : Int32) (x0_aim : Int32) (p1 : Int32)  {out : Int32} (hf : fX5_costFrom n (x0_edgeA, x0_edgeB, x0_edgeCost, x0_edgeLine, x0_change, x0_away, x0_steps, x0_nodes, x0_stepCount, x0_open, x0_openCount, x0_seen, x0_edgeCount, x0_aim) p1 = some out) : Ct l d yX5_costFrom cX5_costFrom 4 (some .int) { frames := 0, cells := 0, slots := 0, locals := 0 } [.ref (h0 0), .int p1] [gWy d h0 x0_edgeA x0_edgeB x0_edgeCost x0_edgeLine x0_change x0_away x0_steps x0_nodes x0_stepCount x0_open x0_openCount x0_seen x0_edgeCount x0_aim] (fun _ : Unit => (some (.int out), [gWy d h0 x0_edgeA x0_edgeB x0_edgeCost x0_edgeLine x0_change x0_away x0_steps x0_nodes x0_stepCount x0_open x0_openCount x0_seen x0_edgeCount x0_aim])) := by
  refine Ct.of (by decide) (Nat.le_of_ble_eq_true rfl) ?_
  intro Φ hl hK hR
  subst hl
  have hK : Ok d Φ RX5 "costFrom" cX5_costFrom 4 (some .int) { frames := 0, cells := 0, slots := 0, locals := 0 } := hK
  unfold fX5_costFrom at hf
  have hf := un14 hf
  show J d Φ 4 [gWy d h0 x0_edgeA x0_edgeB x0_edgeCost x0_edgeLine x0_change x0_away x0_steps x0_nodes x0_stepCount x0_open x0_openCount x0_seen x0_edgeCount x0_aim] 0 0 0 [(0, .ref (h0 0)), (1, .int p1)] []
  refine J_ldc (v := 1000000) hK qd1_75.1 rfl wk_RX5_65 ?_
  refine J_istore_n (L' := [(2, .int (1000000)), (0, .ref (h0 0)), (1, .int p1)]) hK qd1_75.2.1 rfl rfl (by decide) rfl ?_
  refine J_iconst (v := 0) hK qd1_75.2.2.1 rfl (by decide) ?_
  refine J_istore_n (L' := [(3, .int (0)), (2, .int (1000000)), (0, .ref (h0 0)), (1, .int p1)]) hK qd1_75.2.2.2.1 rfl rfl (by decide) rfl ?_
  obtain ⟨e4, hl1, hf⟩ := bs hf
  have hx1_41 : ∀ (w5 : Int32), w5 = e4 → J d Φ 4 [gWy d h0 x0_edgeA x0_edgeB x0_edgeCost x0_edgeLine x0_change x0_away x0_steps x0_nodes x0_stepCount x0_open x0_openCount x0_seen x0_edgeCount x0_aim] 0 0 41 [(2, .int w5)] [] := by
    intro w5 he
    rw [← he] at hf
    refine J_iload_n hK qd1_76.2.2.2.2.2.2.2.2.2.2.2.2.1 rfl 0 rfl rfl ?_
    refine J_ldc (v := 1000000) hK qd1_76.2.2.2.2.2.2.2.2.2.2.2.2.2.1 rfl wk_RX5_65 ?_
    refine J_icmp_ge (tg := 51) hK qd1_76.2.2.2.2.2.2.2.2.2.2.2.2.2.2.1 rfl rfl (fun hc44 => ?_) (fun hc44 => ?_)
    · have hf := ip hc44 hf
      refine J_iconst (v := (-1)) hK qd1_77.2.1 rfl (by decide) ?_
      obtain rfl := Option.some.inj hf
      exact J_iret hK hR qd1_77.2.2.1 () rfl (by decide) (by decide)
    · have hf := iq hc44 hf
      refine J_iload_n hK qd1_76.2.2.2.2.2.2.2.2.2.2.2.2.2.2.2.1 rfl 0 rfl rfl ?_
      refine J_goto hK qd1_77.1 (n := 52) rfl ?_
      obtain rfl := Option.some.inj hf
      exact J_iret hK hR qd1_77.2.2.1 () rfl (by decide) (by decide)
  have lo1 : ∀ (k : Nat) (z2 : Int32) (z3 : Int32), lp (u2 (fX5_costFrom_s5 p1 x0_away)) k (z2, z3) = some e4 → J d Φ 4 [gWy d h0 x0_edgeA x0_edgeB x0_edgeCost x0_edgeLine x0_change x0_away x0_steps x0_nodes x0_stepCount x0_open x0_openCount x0_seen x0_edgeCount x0_aim] 0 0 5 [(0, .ref (h0 0)), (1, .int p1), (2, .int z2), (3, .int z3)] [] := by
    intro k
    induction k with
    | zero => intro z2 z3 h; cases h
    | succ k ih1 =>
      intro z2 z3 h
      obtain ⟨k2, rr1, hk2, hs1, hr1⟩ := lp_ok h
      cases hk2
      have hs1 : fX5_costFrom_s5 p1 x0_away z2 z3 = some rr1 := hs1
      unfold fX5_costFrom_s5 at hs1
      refine J_iload_n hK qd1_75.2.2.2.2.1 rfl 3 rfl rfl ?_
      refine J_iconst (v := 3) hK qd1_75.2.2.2.2.2.1 rfl (by decide) ?_
      refine J_icmp_ge (tg := 41) hK qd1_75.2.2.2.2.2.2.1 rfl rfl (fun hc7 => ?_) (fun hc7 => ?_)
      · have hs1 := ip hc7 hs1
        exact J_loc [2] rfl (hx1_41 z2 (lpx hs1 hr1))
      · have hs1 := iq hc7 hs1
        refine J_aload_n hK qd1_75.2.2.2.2.2.2.2.1 rfl 0 rfl rfl ?_
        refine J_get hK fo_RX5_27 qd1_75.2.2.2.2.2.2.2.2.1 rfl 0 0 rfl rfl rfl ?_
        refine J_iload_n hK qd1_75.2.2.2.2.2.2.2.2.2.1 rfl 1 rfl rfl ?_
        refine J_iconst (v := 3) hK qd1_75.2.2.2.2.2.2.2.2.2.2.1 rfl (by decide) ?_
        refine J_imul hK qd1_75.2.2.2.2.2.2.2.2.2.2.2.1 rfl ?_
        refine J_iload_n hK qd1_75.2.2.2.2.2.2.2.2.2.2.2.2.1 rfl 3 rfl rfl ?_
        refine J_iadd hK qd1_75.2.2.2.2.2.2.2.2.2.2.2.2.2.1 rfl ?_
        obtain ⟨v6, ev6, hs1⟩ := bs hs1
        refine J_iald hK qd1_75.2.2.2.2.2.2.2.2.2.2.2.2.2.2.1 rfl 0 6 rfl rfl ev6 ?_
        refine J_iload_n hK qd1_75.2.2.2.2.2.2.2.2.2.2.2.2.2.2.2.1 rfl 2 rfl rfl ?_
        refine J_icmp_ge (tg := 35) hK qd1_76.1 rfl rfl (fun hc21 => ?_) (fun hc21 => ?_)
        · have hs1 := ip hc21 hs1
          refine J_iinc (L' := [(3, .int (z3 + 1)), (0, .ref (h0 0)), (1, .int p1), (2, .int z2)]) (v := (z3 + 1)) hK qd1_76.2.2.2.2.2.2.2.2.2.2.1 rfl 3 rfl rfl (by decide) rfl ?_
          refine J_goto hK qd1_76.2.2.2.2.2.2.2.2.2.2.2.1 (n := 5) rfl ?_
          exact J_loc [1, 2, 3, 0] rfl (ih1 z2 (z3 + 1) (lpc hs1 hr1))
        · have hs1 := iq hc21 hs1
          refine J_aload_n hK qd1_76.2.1 rfl 0 rfl rfl ?_
          refine J_get hK fo_RX5_27 qd1_76.2.2.1 rfl 0 0 rfl rfl rfl ?_
          refine J_iload_n hK qd1_76.2.2.2.1 rfl 1 rfl rfl ?_
          refine J_iconst (v := 3) hK qd1_76.2.2.2.2.1 rfl (by decide) ?_
          refine J_imul hK qd1_76.2.2.2.2.2.1 rfl ?_
          refine J_iload_n hK qd1_76.2.2.2.2.2.2.1 rfl 3 rfl rfl ?_
          refine J_iadd hK qd1_76.2.2.2.2.2.2.2.1 rfl ?_
          obtain ⟨v7, ev7, hs1⟩ := bs hs1
          refine J_iald hK qd1_76.2.2.2.2.2.2.2.2.1 rfl 0 6 rfl rfl ev7 ?_
          refine J_istore_n (L' := [(2, .int v7), (0, .ref (h0 0)), (1, .int p1), (3, .int z3)]) hK qd1_76.2.2.2.2.2.2.2.2.2.1 rfl rfl (by decide) rfl ?_
          refine J_iinc (L' := [(3, .int (z3 + 1)), (2, .int v7), (0, .ref (h0 0)), (1, .int p1)]) (v := (z3 + 1)) hK qd1_76.2.2.2.2.2.2.2.2.2.2.1 rfl 3 rfl rfl (by decide) rfl ?_
          refine J_goto hK qd1_76.2.2.2.2.2.2.2.2.2.2.2.1 (n := 5) rfl ?_
          exact J_loc [2, 3, 1, 0] rfl (ih1 v7 (z3 + 1) (lpc hs1 hr1))
  exact J_loc [2, 3, 1, 0] rfl (lo1 n (1000000) (0) hl1)

def fX4_freeBy_s24 (n : Nat) (x1_steps : (Nat → Int32)) (x1_nodes : (Nat → Int32)) (x1_stepCount : Int32) (x1_open : (Nat → Int32)) (x1_openCount : Int32) (x1_seen : Int64) (x2_lineCount : Int32) (x2_goodsCount : Int32) (x2_workCount : Int32) (x2_years : Int32) (x2_lines : (Nat → Int32)) (x2_goods : (Nat → Int32)) (x2_works : (Nat → Int32)) (x2_change : (Nat → Int32)) (x2_coin : (Nat → Int32)) (x2_knownFree : (Nat → Int32)) (x2_isKnown : Int32) (g2 : (Nat → Int32)) (g3 : (Nat → Int32)) (g4 : (Nat → Int32)) (g5 : (Nat → Int32)) (g6 : (Nat → Int32)) (g7 : Int32) (z12 : Int32) (z20 : Int32) (z21 : Int32) (z22 : (Nat → Int32)) (z23 : Int32) : Option ((Int32 × Int32 × (Nat → Int32) × Int32) ⊕ (Int32 × (Nat → Int32) × Int32)) :=
  if x2_goodsCount ≤ z21 then (some (.inr (z20, z22, z23))) else ((fX1_ofGoods (x2_lineCount, x2_goodsCount, x2_workCount, x2_years, x2_lines, x2_goods, x2_works, x2_change, x2_coin, x2_knownFree, x2_isKnown) z21 (1)).bind (fun v28 => if v28 = z12 then ((fX5_aimAt n (g2, g3, g4, g5, g6, z22, x1_steps, x1_nodes, x1_stepCount, x1_open, x1_openCount, x1_seen, g7, z23) z12).bind (u2 fun g30 g31 => (fX1_ofGoods (x2_lineCount, x2_goodsCount, x2_workCount, x2_years, x2_lines, x2_goods, x2_works, x2_change, x2_coin, x2_knownFree, x2_isKnown) z21 (0)).bind (fun v33 => (fX5_costFrom n (g2, g3, g4, g5, g6, g30, x1_steps, x1_nodes, x1_stepCount, x1_open, x1_openCount, x1_seen, g7, g31) v33).bind (fun v35 => (fX1_ofGoods (x2_lineCount, x2_goodsCount, x2_workCount, x2_years, x2_lines, x2_goods, x2_works, x2_change, x2_coin, x2_knownFree, x2_isKnown) z21 (2)).bind (fun v37 => if v35 = (-1) then (some (.inl ((z20 + (v37 * 999)), (z21 + 1), g30, g31))) else (some (.inl ((z20 + (v37 * v35)), (z21 + 1), g30, g31)))))))) else (some (.inl (z20, (z21 + 1), z22, z23)))))
def fX4_freeBy_s14 (n : Nat) (x1_steps : (Nat → Int32)) (x1_nodes : (Nat → Int32)) (x1_stepCount : Int32) (x1_open : (Nat → Int32)) (x1_openCount : Int32) (x1_seen : Int64) (x2_lineCount : Int32) (x2_goodsCount : Int32) (x2_workCount : Int32) (x2_years : Int32) (x2_lines : (Nat → Int32)) (x2_goods : (Nat → Int32)) (x2_works : (Nat → Int32)) (x2_change : (Nat → Int32)) (x2_coin : (Nat → Int32)) (x2_knownFree : (Nat → Int32)) (x2_isKnown : Int32) (g2 : (Nat → Int32)) (g3 : (Nat → Int32)) (g4 : (Nat → Int32)) (g5 : (Nat → Int32)) (g6 : (Nat → Int32)) (g7 : Int32) (z11 : Int32) (z12 : Int32) (z13 : (Nat → Int32)) (z14 : Int32) : Option ((Int32 × Int32 × (Nat → Int32) × Int32) ⊕ (Int32 × (Nat → Int32) × Int32)) :=
  if 12 ≤ z12 then (some (.inr (z11, z13, z14))) else ((lp (u4 (fX4_freeBy_s24 n x1_steps x1_nodes x1_stepCount x1_open x1_openCount x1_seen x2_lineCount x2_goodsCount x2_workCount x2_years x2_lines x2_goods x2_works x2_change x2_coin x2_knownFree x2_isKnown g2 g3 g4 g5 g6 g7 z12)) n (z11, 0, z13, z14)).bind (u3 fun w25 w26 w27 => some (.inl (w25, (z12 + 1), w26, w27))))
def fX4_freeBy (n : Nat) (X0 : TrT) (X1 : WyT) (X2 : LdT) (p2 : Int32) : Option (Int32 × ((Nat → Int32) × (Nat → Int32) × (Nat → Int32) × (Nat → Int32) × (Nat → Int32) × (Nat → Int32) × Int32 × Int32)) :=
  u4 (fun (x0_left : (Nat → Int32)) (x0_earned : (Nat → Int32)) (x0_turnCost : Int32) (x0_turnWayless : Int32) => u14 (fun (x1_edgeA : (Nat → Int32)) (x1_edgeB : (Nat → Int32)) (x1_edgeCost : (Nat → Int32)) (x1_edgeLine : (Nat → Int32)) (x1_change : (Nat → Int32)) (x1_away : (Nat → Int32)) (x1_steps : (Nat → Int32)) (x1_nodes : (Nat → Int32)) (x1_stepCount : Int32) (x1_open : (Nat → Int32)) (x1_openCount : Int32) (x1_seen : Int64) (x1_edgeCount : Int32) (x1_aim : Int32) => u11 (fun (x2_lineCount : Int32) (x2_goodsCount : Int32) (x2_workCount : Int32) (x2_years : Int32) (x2_lines : (Nat → Int32)) (x2_goods : (Nat → Int32)) (x2_works : (Nat → Int32)) (x2_change : (Nat → Int32)) (x2_coin : (Nat → Int32)) (x2_knownFree : (Nat → Int32)) (x2_isKnown : Int32) => (fX5_prepare n (x1_edgeA, x1_edgeB, x1_edgeCost, x1_edgeLine, x1_change, x1_away, x1_steps, x1_nodes, x1_stepCount, x1_open, x1_openCount, x1_seen, x1_edgeCount, x1_aim) (x2_lineCount, x2_goodsCount, x2_workCount, x2_years, x2_lines, x2_goods, x2_works, x2_change, x2_coin, x2_knownFree, x2_isKnown) p2).bind (fun G1 => u7 (fun g2 g3 g4 g5 g6 g7 g8 => (lp (u4 (fX4_freeBy_s14 n x1_steps x1_nodes x1_stepCount x1_open x1_openCount x1_seen x2_lineCount x2_goodsCount x2_workCount x2_years x2_lines x2_goods x2_works x2_change x2_coin x2_knownFree x2_isKnown g2 g3 g4 g5 g6 g7)) n (0, 0, x1_away, g8)).bind (u3 fun w16 w17 w18 => some (w16, (g2, g3, g4, g5, g6, w17, g7, w18)))) G1)) X2) X1) X0
set_option maxHeartbeats 4000000 in
set_option maxRecDepth 100000 in
theorem kX4_freeBy (l : Launch) (d : DT) (h0 : Nat → Nat) (h1 : Nat → Nat) (h2 : Nat → Nat) (n : Nat) (x0_left : (Nat → Int32)) (x0_earned : (Nat → Int32)) (x0_turnCost : Int32) (x0_turnWayless : Int32) (x1_edgeA : (Nat → Int32)) (x1_edgeB : (Nat → Int32)) (x1_edgeCost : (Nat → Int32)) (x1_edgeLine : (Nat → Int32)) (x1_change : (Nat → Int32)) (x1_away : (Nat → Int32)) (x1_steps : (Nat → Int32)) (x1_nodes : (Nat → Int32)) (x1_stepCount : Int32) (x1_open : (Nat → Int32)) (x1_openCount : Int32) (x1_seen : Int64) (x1_edgeCount : Int32) (x1_aim : Int32) (x2_lineCount : Int32) (x2_goodsCount : Int32) (x2_workCount : Int32) (x2_years : Int32) (x2_lines : (Nat → Int32)) (x2_goods : (Nat → Int32)) (x2_works : (Nat → Int32)) (x2_change : (Nat → Int32)) (x2_coin : (Nat → Int32)) (x2_knownFree : (Nat → Int32)) (x2_isKnown : Int32) (p2 : Int32)  {out : Int32 × ((Nat → Int32) × (Nat → Int32) × (Nat → Int32) × (Nat → Int32) × (Nat → Int32) × (Nat → Int32) × Int32 × Int32)} (hf : fX4_freeBy n (x0_left, x0_earned, x0_turnCost, x0_turnWayless) (x1_edgeA, x1_edgeB, x1_edgeCost, x1_edgeLine, x1_change, x1_away, x1_steps, x1_nodes, x1_stepCount, x1_open, x1_openCount, x1_seen, x1_edgeCount, x1_aim) (x2_lineCount, x2_goodsCount, x2_workCount, x2_years, x2_lines, x2_goods, x2_works, x2_change, x2_coin, x2_knownFree, x2_isKnown) p2 = some out) : Ct l d yX4_freeBy cX4_freeBy 7 (some .int) { frames := 2, cells := 0, slots := 0, locals := 51 } [.ref (h0 0), .ref (h2 0), .int p2] [gTr d h0 (h1 0) x0_left x0_earned x0_turnCost x0_turnWayless, gWy d h1 x1_edgeA x1_edgeB x1_edgeCost x1_edgeLine x1_change x1_away x1_steps x1_nodes x1_stepCount x1_open x1_openCount x1_seen x1_edgeCount x1_aim, gLd d h2 x2_lineCount x2_goodsCount x2_workCount x2_years x2_lines x2_goods x2_works x2_change x2_coin x2_knownFree x2_isKnown] (fun _ : Unit => (some (.int out.1), [gTr d h0 (h1 0) x0_left x0_earned x0_turnCost x0_turnWayless, gWy d h1 (out.2.1) (out.2.2.1) (out.2.2.2.1) (out.2.2.2.2.1) (out.2.2.2.2.2.1) (out.2.2.2.2.2.2.1) x1_steps x1_nodes x1_stepCount x1_open x1_openCount x1_seen (out.2.2.2.2.2.2.2.1) (out.2.2.2.2.2.2.2.2), gLd d h2 x2_lineCount x2_goodsCount x2_workCount x2_years x2_lines x2_goods x2_works x2_change x2_coin x2_knownFree x2_isKnown])) := by
  refine Ct.of (by decide) (Nat.le_of_ble_eq_true rfl) ?_
  intro Φ hl hK hR
  subst hl
  have hK : Ok d Φ RX4 "freeBy" cX4_freeBy 7 (some .int) { frames := 2, cells := 0, slots := 0, locals := 51 } := hK
  unfold fX4_freeBy at hf
  have hf := un4 hf
  have hf := un14 hf
  have hf := un11 hf
  show J d Φ 7 [gTr d h0 (h1 0) x0_left x0_earned x0_turnCost x0_turnWayless, gWy d h1 x1_edgeA x1_edgeB x1_edgeCost x1_edgeLine x1_change x1_away x1_steps x1_nodes x1_stepCount x1_open x1_openCount x1_seen x1_edgeCount x1_aim, gLd d h2 x2_lineCount x2_goodsCount x2_workCount x2_years x2_lines x2_goods x2_works x2_change x2_coin x2_knownFree x2_isKnown] 0 0 0 [(0, .ref (h0 0)), (1, .ref (h2 0)), (2, .int p2)] []
  refine J_aload_n hK qd1_14.1 rfl 0 rfl rfl ?_
  refine J_get hK fo_RX4_12 qd1_14.2.1 rfl 0 0 rfl rfl rfl ?_
  refine J_aload_n hK qd1_14.2.2.1 rfl 1 rfl rfl ?_
  refine J_iload_n hK qd1_14.2.2.2.1 rfl 2 rfl rfl ?_
  obtain ⟨⟨g2, g3, g4, g5, g6, g7, g8⟩, e9, hf⟩ := bs hf
  have hf := un7 hf
  refine J_callV (m := 3) (m' := 3) (ce' := 0) (sl' := 0) (gr := [gTr d h0 (h1 0) x0_left x0_earned x0_turnCost x0_turnWayless]) (gs' := fun _ => [gTr d h0 (h1 0) x0_left x0_earned x0_turnCost x0_turnWayless, gWy d h1 g2 g3 g4 g5 g6 x1_away x1_steps x1_nodes x1_stepCount x1_open x1_openCount x1_seen g7 g8, gLd d h2 x2_lineCount x2_goodsCount x2_workCount x2_years x2_lines x2_goods x2_works x2_change x2_coin x2_knownFree x2_isKnown]) (st' := fun _ => []) (st := []) hK qd1_14.2.2.2.2.1 cv_RX4_31 iv_yX5_prepare (As := [.ref (h2 0), .int p2]) (kX5_prepare _ d h1 h2 n x1_edgeA x1_edgeB x1_edgeCost x1_edgeLine x1_change x1_away x1_steps x1_nodes x1_stepCount x1_open x1_openCount x1_seen x1_edgeCount x1_aim x2_lineCount x2_goodsCount x2_workCount x2_years x2_lines x2_goods x2_works x2_change x2_coin x2_knownFree x2_isKnown p2 e9) rfl rfl (Nat.le_of_ble_eq_true rfl) (by decide) 1 0 rfl rfl rfl [1, 2] [0] rfl (by decide +kernel) rfl rfl [0, 1, 2] (by decide +kernel) (fun _ => rfl) (fun _ => rfl) rfl rfl rfl (fun _ => rfl) (fun _ => ?_)
  refine J_iconst (v := 0) hK qd1_14.2.2.2.2.2.1 rfl (by decide) ?_
  refine J_istore_n (L' := [(3, .int (0)), (0, .ref (h0 0)), (1, .ref (h2 0)), (2, .int p2)]) hK qd1_14.2.2.2.2.2.2.1 rfl rfl (by decide) rfl ?_
  refine J_iconst (v := 0) hK qd1_14.2.2.2.2.2.2.2.1 rfl (by decide) ?_
  refine J_istore (L' := [(4, .int (0)), (3, .int (0)), (0, .ref (h0 0)), (1, .ref (h2 0)), (2, .int p2)]) hK qd1_14.2.2.2.2.2.2.2.2.1 rfl (by decide) rfl ?_
  obtain ⟨e15, hl10, hf⟩ := bs hf
  have hx10_107 : ∀ (w16 : Int32) (w17 : (Nat → Int32)) (w18 : Int32), (w16, w17, w18) = e15 → J d Φ 7 [gTr d h0 (h1 0) x0_left x0_earned x0_turnCost x0_turnWayless, gWy d h1 g2 g3 g4 g5 g6 w17 x1_steps x1_nodes x1_stepCount x1_open x1_openCount x1_seen g7 w18, gLd d h2 x2_lineCount x2_goodsCount x2_workCount x2_years x2_lines x2_goods x2_works x2_change x2_coin x2_knownFree x2_isKnown] 0 0 107 [(3, .int w16)] [] := by
    intro w16 w17 w18 he
    rw [← he] at hf
    have hf := un3 hf
    refine J_iload_n hK qd1_17.2.2.2.2.2.2.1 rfl 0 rfl rfl ?_
    obtain rfl := Option.some.inj hf
    exact J_iret hK hR qd1_17.2.2.2.2.2.2.2.1 () rfl (by decide) (by decide)
  have lo10 : ∀ (k : Nat) (z11 : Int32) (z12 : Int32) (z13 : (Nat → Int32)) (z14 : Int32), lp (u4 (fX4_freeBy_s14 n x1_steps x1_nodes x1_stepCount x1_open x1_openCount x1_seen x2_lineCount x2_goodsCount x2_workCount x2_years x2_lines x2_goods x2_works x2_change x2_coin x2_knownFree x2_isKnown g2 g3 g4 g5 g6 g7)) k (z11, z12, z13, z14) = some e15 → J d Φ 7 [gTr d h0 (h1 0) x0_left x0_earned x0_turnCost x0_turnWayless, gWy d h1 g2 g3 g4 g5 g6 z13 x1_steps x1_nodes x1_stepCount x1_open x1_openCount x1_seen g7 z14, gLd d h2 x2_lineCount x2_goodsCount x2_workCount x2_years x2_lines x2_goods x2_works x2_change x2_coin x2_knownFree x2_isKnown] 0 0 14 [(0, .ref (h0 0)), (1, .ref (h2 0)), (3, .int z11), (4, .int z12)] [] := by
    intro k
    induction k with
    | zero => intro z11 z12 z13 z14 h; cases h
    | succ k ih10 =>
      intro z11 z12 z13 z14 h
      obtain ⟨k2, rr10, hk2, hs10, hr10⟩ := lp_ok h
      cases hk2
      have hs10 : fX4_freeBy_s14 n x1_steps x1_nodes x1_stepCount x1_open x1_openCount x1_seen x2_lineCount x2_goodsCount x2_workCount x2_years x2_lines x2_goods x2_works x2_change x2_coin x2_knownFree x2_isKnown g2 g3 g4 g5 g6 g7 z11 z12 z13 z14 = some rr10 := hs10
      unfold fX4_freeBy_s14 at hs10
      refine J_iload hK qd1_14.2.2.2.2.2.2.2.2.2.1 rfl 3 rfl ?_
      refine J_bipush (v := 12) hK qd1_14.2.2.2.2.2.2.2.2.2.2.1 rfl (by decide) ?_
      refine J_icmp_ge (tg := 107) hK qd1_14.2.2.2.2.2.2.2.2.2.2.2.1 rfl rfl (fun hc18 => ?_) (fun hc18 => ?_)
      · have hs10 := ip hc18 hs10
        exact J_loc [2] rfl (hx10_107 z11 z13 z14 (lpx hs10 hr10))
      · have hs10 := iq hc18 hs10
        refine J_iconst (v := 0) hK qd1_14.2.2.2.2.2.2.2.2.2.2.2.2.1 rfl (by decide) ?_
        refine J_istore (L' := [(5, .int (0)), (0, .ref (h0 0)), (1, .ref (h2 0)), (3, .int z11), (4, .int z12)]) hK qd1_14.2.2.2.2.2.2.2.2.2.2.2.2.2.1 rfl (by decide) rfl ?_
        obtain ⟨e24, hl19, hs10⟩ := bs hs10
        have hx19_101 : ∀ (w25 : Int32) (w26 : (Nat → Int32)) (w27 : Int32), (w25, w26, w27) = e24 → J d Φ 7 [gTr d h0 (h1 0) x0_left x0_earned x0_turnCost x0_turnWayless, gWy d h1 g2 g3 g4 g5 g6 w26 x1_steps x1_nodes x1_stepCount x1_open x1_openCount x1_seen g7 w27, gLd d h2 x2_lineCount x2_goodsCount x2_workCount x2_years x2_lines x2_goods x2_works x2_change x2_coin x2_knownFree x2_isKnown] 0 0 101 [(0, .ref (h0 0)), (1, .ref (h2 0)), (3, .int w25), (4, .int z12)] [] := by
          intro w25 w26 w27 he
          rw [← he] at hs10
          have hs10 := un3 hs10
          refine J_iinc (L' := [(4, .int (z12 + 1)), (0, .ref (h0 0)), (1, .ref (h2 0)), (3, .int w25)]) (v := (z12 + 1)) hK qd1_17.2.2.2.2.1 rfl 3 rfl rfl (by decide) rfl ?_
          refine J_goto hK qd1_17.2.2.2.2.2.1 (n := 14) rfl ?_
          exact J_loc [1, 2, 3, 0] rfl (ih10 w25 (z12 + 1) w26 w27 (lpc hs10 hr10))
        have lo19 : ∀ (k : Nat) (z20 : Int32) (z21 : Int32) (z22 : (Nat → Int32)) (z23 : Int32), lp (u4 (fX4_freeBy_s24 n x1_steps x1_nodes x1_stepCount x1_open x1_openCount x1_seen x2_lineCount x2_goodsCount x2_workCount x2_years x2_lines x2_goods x2_works x2_change x2_coin x2_knownFree x2_isKnown g2 g3 g4 g5 g6 g7 z12)) k (z20, z21, z22, z23) = some e24 → J d Φ 7 [gTr d h0 (h1 0) x0_left x0_earned x0_turnCost x0_turnWayless, gWy d h1 g2 g3 g4 g5 g6 z22 x1_steps x1_nodes x1_stepCount x1_open x1_openCount x1_seen g7 z23, gLd d h2 x2_lineCount x2_goodsCount x2_workCount x2_years x2_lines x2_goods x2_works x2_change x2_coin x2_knownFree x2_isKnown] 0 0 24 [(0, .ref (h0 0)), (1, .ref (h2 0)), (3, .int z20), (4, .int z12), (5, .int z21)] [] := by
          intro k
          induction k with
          | zero => intro z20 z21 z22 z23 h; cases h
          | succ k ih19 =>
            intro z20 z21 z22 z23 h
            obtain ⟨k2, rr19, hk2, hs19, hr19⟩ := lp_ok h
            cases hk2
            have hs19 : fX4_freeBy_s24 n x1_steps x1_nodes x1_stepCount x1_open x1_openCount x1_seen x2_lineCount x2_goodsCount x2_workCount x2_years x2_lines x2_goods x2_works x2_change x2_coin x2_knownFree x2_isKnown g2 g3 g4 g5 g6 g7 z12 z20 z21 z22 z23 = some rr19 := hs19
            unfold fX4_freeBy_s24 at hs19
            refine J_iload hK qd1_14.2.2.2.2.2.2.2.2.2.2.2.2.2.2.1 rfl 4 rfl ?_
            refine J_aload_n hK qd1_14.2.2.2.2.2.2.2.2.2.2.2.2.2.2.2.1 rfl 1 rfl rfl ?_
            refine J_get hK fo_RX4_43 qd1_15.1 rfl 2 0 rfl rfl rfl ?_
            refine J_icmp_ge (tg := 101) hK qd1_15.2.1 rfl rfl (fun hc30 => ?_) (fun hc30 => ?_)
            · have hs19 := ip hc30 hs19
              exact J_loc [0, 1, 2, 3] rfl (hx19_101 z20 z22 z23 (lpx hs19 hr19))
            · have hs19 := iq hc30 hs19
              refine J_aload_n hK qd1_15.2.2.1 rfl 1 rfl rfl ?_
              refine J_iload hK qd1_15.2.2.2.1 rfl 4 rfl ?_
              refine J_iconst (v := 1) hK qd1_15.2.2.2.2.1 rfl (by decide) ?_
              obtain ⟨v28, e29, hs19⟩ := bs hs19
              refine J_callV (m := 3) (m' := 3) (ce' := 0) (sl' := 0) (gr := [gTr d h0 (h1 0) x0_left x0_earned x0_turnCost x0_turnWayless, gWy d h1 g2 g3 g4 g5 g6 z22 x1_steps x1_nodes x1_stepCount x1_open x1_openCount x1_seen g7 z23]) (gs' := fun _ => [gTr d h0 (h1 0) x0_left x0_earned x0_turnCost x0_turnWayless, gWy d h1 g2 g3 g4 g5 g6 z22 x1_steps x1_nodes x1_stepCount x1_open x1_openCount x1_seen g7 z23, gLd d h2 x2_lineCount x2_goodsCount x2_workCount x2_years x2_lines x2_goods x2_works x2_change x2_coin x2_knownFree x2_isKnown]) (st' := fun _ => [.int v28]) (st := []) hK qd1_15.2.2.2.2.2.1 cv_RX4_47 iv_yX1_ofGoods (As := [.int z21, .int (1)]) (kX1_ofGoods _ d h2 x2_lineCount x2_goodsCount x2_workCount x2_years x2_lines x2_goods x2_works x2_change x2_coin x2_knownFree x2_isKnown z21 (1) e29) rfl rfl (Nat.le_of_ble_eq_true rfl) (by decide) 2 0 rfl rfl rfl [2] [0, 1] rfl (by decide +kernel) rfl rfl [0, 1, 2] (by decide +kernel) (fun _ => rfl) (fun _ => rfl) rfl rfl rfl (fun _ => rfl) (fun _ => ?_)
              refine J_iload hK qd1_15.2.2.2.2.2.2.1 rfl 3 rfl ?_
              refine J_icmp_ne (tg := 95) hK qd1_15.2.2.2.2.2.2.2.1 rfl rfl (fun hc42 => ?_) (fun hc42 => ?_)
              · have hs19 := iq hc42 hs19
                refine J_iinc (L' := [(5, .int (z21 + 1)), (0, .ref (h0 0)), (1, .ref (h2 0)), (3, .int z20), (4, .int z12)]) (v := (z21 + 1)) hK qd1_17.2.2.1 rfl 4 rfl rfl (by decide) rfl ?_
                refine J_goto hK qd1_17.2.2.2.1 (n := 24) rfl ?_
                exact J_loc [1, 2, 3, 4, 0] rfl (ih19 z20 (z21 + 1) z22 z23 (lpc hs19 hr19))
              · have hs19 := ip hc42 hs19
                refine J_aload_n hK qd1_15.2.2.2.2.2.2.2.2.1 rfl 0 rfl rfl ?_
                refine J_get hK fo_RX4_12 qd1_15.2.2.2.2.2.2.2.2.2.1 rfl 0 0 rfl rfl rfl ?_
                refine J_iload hK qd1_15.2.2.2.2.2.2.2.2.2.2.1 rfl 3 rfl ?_
                obtain ⟨⟨g30, g31⟩, e32, hs19⟩ := bs hs19
                have hs19 := un2 hs19
                refine J_callV (m := 3) (m' := 3) (ce' := 0) (sl' := 0) (gr := [gTr d h0 (h1 0) x0_left x0_earned x0_turnCost x0_turnWayless, gLd d h2 x2_lineCount x2_goodsCount x2_workCount x2_years x2_lines x2_goods x2_works x2_change x2_coin x2_knownFree x2_isKnown]) (gs' := fun _ => [gTr d h0 (h1 0) x0_left x0_earned x0_turnCost x0_turnWayless, gWy d h1 g2 g3 g4 g5 g6 g30 x1_steps x1_nodes x1_stepCount x1_open x1_openCount x1_seen g7 g31, gLd d h2 x2_lineCount x2_goodsCount x2_workCount x2_years x2_lines x2_goods x2_works x2_change x2_coin x2_knownFree x2_isKnown]) (st' := fun _ => []) (st := []) hK qd1_15.2.2.2.2.2.2.2.2.2.2.2.1 cv_RX4_35 iv_yX5_aimAt (As := [.int z12]) (kX5_aimAt _ d h1 n g2 g3 g4 g5 g6 z22 x1_steps x1_nodes x1_stepCount x1_open x1_openCount x1_seen g7 z23 z12 e32) rfl rfl (Nat.le_of_ble_eq_true rfl) (by decide) 1 0 rfl rfl rfl [1] [0, 2] rfl (by decide +kernel) rfl rfl [0, 2, 1] (by decide +kernel) (fun _ => rfl) (fun _ => rfl) rfl rfl rfl (fun _ => rfl) (fun _ => ?_)
                refine J_aload_n hK qd1_15.2.2.2.2.2.2.2.2.2.2.2.2.1 rfl 0 rfl rfl ?_
                refine J_get hK fo_RX4_12 qd1_15.2.2.2.2.2.2.2.2.2.2.2.2.2.1 rfl 0 0 rfl rfl rfl ?_
                refine J_aload_n hK qd1_15.2.2.2.2.2.2.2.2.2.2.2.2.2.2.1 rfl 1 rfl rfl ?_
                refine J_iload hK qd1_15.2.2.2.2.2.2.2.2.2.2.2.2.2.2.2.1 rfl 4 rfl ?_
                refine J_iconst (v := 0) hK qd1_16.1 rfl (by decide) ?_
                obtain ⟨v33, e34, hs19⟩ := bs hs19
                refine J_callV (m := 3) (m' := 3) (ce' := 0) (sl' := 0) (gr := [gTr d h0 (h1 0) x0_left x0_earned x0_turnCost x0_turnWayless, gWy d h1 g2 g3 g4 g5 g6 g30 x1_steps x1_nodes x1_stepCount x1_open x1_openCount x1_seen g7 g31]) (gs' := fun _ => [gTr d h0 (h1 0) x0_left x0_earned x0_turnCost x0_turnWayless, gWy d h1 g2 g3 g4 g5 g6 g30 x1_steps x1_nodes x1_stepCount x1_open x1_openCount x1_seen g7 g31, gLd d h2 x2_lineCount x2_goodsCount x2_workCount x2_years x2_lines x2_goods x2_works x2_change x2_coin x2_knownFree x2_isKnown]) (st' := fun _ => [.int v33, .ref (h1 0)]) (st := [.ref (h1 0)]) hK qd1_16.2.1 cv_RX4_47 iv_yX1_ofGoods (As := [.int z21, .int (0)]) (kX1_ofGoods _ d h2 x2_lineCount x2_goodsCount x2_workCount x2_years x2_lines x2_goods x2_works x2_change x2_coin x2_knownFree x2_isKnown z21 (0) e34) rfl rfl (Nat.le_of_ble_eq_true rfl) (by decide) 2 0 rfl rfl rfl [2] [0, 1] rfl (by decide +kernel) rfl rfl [0, 1, 2] (by decide +kernel) (fun _ => rfl) (fun _ => rfl) rfl rfl rfl (fun _ => rfl) (fun _ => ?_)
                obtain ⟨v35, e36, hs19⟩ := bs hs19
                refine J_callV (m := 3) (m' := 3) (ce' := 0) (sl' := 0) (gr := [gTr d h0 (h1 0) x0_left x0_earned x0_turnCost x0_turnWayless, gLd d h2 x2_lineCount x2_goodsCount x2_workCount x2_years x2_lines x2_goods x2_works x2_change x2_coin x2_knownFree x2_isKnown]) (gs' := fun _ => [gTr d h0 (h1 0) x0_left x0_earned x0_turnCost x0_turnWayless, gWy d h1 g2 g3 g4 g5 g6 g30 x1_steps x1_nodes x1_stepCount x1_open x1_openCount x1_seen g7 g31, gLd d h2 x2_lineCount x2_goodsCount x2_workCount x2_years x2_lines x2_goods x2_works x2_change x2_coin x2_knownFree x2_isKnown]) (st' := fun _ => [.int v35]) (st := []) hK qd1_16.2.2.1 cv_RX4_39 iv_yX5_costFrom (As := [.int v33]) (kX5_costFrom _ d h1 n g2 g3 g4 g5 g6 g30 x1_steps x1_nodes x1_stepCount x1_open x1_openCount x1_seen g7 g31 v33 e36) rfl rfl (Nat.le_of_ble_eq_true rfl) (by decide) 1 0 rfl rfl rfl [1] [0, 2] rfl (by decide +kernel) rfl rfl [0, 2, 1] (by decide +kernel) (fun _ => rfl) (fun _ => rfl) rfl rfl rfl (fun _ => rfl) (fun _ => ?_)
                refine J_istore (L' := [(6, .int v35), (0, .ref (h0 0)), (1, .ref (h2 0)), (3, .int z20), (4, .int z12), (5, .int z21)]) hK qd1_16.2.2.2.1 rfl (by decide) rfl ?_
                refine J_iload_n hK qd1_16.2.2.2.2.1 rfl 3 rfl rfl ?_
                refine J_aload_n hK qd1_16.2.2.2.2.2.1 rfl 2 rfl rfl ?_
                refine J_iload hK qd1_16.2.2.2.2.2.2.1 rfl 5 rfl ?_
                refine J_iconst (v := 2) hK qd1_16.2.2.2.2.2.2.2.1 rfl (by decide) ?_
                obtain ⟨v37, e38, hs19⟩ := bs hs19
                refine J_callV (m := 3) (m' := 3) (ce' := 0) (sl' := 0) (gr := [gTr d h0 (h1 0) x0_left x0_earned x0_turnCost x0_turnWayless, gWy d h1 g2 g3 g4 g5 g6 g30 x1_steps x1_nodes x1_stepCount x1_open x1_openCount x1_seen g7 g31]) (gs' := fun _ => [gTr d h0 (h1 0) x0_left x0_earned x0_turnCost x0_turnWayless, gWy d h1 g2 g3 g4 g5 g6 g30 x1_steps x1_nodes x1_stepCount x1_open x1_openCount x1_seen g7 g31, gLd d h2 x2_lineCount x2_goodsCount x2_workCount x2_years x2_lines x2_goods x2_works x2_change x2_coin x2_knownFree x2_isKnown]) (st' := fun _ => [.int v37, .int z20]) (st := [.int z20]) hK qd1_16.2.2.2.2.2.2.2.2.1 cv_RX4_47 iv_yX1_ofGoods (As := [.int z21, .int (2)]) (kX1_ofGoods _ d h2 x2_lineCount x2_goodsCount x2_workCount x2_years x2_lines x2_goods x2_works x2_change x2_coin x2_knownFree x2_isKnown z21 (2) e38) rfl rfl (Nat.le_of_ble_eq_true rfl) (by decide) 2 0 rfl rfl rfl [2] [0, 1] rfl (by decide +kernel) rfl rfl [0, 1, 2] (by decide +kernel) (fun _ => rfl) (fun _ => rfl) rfl rfl rfl (fun _ => rfl) (fun _ => ?_)
                refine J_iload hK qd1_16.2.2.2.2.2.2.2.2.2.1 rfl 0 rfl ?_
                refine J_iconst (v := (-1)) hK qd1_16.2.2.2.2.2.2.2.2.2.2.1 rfl (by decide) ?_
                refine J_icmp_ne (tg := 90) hK qd1_16.2.2.2.2.2.2.2.2.2.2.2.1 rfl rfl (fun hc81 => ?_) (fun hc81 => ?_)
                · have hs19 := iq hc81 hs19
                  refine J_iload hK qd1_16.2.2.2.2.2.2.2.2.2.2.2.2.2.2.1 rfl 0 rfl ?_
                  refine J_imul hK qd1_16.2.2.2.2.2.2.2.2.2.2.2.2.2.2.2.1 rfl ?_
                  refine J_iadd hK qd1_17.1 rfl ?_
                  refine J_istore_n (L' := [(3, .int (z20 + (v37 * v35))), (6, .int v35), (0, .ref (h0 0)), (1, .ref (h2 0)), (4, .int z12), (5, .int z21)]) hK qd1_17.2.1 rfl rfl (by decide) rfl ?_
                  refine J_iinc (L' := [(5, .int (z21 + 1)), (3, .int (z20 + (v37 * v35))), (6, .int v35), (0, .ref (h0 0)), (1, .ref (h2 0)), (4, .int z12)]) (v := (z21 + 1)) hK qd1_17.2.2.1 rfl 5 rfl rfl (by decide) rfl ?_
                  refine J_goto hK qd1_17.2.2.2.1 (n := 24) rfl ?_
                  exact J_loc [3, 4, 1, 5, 0] rfl (ih19 (z20 + (v37 * v35)) (z21 + 1) g30 g31 (lpc hs19 hr19))
                · have hs19 := ip hc81 hs19
                  refine J_sipush (v := 999) hK qd1_16.2.2.2.2.2.2.2.2.2.2.2.2.1 rfl (by decide) ?_
                  refine J_goto hK qd1_16.2.2.2.2.2.2.2.2.2.2.2.2.2.1 (n := 92) rfl ?_
                  refine J_imul hK qd1_16.2.2.2.2.2.2.2.2.2.2.2.2.2.2.2.1 rfl ?_
                  refine J_iadd hK qd1_17.1 rfl ?_
                  refine J_istore_n (L' := [(3, .int (z20 + (v37 * 999))), (6, .int v35), (0, .ref (h0 0)), (1, .ref (h2 0)), (4, .int z12), (5, .int z21)]) hK qd1_17.2.1 rfl rfl (by decide) rfl ?_
                  refine J_iinc (L' := [(5, .int (z21 + 1)), (3, .int (z20 + (v37 * 999))), (6, .int v35), (0, .ref (h0 0)), (1, .ref (h2 0)), (4, .int z12)]) (v := (z21 + 1)) hK qd1_17.2.2.1 rfl 5 rfl rfl (by decide) rfl ?_
                  refine J_goto hK qd1_17.2.2.2.1 (n := 24) rfl ?_
                  exact J_loc [3, 4, 1, 5, 0] rfl (ih19 (z20 + (v37 * 999)) (z21 + 1) g30 g31 (lpc hs19 hr19))
        exact J_loc [1, 2, 3, 4, 0] rfl (lo19 n z11 (0) z13 z14 hl19)
  exact J_loc [2, 3, 1, 0] rfl (lo10 n (0) (0) x1_away g8 hl10)

def fX1_keepFree (X0 : LdT) (p1 : Int32) (p2 : Int32) : Option ((Nat → Int32)) :=
  u11 (fun (x0_lineCount : Int32) (x0_goodsCount : Int32) (x0_workCount : Int32) (x0_years : Int32) (x0_lines : (Nat → Int32)) (x0_goods : (Nat → Int32)) (x0_works : (Nat → Int32)) (x0_change : (Nat → Int32)) (x0_coin : (Nat → Int32)) (x0_knownFree : (Nat → Int32)) (x0_isKnown : Int32) => (fX6_within p1 (0) (127)).bind (fun v1 => if v1 = 0 then (some x0_knownFree) else ((wr 128 x0_knownFree p1 p2).bind fun f3 => some f3))) X0
set_option maxHeartbeats 4000000 in
set_option maxRecDepth 100000 in
theorem kX1_keepFree (l : Launch) (d : DT) (h0 : Nat → Nat) (x0_lineCount : Int32) (x0_goodsCount : Int32) (x0_workCount : Int32) (x0_years : Int32) (x0_lines : (Nat → Int32)) (x0_goods : (Nat → Int32)) (x0_works : (Nat → Int32)) (x0_change : (Nat → Int32)) (x0_coin : (Nat → Int32)) (x0_knownFree : (Nat → Int32)) (x0_isKnown : Int32) (p1 : Int32) (p2 : Int32)  {out : (Nat → Int32)} (hf : fX1_keepFree (x0_lineCount, x0_goodsCount, x0_workCount, x0_years, x0_lines, x0_goods, x0_works, x0_change, x0_coin, x0_knownFree, x0_isKnown) p1 p2 = some out) : Ct l d yX1_keepFree cX1_keepFree 3 none { frames := 1, cells := 0, slots := 0, locals := 22 } [.ref (h0 0), .int p1, .int p2] [gLd d h0 x0_lineCount x0_goodsCount x0_workCount x0_years x0_lines x0_goods x0_works x0_change x0_coin x0_knownFree x0_isKnown] (fun _ : Unit => (none, [gLd d h0 x0_lineCount x0_goodsCount x0_workCount x0_years x0_lines x0_goods x0_works x0_change x0_coin out x0_isKnown])) := by
  refine Ct.of (by decide) (Nat.le_of_ble_eq_true rfl) ?_
  intro Φ hl hK hR
  subst hl
  have hK : Ok d Φ RX1 "keepFree" cX1_keepFree 3 none { frames := 1, cells := 0, slots := 0, locals := 22 } := hK
  unfold fX1_keepFree at hf
  have hf := un11 hf
  show J d Φ 3 [gLd d h0 x0_lineCount x0_goodsCount x0_workCount x0_years x0_lines x0_goods x0_works x0_change x0_coin x0_knownFree x0_isKnown] 0 0 0 [(0, .ref (h0 0)), (1, .int p1), (2, .int p2)] []
  refine J_iload_n hK qd0_95.1 rfl 1 rfl rfl ?_
  refine J_iconst (v := 0) hK qd0_95.2.1 rfl (by decide) ?_
  refine J_bipush (v := 127) hK qd0_95.2.2.1 rfl (by decide) ?_
  obtain ⟨v1, e2, hf⟩ := bs hf
  refine J_callN (m := 1) (m' := 1) (ce' := 0) (sl' := 0) (gr := [gLd d h0 x0_lineCount x0_goodsCount x0_workCount x0_years x0_lines x0_goods x0_works x0_change x0_coin x0_knownFree x0_isKnown]) (gs' := fun _ => [gLd d h0 x0_lineCount x0_goodsCount x0_workCount x0_years x0_lines x0_goods x0_works x0_change x0_coin x0_knownFree x0_isKnown]) (st' := fun _ => [.int v1]) (st := []) hK qd0_95.2.2.2.1 cn_RX1_59 (As := [.int p1, .int (0), .int (127)]) (kX6_within _ d p1 (0) (127) e2) rfl rfl (Nat.le_of_ble_eq_true rfl) (by decide) [] [0] rfl (by decide +kernel) rfl rfl [0] (by decide +kernel) (fun _ => rfl) (fun _ => rfl) rfl rfl rfl (fun _ => rfl) (fun _ => ?_)
  refine J_if_eq (tg := 17) hK qd0_95.2.2.2.2.1 rfl rfl (fun hc7 => ?_) (fun hc7 => ?_)
  · have hf := ip hc7 hf
    obtain rfl := Option.some.inj hf
    exact J_vret hK hR qd0_95.2.2.2.2.2.2.2.2.2.2.1 () rfl (by decide) (by decide)
  · have hf := iq hc7 hf
    refine J_aload_n hK qd0_95.2.2.2.2.2.1 rfl 0 rfl rfl ?_
    refine J_get hK fo_RX1_27 qd0_95.2.2.2.2.2.2.1 rfl 0 0 rfl rfl rfl ?_
    refine J_iload_n hK qd0_95.2.2.2.2.2.2.2.1 rfl 1 rfl rfl ?_
    refine J_iload_n hK qd0_95.2.2.2.2.2.2.2.2.1 rfl 2 rfl rfl ?_
    obtain ⟨f3, ef3, hf⟩ := bs hf
    refine J_iast (g' := gLd d h0 x0_lineCount x0_goodsCount x0_workCount x0_years x0_lines x0_goods x0_works x0_change x0_coin f3 x0_isKnown) (gs' := [gLd d h0 x0_lineCount x0_goodsCount x0_workCount x0_years x0_lines x0_goods x0_works x0_change x0_coin f3 x0_isKnown]) hK qd0_95.2.2.2.2.2.2.2.2.2.1 rfl 0 6 rfl rfl ef3 rfl rfl ?_
    obtain rfl := Option.some.inj hf
    exact J_vret hK hR qd0_95.2.2.2.2.2.2.2.2.2.2.1 () rfl (by decide) (by decide)

def fX0_freeWith_s47 (p2 : Int32) (x4_goodsCount : Int32) (x4_workCount : Int32) (x4_years : Int32) (x4_goods : (Nat → Int32)) (x4_works : (Nat → Int32)) (x4_coin : (Nat → Int32)) (v1 : Int32) (g4 : (Nat → Int32)) (z18 : Int32) (z19 : Int32) (z20 : (Nat → Int32)) (z21 : (Nat → Int32)) (z22 : Int32) (z23 : Int32) (z24 : (Nat → Int32)) (z25 : (Nat → Int32)) (z26 : Int32) : Option ((Int32 × Int32 × (Nat → Int32) × (Nat → Int32) × Int32 × Int32 × (Nat → Int32) × (Nat → Int32) × Int32) ⊕ (Int32 × (Nat → Int32) × (Nat → Int32) × Int32 × Int32 × (Nat → Int32) × (Nat → Int32) × Int32)) :=
  if x4_workCount ≤ z18 then (some (.inr (z19, z20, z21, z22, z23, z24, z25, z26))) else (if (((p2 &&& (v1 ^^^ (-1))) >>> (z18 &&& 31)) &&& 1) = 0 then (some (.inl ((z18 + 1), z19, z20, z21, z22, z23, z24, z25, z26))) else ((fX1_perform (z23, x4_goodsCount, x4_workCount, x4_years, z24, x4_goods, x4_works, z25, x4_coin, g4, z26) z18).bind (u4 fun g51 g52 g53 g54 => some (.inl ((z18 + 1), z19, z20, z21, z22, g51, g52, g53, g54)))))
def fX0_freeWith_s47b (p2 : Int32) (x3_knownFree : (Nat → Int32)) (x4_workCount : Int32) (v1 : Int32) (g58 : Int32) (g59 : Int32) (g60 : Int32) (g62 : (Nat → Int32)) (g63 : (Nat → Int32)) (g65 : (Nat → Int32)) (z69 : Int32) (z70 : Int32) (z71 : (Nat → Int32)) (z72 : (Nat → Int32)) (z73 : Int32) (z74 : Int32) (z75 : (Nat → Int32)) (z76 : (Nat → Int32)) (z77 : Int32) : Option ((Int32 × Int32 × (Nat → Int32) × (Nat → Int32) × Int32 × Int32 × (Nat → Int32) × (Nat → Int32) × Int32) ⊕ (Int32 × (Nat → Int32) × (Nat → Int32) × Int32 × Int32 × (Nat → Int32) × (Nat → Int32) × Int32)) :=
  if x4_workCount ≤ z69 then (some (.inr (z70, z71, z72, z73, z74, z75, z76, z77))) else (if (((p2 &&& (v1 ^^^ (-1))) >>> (z69 &&& 31)) &&& 1) = 0 then (some (.inl ((z69 + 1), z70, z71, z72, z73, z74, z75, z76, z77))) else ((fX1_perform (z70, g58, g59, g60, z71, g62, g63, z72, g65, x3_knownFree, z73) z69).bind (u4 fun g102 g103 g104 g105 => some (.inl ((z69 + 1), g102, g103, g104, g105, z74, z75, z76, z77)))))
def fX0_freeWith (n : Nat) (X0 : ChT) (X1 : TrT) (X2 : WyT) (X3 : LdT) (X4 : LdT) (p2 : Int32) : Option (Int32 × ((Nat → Int32) × (Nat → Int32) × (Nat → Int32) × (Nat → Int32) × (Nat → Int32) × (Nat → Int32) × Int32 × Int32) × (Int32 × Int32 × Int32 × Int32 × (Nat → Int32) × (Nat → Int32) × (Nat → Int32) × (Nat → Int32) × (Nat → Int32) × Int32) × (Int32 × (Nat → Int32) × (Nat → Int32) × (Nat → Int32) × Int32)) :=
  (fun (x0_gained : (Nat → Int32)) => u4 (fun (x1_left : (Nat → Int32)) (x1_earned : (Nat → Int32)) (x1_turnCost : Int32) (x1_turnWayless : Int32) => u14 (fun (x2_edgeA : (Nat → Int32)) (x2_edgeB : (Nat → Int32)) (x2_edgeCost : (Nat → Int32)) (x2_edgeLine : (Nat → Int32)) (x2_change : (Nat → Int32)) (x2_away : (Nat → Int32)) (x2_steps : (Nat → Int32)) (x2_nodes : (Nat → Int32)) (x2_stepCount : Int32) (x2_open : (Nat → Int32)) (x2_openCount : Int32) (x2_seen : Int64) (x2_edgeCount : Int32) (x2_aim : Int32) => u11 (fun (x3_lineCount : Int32) (x3_goodsCount : Int32) (x3_workCount : Int32) (x3_years : Int32) (x3_lines : (Nat → Int32)) (x3_goods : (Nat → Int32)) (x3_works : (Nat → Int32)) (x3_change : (Nat → Int32)) (x3_coin : (Nat → Int32)) (x3_knownFree : (Nat → Int32)) (x3_isKnown : Int32) => u11 (fun (x4_lineCount : Int32) (x4_goodsCount : Int32) (x4_workCount : Int32) (x4_years : Int32) (x4_lines : (Nat → Int32)) (x4_goods : (Nat → Int32)) (x4_works : (Nat → Int32)) (x4_change : (Nat → Int32)) (x4_coin : (Nat → Int32)) (x4_knownFree : (Nat → Int32)) (x4_isKnown : Int32) => (fX1_doneWorks n (x4_lineCount, x4_goodsCount, x4_workCount, x4_years, x4_lines, x4_goods, x4_works, x4_change, x4_coin, x4_knownFree, x4_isKnown)).bind (fun v1 => (fX1_freeKnown n (x4_lineCount, x4_goodsCount, x4_workCount, x4_years, x4_lines, x4_goods, x4_works, x4_change, x4_coin, x4_knownFree, x4_isKnown) (p2 &&& (v1 ^^^ (-1)))).bind (u3 fun v3 g4 g5 => if v3 = (-1) then (if (p2 &&& (v1 ^^^ (-1))) = 0 then ((lp (u9 (fX0_freeWith_s47 p2 x4_goodsCount x4_workCount x4_years x4_goods x4_works x4_coin v1 g4)) n (0, x3_lineCount, x3_lines, x3_change, x3_isKnown, x4_lineCount, x4_lines, x4_change, g5)).bind (u8 fun w28 w29 w30 w31 w32 w33 w34 w35 => (fX1_linesThere n (w32, x4_goodsCount, x4_workCount, x4_years, w33, x4_goods, x4_works, w34, x4_coin, g4, w35)).bind (fun v36 => (fX4_freeBy n (x1_left, x1_earned, x1_turnCost, x1_turnWayless) (x2_edgeA, x2_edgeB, x2_edgeCost, x2_edgeLine, x2_change, x2_away, x2_steps, x2_nodes, x2_stepCount, x2_open, x2_openCount, x2_seen, x2_edgeCount, x2_aim) (w32, x4_goodsCount, x4_workCount, x4_years, w33, x4_goods, x4_works, w34, x4_coin, g4, w35) v36).bind (u2 fun v38 G39 => u8 (fun g40 g41 g42 g43 g44 g45 g46 g47 => (fX1_keepFree (w32, x4_goodsCount, x4_workCount, x4_years, w33, x4_goods, x4_works, w34, x4_coin, g4, w35) (p2 &&& (v1 ^^^ (-1))) v38).bind (fun g49 => some (v38, (g40, g41, g42, g43, g44, g45, g46, g47), (w28, x3_goodsCount, x3_workCount, x3_years, w29, x3_goods, x3_works, w30, x3_coin, w31), (w32, w33, w34, g49, w35)))) G39)))) else ((fX1_take (x3_lineCount, x3_goodsCount, x3_workCount, x3_years, x3_lines, x3_goods, x3_works, x3_change, x3_coin, x3_knownFree, x3_isKnown) (x4_lineCount, x4_goodsCount, x4_workCount, x4_years, x4_lines, x4_goods, x4_works, x4_change, x4_coin, g4, g5)).bind (fun G56 => u10 (fun g57 g58 g59 g60 g61 g62 g63 g64 g65 g66 => (lp (u9 (fX0_freeWith_s47b p2 x3_knownFree x4_workCount v1 g58 g59 g60 g62 g63 g65)) n (0, g57, g61, g64, g66, x4_lineCount, x4_lines, x4_change, g5)).bind (u8 fun w79 w80 w81 w82 w83 w84 w85 w86 => (fX1_linesThere n (w79, g58, g59, g60, w80, g62, g63, w81, g65, x3_knownFree, w82)).bind (fun v87 => (fX4_freeBy n (x1_left, x1_earned, x1_turnCost, x1_turnWayless) (x2_edgeA, x2_edgeB, x2_edgeCost, x2_edgeLine, x2_change, x2_away, x2_steps, x2_nodes, x2_stepCount, x2_open, x2_openCount, x2_seen, x2_edgeCount, x2_aim) (w79, g58, g59, g60, w80, g62, g63, w81, g65, x3_knownFree, w82) v87).bind (u2 fun v89 G90 => u8 (fun g91 g92 g93 g94 g95 g96 g97 g98 => (fX1_keepFree (w83, x4_goodsCount, x4_workCount, x4_years, w84, x4_goods, x4_works, w85, x4_coin, g4, w86) (p2 &&& (v1 ^^^ (-1))) v89).bind (fun g100 => some (v89, (g91, g92, g93, g94, g95, g96, g97, g98), (w79, g58, g59, g60, w80, g62, g63, w81, g65, w82), (w83, w84, w85, g100, w86)))) G90)))) G56))) else (some (v3, (x2_edgeA, x2_edgeB, x2_edgeCost, x2_edgeLine, x2_change, x2_away, x2_edgeCount, x2_aim), (x3_lineCount, x3_goodsCount, x3_workCount, x3_years, x3_lines, x3_goods, x3_works, x3_change, x3_coin, x3_isKnown), (x4_lineCount, x4_lines, x4_change, g4, g5)))))) X4) X3) X2) X1) X0
set_option maxHeartbeats 4000000 in
set_option maxRecDepth 100000 in
theorem kX0_freeWith (l : Launch) (d : DT) (h0 : Nat → Nat) (a0_after : Nat) (h1 : Nat → Nat) (h2 : Nat → Nat) (h3 : Nat → Nat) (h4 : Nat → Nat) (n : Nat) (x0_gained : (Nat → Int32)) (x1_left : (Nat → Int32)) (x1_earned : (Nat → Int32)) (x1_turnCost : Int32) (x1_turnWayless : Int32) (x2_edgeA : (Nat → Int32)) (x2_edgeB : (Nat → Int32)) (x2_edgeCost : (Nat → Int32)) (x2_edgeLine : (Nat → Int32)) (x2_change : (Nat → Int32)) (x2_away : (Nat → Int32)) (x2_steps : (Nat → Int32)) (x2_nodes : (Nat → Int32)) (x2_stepCount : Int32) (x2_open : (Nat → Int32)) (x2_openCount : Int32) (x2_seen : Int64) (x2_edgeCount : Int32) (x2_aim : Int32) (x3_lineCount : Int32) (x3_goodsCount : Int32) (x3_workCount : Int32) (x3_years : Int32) (x3_lines : (Nat → Int32)) (x3_goods : (Nat → Int32)) (x3_works : (Nat → Int32)) (x3_change : (Nat → Int32)) (x3_coin : (Nat → Int32)) (x3_knownFree : (Nat → Int32)) (x3_isKnown : Int32) (x4_lineCount : Int32) (x4_goodsCount : Int32) (x4_workCount : Int32) (x4_years : Int32) (x4_lines : (Nat → Int32)) (x4_goods : (Nat → Int32)) (x4_works : (Nat → Int32)) (x4_change : (Nat → Int32)) (x4_coin : (Nat → Int32)) (x4_knownFree : (Nat → Int32)) (x4_isKnown : Int32) (p2 : Int32)  {out : Int32 × ((Nat → Int32) × (Nat → Int32) × (Nat → Int32) × (Nat → Int32) × (Nat → Int32) × (Nat → Int32) × Int32 × Int32) × (Int32 × Int32 × Int32 × Int32 × (Nat → Int32) × (Nat → Int32) × (Nat → Int32) × (Nat → Int32) × (Nat → Int32) × Int32) × (Int32 × (Nat → Int32) × (Nat → Int32) × (Nat → Int32) × Int32)} (hf : fX0_freeWith n x0_gained (x1_left, x1_earned, x1_turnCost, x1_turnWayless) (x2_edgeA, x2_edgeB, x2_edgeCost, x2_edgeLine, x2_change, x2_away, x2_steps, x2_nodes, x2_stepCount, x2_open, x2_openCount, x2_seen, x2_edgeCount, x2_aim) (x3_lineCount, x3_goodsCount, x3_workCount, x3_years, x3_lines, x3_goods, x3_works, x3_change, x3_coin, x3_knownFree, x3_isKnown) (x4_lineCount, x4_goodsCount, x4_workCount, x4_years, x4_lines, x4_goods, x4_works, x4_change, x4_coin, x4_knownFree, x4_isKnown) p2 = some out) : Ct l d yX0_freeWith cX0_freeWith 7 (some .int) { frames := 3, cells := 0, slots := 0, locals := 77 } [.ref (h0 0), .ref (h4 0), .int p2] [gCh d h0 (h1 0) a0_after (h3 0) x0_gained, gTr d h1 (h2 0) x1_left x1_earned x1_turnCost x1_turnWayless, gWy d h2 x2_edgeA x2_edgeB x2_edgeCost x2_edgeLine x2_change x2_away x2_steps x2_nodes x2_stepCount x2_open x2_openCount x2_seen x2_edgeCount x2_aim, gLd d h3 x3_lineCount x3_goodsCount x3_workCount x3_years x3_lines x3_goods x3_works x3_change x3_coin x3_knownFree x3_isKnown, gLd d h4 x4_lineCount x4_goodsCount x4_workCount x4_years x4_lines x4_goods x4_works x4_change x4_coin x4_knownFree x4_isKnown] (fun _ : Unit => (some (.int out.1), [gCh d h0 (h1 0) a0_after (h3 0) x0_gained, gTr d h1 (h2 0) x1_left x1_earned x1_turnCost x1_turnWayless, gWy d h2 (out.2.1.1) (out.2.1.2.1) (out.2.1.2.2.1) (out.2.1.2.2.2.1) (out.2.1.2.2.2.2.1) (out.2.1.2.2.2.2.2.1) x2_steps x2_nodes x2_stepCount x2_open x2_openCount x2_seen (out.2.1.2.2.2.2.2.2.1) (out.2.1.2.2.2.2.2.2.2), gLd d h3 (out.2.2.1.1) (out.2.2.1.2.1) (out.2.2.1.2.2.1) (out.2.2.1.2.2.2.1) (out.2.2.1.2.2.2.2.1) (out.2.2.1.2.2.2.2.2.1) (out.2.2.1.2.2.2.2.2.2.1) (out.2.2.1.2.2.2.2.2.2.2.1) (out.2.2.1.2.2.2.2.2.2.2.2.1) x3_knownFree (out.2.2.1.2.2.2.2.2.2.2.2.2), gLd d h4 (out.2.2.2.1) x4_goodsCount x4_workCount x4_years (out.2.2.2.2.1) x4_goods x4_works (out.2.2.2.2.2.1) x4_coin (out.2.2.2.2.2.2.1) (out.2.2.2.2.2.2.2)])) := by
  refine Ct.of (by decide) (Nat.le_of_ble_eq_true rfl) ?_
  intro Φ hl hK hR
  subst hl
  have hK : Ok d Φ RX0 "freeWith" cX0_freeWith 7 (some .int) { frames := 3, cells := 0, slots := 0, locals := 77 } := hK
  unfold fX0_freeWith at hf
  have hf := un4 hf
  have hf := un14 hf
  have hf := un11 hf
  have hf := un11 hf
  show J d Φ 7 [gCh d h0 (h1 0) a0_after (h3 0) x0_gained, gTr d h1 (h2 0) x1_left x1_earned x1_turnCost x1_turnWayless, gWy d h2 x2_edgeA x2_edgeB x2_edgeCost x2_edgeLine x2_change x2_away x2_steps x2_nodes x2_stepCount x2_open x2_openCount x2_seen x2_edgeCount x2_aim, gLd d h3 x3_lineCount x3_goodsCount x3_workCount x3_years x3_lines x3_goods x3_works x3_change x3_coin x3_knownFree x3_isKnown, gLd d h4 x4_lineCount x4_goodsCount x4_workCount x4_years x4_lines x4_goods x4_works x4_change x4_coin x4_knownFree x4_isKnown] 0 0 0 [(0, .ref (h0 0)), (1, .ref (h4 0)), (2, .int p2)] []
  refine J_iload_n hK qd0_2.1 rfl 2 rfl rfl ?_
  refine J_aload_n hK qd0_2.2.1 rfl 1 rfl rfl ?_
  obtain ⟨v1, e2, hf⟩ := bs hf
  refine J_callV (m := 5) (m' := 5) (ce' := 0) (sl' := 0) (gr := [gCh d h0 (h1 0) a0_after (h3 0) x0_gained, gTr d h1 (h2 0) x1_left x1_earned x1_turnCost x1_turnWayless, gWy d h2 x2_edgeA x2_edgeB x2_edgeCost x2_edgeLine x2_change x2_away x2_steps x2_nodes x2_stepCount x2_open x2_openCount x2_seen x2_edgeCount x2_aim, gLd d h3 x3_lineCount x3_goodsCount x3_workCount x3_years x3_lines x3_goods x3_works x3_change x3_coin x3_knownFree x3_isKnown]) (gs' := fun _ => [gCh d h0 (h1 0) a0_after (h3 0) x0_gained, gTr d h1 (h2 0) x1_left x1_earned x1_turnCost x1_turnWayless, gWy d h2 x2_edgeA x2_edgeB x2_edgeCost x2_edgeLine x2_change x2_away x2_steps x2_nodes x2_stepCount x2_open x2_openCount x2_seen x2_edgeCount x2_aim, gLd d h3 x3_lineCount x3_goodsCount x3_workCount x3_years x3_lines x3_goods x3_works x3_change x3_coin x3_knownFree x3_isKnown, gLd d h4 x4_lineCount x4_goodsCount x4_workCount x4_years x4_lines x4_goods x4_works x4_change x4_coin x4_knownFree x4_isKnown]) (st' := fun _ => [.int v1, .int p2]) (st := [.int p2]) hK qd0_2.2.2.1 cv_RX0_32 iv_yX1_doneWorks (As := []) (kX1_doneWorks _ d h4 n x4_lineCount x4_goodsCount x4_workCount x4_years x4_lines x4_goods x4_works x4_change x4_coin x4_knownFree x4_isKnown e2) rfl rfl (Nat.le_of_ble_eq_true rfl) (by decide) 4 0 rfl rfl rfl [4] [0, 1, 2, 3] rfl (by decide +kernel) rfl rfl [0, 1, 2, 3, 4] (by decide +kernel) (fun _ => rfl) (fun _ => rfl) rfl rfl rfl (fun _ => rfl) (fun _ => ?_)
  refine J_iconst (v := (-1)) hK qd0_2.2.2.2.1 rfl (by decide) ?_
  refine J_ixor hK qd0_2.2.2.2.2.1 rfl ?_
  refine J_iand hK qd0_2.2.2.2.2.2.1 rfl ?_
  refine J_istore_n (L' := [(3, .int (p2 &&& (v1 ^^^ (-1)))), (0, .ref (h0 0)), (1, .ref (h4 0)), (2, .int p2)]) hK qd0_2.2.2.2.2.2.2.1 rfl rfl (by decide) rfl ?_
  refine J_aload_n hK qd0_2.2.2.2.2.2.2.2.1 rfl 2 rfl rfl ?_
  refine J_iload_n hK qd0_2.2.2.2.2.2.2.2.2.1 rfl 0 rfl rfl ?_
  obtain ⟨⟨v3, g4, g5⟩, e6, hf⟩ := bs hf
  have hf := un3 hf
  refine J_callV (m := 5) (m' := 5) (ce' := 0) (sl' := 0) (gr := [gCh d h0 (h1 0) a0_after (h3 0) x0_gained, gTr d h1 (h2 0) x1_left x1_earned x1_turnCost x1_turnWayless, gWy d h2 x2_edgeA x2_edgeB x2_edgeCost x2_edgeLine x2_change x2_away x2_steps x2_nodes x2_stepCount x2_open x2_openCount x2_seen x2_edgeCount x2_aim, gLd d h3 x3_lineCount x3_goodsCount x3_workCount x3_years x3_lines x3_goods x3_works x3_change x3_coin x3_knownFree x3_isKnown]) (gs' := fun _ => [gCh d h0 (h1 0) a0_after (h3 0) x0_gained, gTr d h1 (h2 0) x1_left x1_earned x1_turnCost x1_turnWayless, gWy d h2 x2_edgeA x2_edgeB x2_edgeCost x2_edgeLine x2_change x2_away x2_steps x2_nodes x2_stepCount x2_open x2_openCount x2_seen x2_edgeCount x2_aim, gLd d h3 x3_lineCount x3_goodsCount x3_workCount x3_years x3_lines x3_goods x3_works x3_change x3_coin x3_knownFree x3_isKnown, gLd d h4 x4_lineCount x4_goodsCount x4_workCount x4_years x4_lines x4_goods x4_works x4_change x4_coin g4 g5]) (st' := fun _ => [.int v3]) (st := []) hK qd0_2.2.2.2.2.2.2.2.2.2.1 cv_RX0_36 iv_yX1_freeKnown (As := [.int (p2 &&& (v1 ^^^ (-1)))]) (kX1_freeKnown _ d h4 n x4_lineCount x4_goodsCount x4_workCount x4_years x4_lines x4_goods x4_works x4_change x4_coin x4_knownFree x4_isKnown (p2 &&& (v1 ^^^ (-1))) e6) rfl rfl (Nat.le_of_ble_eq_true rfl) (by decide) 4 0 rfl rfl rfl [4] [0, 1, 2, 3] rfl (by decide +kernel) rfl rfl [0, 1, 2, 3, 4] (by decide +kernel) (fun _ => rfl) (fun _ => rfl) rfl rfl rfl (fun _ => rfl) (fun _ => ?_)
  refine J_istore (L' := [(4, .int v3), (3, .int (p2 &&& (v1 ^^^ (-1)))), (0, .ref (h0 0)), (1, .ref (h4 0)), (2, .int p2)]) hK qd0_2.2.2.2.2.2.2.2.2.2.2.1 rfl (by decide) rfl ?_
  refine J_iload hK qd0_2.2.2.2.2.2.2.2.2.2.2.2.1 rfl 0 rfl ?_
  refine J_iconst (v := (-1)) hK qd0_2.2.2.2.2.2.2.2.2.2.2.2.2.1 rfl (by decide) ?_
  refine J_icmp_eq (tg := 25) hK qd0_2.2.2.2.2.2.2.2.2.2.2.2.2.2.1 rfl rfl (fun hc19 => ?_) (fun hc19 => ?_)
  · have hf := ip hc19 hf
    refine J_aload_n hK qd0_3.1 rfl 3 rfl rfl ?_
    refine J_astore (L' := [(5, .ref (h4 0)), (4, .int v3), (3, .int (p2 &&& (v1 ^^^ (-1)))), (0, .ref (h0 0)), (1, .ref (h4 0)), (2, .int p2)]) hK qd0_3.2.1 rfl (by decide) rfl ?_
    refine J_iload_n hK qd0_3.2.2.1 rfl 2 rfl rfl ?_
    refine J_if_eq (tg := 44) hK qd0_3.2.2.2.1 rfl rfl (fun hc29 => ?_) (fun hc29 => ?_)
    · have hf := ip hc29 hf
      refine J_iconst (v := 0) hK qd0_3.2.2.2.2.2.2.2.2.2.2.1 rfl (by decide) ?_
      refine J_istore (L' := [(6, .int (0)), (5, .ref (h4 0)), (4, .int v3), (3, .int (p2 &&& (v1 ^^^ (-1)))), (0, .ref (h0 0)), (1, .ref (h4 0)), (2, .int p2)]) hK qd0_3.2.2.2.2.2.2.2.2.2.2.2.1 rfl (by decide) rfl ?_
      obtain ⟨e27, hl17, hf⟩ := bs hf
      have hx17_78 : ∀ (w28 : Int32) (w29 : (Nat → Int32)) (w30 : (Nat → Int32)) (w31 : Int32) (w32 : Int32) (w33 : (Nat → Int32)) (w34 : (Nat → Int32)) (w35 : Int32), (w28, w29, w30, w31, w32, w33, w34, w35) = e27 → J d Φ 7 [gCh d h0 (h1 0) a0_after (h3 0) x0_gained, gTr d h1 (h2 0) x1_left x1_earned x1_turnCost x1_turnWayless, gWy d h2 x2_edgeA x2_edgeB x2_edgeCost x2_edgeLine x2_change x2_away x2_steps x2_nodes x2_stepCount x2_open x2_openCount x2_seen x2_edgeCount x2_aim, gLd d h3 w28 x3_goodsCount x3_workCount x3_years w29 x3_goods x3_works w30 x3_coin x3_knownFree w31, gLd d h4 w32 x4_goodsCount x4_workCount x4_years w33 x4_goods x4_works w34 x4_coin g4 w35] 0 0 78 [(0, .ref (h0 0)), (1, .ref (h4 0)), (3, .int (p2 &&& (v1 ^^^ (-1)))), (5, .ref (h4 0))] [] := by
        intro w28 w29 w30 w31 w32 w33 w34 w35 he
        rw [← he] at hf
        have hf := un8 hf
        refine J_aload_n hK qd0_4.2.2.2.2.2.2.2.2.2.2.2.1 rfl 0 rfl rfl ?_
        refine J_get hK fo_RX0_12 qd0_4.2.2.2.2.2.2.2.2.2.2.2.2.1 rfl 0 0 rfl rfl rfl ?_
        refine J_aload hK qd0_4.2.2.2.2.2.2.2.2.2.2.2.2.2.1 rfl 3 rfl ?_
        refine J_aload hK qd0_4.2.2.2.2.2.2.2.2.2.2.2.2.2.2.1 rfl 3 rfl ?_
        obtain ⟨v36, e37, hf⟩ := bs hf
        refine J_callV (m := 5) (m' := 5) (ce' := 0) (sl' := 0) (gr := [gCh d h0 (h1 0) a0_after (h3 0) x0_gained, gTr d h1 (h2 0) x1_left x1_earned x1_turnCost x1_turnWayless, gWy d h2 x2_edgeA x2_edgeB x2_edgeCost x2_edgeLine x2_change x2_away x2_steps x2_nodes x2_stepCount x2_open x2_openCount x2_seen x2_edgeCount x2_aim, gLd d h3 w28 x3_goodsCount x3_workCount x3_years w29 x3_goods x3_works w30 x3_coin x3_knownFree w31]) (gs' := fun _ => [gCh d h0 (h1 0) a0_after (h3 0) x0_gained, gTr d h1 (h2 0) x1_left x1_earned x1_turnCost x1_turnWayless, gWy d h2 x2_edgeA x2_edgeB x2_edgeCost x2_edgeLine x2_change x2_away x2_steps x2_nodes x2_stepCount x2_open x2_openCount x2_seen x2_edgeCount x2_aim, gLd d h3 w28 x3_goodsCount x3_workCount x3_years w29 x3_goods x3_works w30 x3_coin x3_knownFree w31, gLd d h4 w32 x4_goodsCount x4_workCount x4_years w33 x4_goods x4_works w34 x4_coin g4 w35]) (st' := fun _ => [.int v36, .ref (h4 0), .ref (h1 0)]) (st := [.ref (h4 0), .ref (h1 0)]) hK qd0_4.2.2.2.2.2.2.2.2.2.2.2.2.2.2.2.1 cv_RX0_52 iv_yX1_linesThere (As := []) (kX1_linesThere _ d h4 n w32 x4_goodsCount x4_workCount x4_years w33 x4_goods x4_works w34 x4_coin g4 w35 e37) rfl rfl (Nat.le_of_ble_eq_true rfl) (by decide) 4 0 rfl rfl rfl [4] [0, 1, 2, 3] rfl (by decide +kernel) rfl rfl [0, 1, 2, 3, 4] (by decide +kernel) (fun _ => rfl) (fun _ => rfl) rfl rfl rfl (fun _ => rfl) (fun _ => ?_)
        obtain ⟨⟨v38, ⟨g40, g41, g42, g43, g44, g45, g46, g47⟩⟩, e48, hf⟩ := bs hf
        have hf := un2 hf
        have hf := un8 hf
        refine J_callV (m := 5) (m' := 5) (ce' := 0) (sl' := 0) (gr := [gCh d h0 (h1 0) a0_after (h3 0) x0_gained, gLd d h3 w28 x3_goodsCount x3_workCount x3_years w29 x3_goods x3_works w30 x3_coin x3_knownFree w31]) (gs' := fun _ => [gCh d h0 (h1 0) a0_after (h3 0) x0_gained, gTr d h1 (h2 0) x1_left x1_earned x1_turnCost x1_turnWayless, gWy d h2 g40 g41 g42 g43 g44 g45 x2_steps x2_nodes x2_stepCount x2_open x2_openCount x2_seen g46 g47, gLd d h3 w28 x3_goodsCount x3_workCount x3_years w29 x3_goods x3_works w30 x3_coin x3_knownFree w31, gLd d h4 w32 x4_goodsCount x4_workCount x4_years w33 x4_goods x4_works w34 x4_coin g4 w35]) (st' := fun _ => [.int v38]) (st := []) hK qd0_5.1 cv_RX0_55 iv_yX4_freeBy (As := [.ref (h4 0), .int v36]) (kX4_freeBy _ d h1 h2 h4 n x1_left x1_earned x1_turnCost x1_turnWayless x2_edgeA x2_edgeB x2_edgeCost x2_edgeLine x2_change x2_away x2_steps x2_nodes x2_stepCount x2_open x2_openCount x2_seen x2_edgeCount x2_aim w32 x4_goodsCount x4_workCount x4_years w33 x4_goods x4_works w34 x4_coin g4 w35 v36 e48) rfl rfl (Nat.le_of_ble_eq_true rfl) (by decide) 1 0 rfl rfl rfl [1, 2, 4] [0, 3] rfl (by decide +kernel) rfl rfl [0, 2, 3, 1, 4] (by decide +kernel) (fun _ => rfl) (fun _ => rfl) rfl rfl rfl (fun _ => rfl) (fun _ => ?_)
        refine J_istore (L' := [(6, .int v38), (0, .ref (h0 0)), (1, .ref (h4 0)), (3, .int (p2 &&& (v1 ^^^ (-1)))), (5, .ref (h4 0))]) hK qd0_5.2.1 rfl (by decide) rfl ?_
        refine J_aload_n hK qd0_5.2.2.1 rfl 2 rfl rfl ?_
        refine J_iload_n hK qd0_5.2.2.2.1 rfl 3 rfl rfl ?_
        refine J_iload hK qd0_5.2.2.2.2.1 rfl 0 rfl ?_
        obtain ⟨g49, e50, hf⟩ := bs hf
        refine J_callV (m := 5) (m' := 5) (ce' := 0) (sl' := 0) (gr := [gCh d h0 (h1 0) a0_after (h3 0) x0_gained, gTr d h1 (h2 0) x1_left x1_earned x1_turnCost x1_turnWayless, gWy d h2 g40 g41 g42 g43 g44 g45 x2_steps x2_nodes x2_stepCount x2_open x2_openCount x2_seen g46 g47, gLd d h3 w28 x3_goodsCount x3_workCount x3_years w29 x3_goods x3_works w30 x3_coin x3_knownFree w31]) (gs' := fun _ => [gCh d h0 (h1 0) a0_after (h3 0) x0_gained, gTr d h1 (h2 0) x1_left x1_earned x1_turnCost x1_turnWayless, gWy d h2 g40 g41 g42 g43 g44 g45 x2_steps x2_nodes x2_stepCount x2_open x2_openCount x2_seen g46 g47, gLd d h3 w28 x3_goodsCount x3_workCount x3_years w29 x3_goods x3_works w30 x3_coin x3_knownFree w31, gLd d h4 w32 x4_goodsCount x4_workCount x4_years w33 x4_goods x4_works w34 x4_coin g49 w35]) (st' := fun _ => []) (st := []) hK qd0_5.2.2.2.2.2.1 cv_RX0_59 iv_yX1_keepFree (As := [.int (p2 &&& (v1 ^^^ (-1))), .int v38]) (kX1_keepFree _ d h4 w32 x4_goodsCount x4_workCount x4_years w33 x4_goods x4_works w34 x4_coin g4 w35 (p2 &&& (v1 ^^^ (-1))) v38 e50) rfl rfl (Nat.le_of_ble_eq_true rfl) (by decide) 4 0 rfl rfl rfl [4] [0, 1, 2, 3] rfl (by decide +kernel) rfl rfl [0, 1, 2, 3, 4] (by decide +kernel) (fun _ => rfl) (fun _ => rfl) rfl rfl rfl (fun _ => rfl) (fun _ => ?_)
        refine J_iload hK qd0_5.2.2.2.2.2.2.1 rfl 0 rfl ?_
        obtain rfl := Option.some.inj hf
        exact J_iret hK hR qd0_5.2.2.2.2.2.2.2.1 () rfl (by decide) (by decide)
      have lo17 : ∀ (k : Nat) (z18 : Int32) (z19 : Int32) (z20 : (Nat → Int32)) (z21 : (Nat → Int32)) (z22 : Int32) (z23 : Int32) (z24 : (Nat → Int32)) (z25 : (Nat → Int32)) (z26 : Int32), lp (u9 (fX0_freeWith_s47 p2 x4_goodsCount x4_workCount x4_years x4_goods x4_works x4_coin v1 g4)) k (z18, z19, z20, z21, z22, z23, z24, z25, z26) = some e27 → J d Φ 7 [gCh d h0 (h1 0) a0_after (h3 0) x0_gained, gTr d h1 (h2 0) x1_left x1_earned x1_turnCost x1_turnWayless, gWy d h2 x2_edgeA x2_edgeB x2_edgeCost x2_edgeLine x2_change x2_away x2_steps x2_nodes x2_stepCount x2_open x2_openCount x2_seen x2_edgeCount x2_aim, gLd d h3 z19 x3_goodsCount x3_workCount x3_years z20 x3_goods x3_works z21 x3_coin x3_knownFree z22, gLd d h4 z23 x4_goodsCount x4_workCount x4_years z24 x4_goods x4_works z25 x4_coin g4 z26] 0 0 47 [(0, .ref (h0 0)), (1, .ref (h4 0)), (3, .int (p2 &&& (v1 ^^^ (-1)))), (5, .ref (h4 0)), (6, .int z18)] [] := by
        intro k
        induction k with
        | zero => intro z18 z19 z20 z21 z22 z23 z24 z25 z26 h; cases h
        | succ k ih17 =>
          intro z18 z19 z20 z21 z22 z23 z24 z25 z26 h
          obtain ⟨k2, rr17, hk2, hs17, hr17⟩ := lp_ok h
          cases hk2
          have hs17 : fX0_freeWith_s47 p2 x4_goodsCount x4_workCount x4_years x4_goods x4_works x4_coin v1 g4 z18 z19 z20 z21 z22 z23 z24 z25 z26 = some rr17 := hs17
          unfold fX0_freeWith_s47 at hs17
          refine J_iload hK qd0_3.2.2.2.2.2.2.2.2.2.2.2.2.1 rfl 4 rfl ?_
          refine J_aload_n hK qd0_3.2.2.2.2.2.2.2.2.2.2.2.2.2.1 rfl 1 rfl rfl ?_
          refine J_get hK fo_RX0_44 qd0_3.2.2.2.2.2.2.2.2.2.2.2.2.2.2.1 rfl 4 0 rfl rfl rfl ?_
          refine J_icmp_ge (tg := 78) hK qd0_3.2.2.2.2.2.2.2.2.2.2.2.2.2.2.2.1 rfl rfl (fun hc53 => ?_) (fun hc53 => ?_)
          · have hs17 := ip hc53 hs17
            exact J_loc [0, 1, 2, 3] rfl (hx17_78 z19 z20 z21 z22 z23 z24 z25 z26 (lpx hs17 hr17))
          · have hs17 := iq hc53 hs17
            refine J_iload_n hK qd0_4.1 rfl 2 rfl rfl ?_
            refine J_iload hK qd0_4.2.1 rfl 4 rfl ?_
            refine J_ishr hK qd0_4.2.2.1 rfl ?_
            refine J_iconst (v := 1) hK qd0_4.2.2.2.1 rfl (by decide) ?_
            refine J_iand hK qd0_4.2.2.2.2.1 rfl ?_
            refine J_if_eq (tg := 72) hK qd0_4.2.2.2.2.2.1 rfl rfl (fun hc62 => ?_) (fun hc62 => ?_)
            · have hs17 := ip hc62 hs17
              refine J_iinc (L' := [(6, .int (z18 + 1)), (0, .ref (h0 0)), (1, .ref (h4 0)), (3, .int (p2 &&& (v1 ^^^ (-1)))), (5, .ref (h4 0))]) (v := (z18 + 1)) hK qd0_4.2.2.2.2.2.2.2.2.2.1 rfl 4 rfl rfl (by decide) rfl ?_
              refine J_goto hK qd0_4.2.2.2.2.2.2.2.2.2.2.1 (n := 47) rfl ?_
              exact J_loc [1, 2, 3, 4, 0] rfl (ih17 (z18 + 1) z19 z20 z21 z22 z23 z24 z25 z26 (lpc hs17 hr17))
            · have hs17 := iq hc62 hs17
              refine J_aload hK qd0_4.2.2.2.2.2.2.1 rfl 3 rfl ?_
              refine J_iload hK qd0_4.2.2.2.2.2.2.2.1 rfl 4 rfl ?_
              obtain ⟨⟨g51, g52, g53, g54⟩, e55, hs17⟩ := bs hs17
              have hs17 := un4 hs17
              refine J_callV (m := 5) (m' := 5) (ce' := 0) (sl' := 0) (gr := [gCh d h0 (h1 0) a0_after (h3 0) x0_gained, gTr d h1 (h2 0) x1_left x1_earned x1_turnCost x1_turnWayless, gWy d h2 x2_edgeA x2_edgeB x2_edgeCost x2_edgeLine x2_change x2_away x2_steps x2_nodes x2_stepCount x2_open x2_openCount x2_seen x2_edgeCount x2_aim, gLd d h3 z19 x3_goodsCount x3_workCount x3_years z20 x3_goods x3_works z21 x3_coin x3_knownFree z22]) (gs' := fun _ => [gCh d h0 (h1 0) a0_after (h3 0) x0_gained, gTr d h1 (h2 0) x1_left x1_earned x1_turnCost x1_turnWayless, gWy d h2 x2_edgeA x2_edgeB x2_edgeCost x2_edgeLine x2_change x2_away x2_steps x2_nodes x2_stepCount x2_open x2_openCount x2_seen x2_edgeCount x2_aim, gLd d h3 z19 x3_goodsCount x3_workCount x3_years z20 x3_goods x3_works z21 x3_coin x3_knownFree z22, gLd d h4 g51 x4_goodsCount x4_workCount x4_years g52 x4_goods x4_works g53 x4_coin g4 g54]) (st' := fun _ => []) (st := []) hK qd0_4.2.2.2.2.2.2.2.2.1 cv_RX0_48 iv_yX1_perform (As := [.int z18]) (kX1_perform _ d h4 z23 x4_goodsCount x4_workCount x4_years z24 x4_goods x4_works z25 x4_coin g4 z26 z18 e55) rfl rfl (Nat.le_of_ble_eq_true rfl) (by decide) 4 0 rfl rfl rfl [4] [0, 1, 2, 3] rfl (by decide +kernel) rfl rfl [0, 1, 2, 3, 4] (by decide +kernel) (fun _ => rfl) (fun _ => rfl) rfl rfl rfl (fun _ => rfl) (fun _ => ?_)
              refine J_iinc (L' := [(6, .int (z18 + 1)), (0, .ref (h0 0)), (1, .ref (h4 0)), (3, .int (p2 &&& (v1 ^^^ (-1)))), (5, .ref (h4 0))]) (v := (z18 + 1)) hK qd0_4.2.2.2.2.2.2.2.2.2.1 rfl 4 rfl rfl (by decide) rfl ?_
              refine J_goto hK qd0_4.2.2.2.2.2.2.2.2.2.2.1 (n := 47) rfl ?_
              exact J_loc [1, 2, 3, 4, 0] rfl (ih17 (z18 + 1) z19 z20 z21 z22 g51 g52 g53 g54 (lpc hs17 hr17))
      exact J_loc [4, 5, 3, 1, 0] rfl (lo17 n (0) x3_lineCount x3_lines x3_change x3_isKnown x4_lineCount x4_lines x4_change g5 hl17)
    · have hf := iq hc29 hf
      refine J_aload_n hK qd0_3.2.2.2.2.1 rfl 3 rfl rfl ?_
      refine J_get hK fo_RX0_29 qd0_3.2.2.2.2.2.1 rfl 0 0 rfl rfl rfl ?_
      refine J_astore (L' := [(5, .ref (h3 0)), (4, .int v3), (3, .int (p2 &&& (v1 ^^^ (-1)))), (0, .ref (h0 0)), (1, .ref (h4 0)), (2, .int p2)]) hK qd0_3.2.2.2.2.2.2.1 rfl (by decide) rfl ?_
      refine J_aload hK qd0_3.2.2.2.2.2.2.2.1 rfl 0 rfl ?_
      refine J_aload_n hK qd0_3.2.2.2.2.2.2.2.2.1 rfl 4 rfl rfl ?_
      obtain ⟨⟨g57, g58, g59, g60, g61, g62, g63, g64, g65, g66⟩, e67, hf⟩ := bs hf
      have hf := un10 hf
      refine J_callV (m := 5) (m' := 5) (ce' := 0) (sl' := 0) (gr := [gCh d h0 (h1 0) a0_after (h3 0) x0_gained, gTr d h1 (h2 0) x1_left x1_earned x1_turnCost x1_turnWayless, gWy d h2 x2_edgeA x2_edgeB x2_edgeCost x2_edgeLine x2_change x2_away x2_steps x2_nodes x2_stepCount x2_open x2_openCount x2_seen x2_edgeCount x2_aim]) (gs' := fun _ => [gCh d h0 (h1 0) a0_after (h3 0) x0_gained, gTr d h1 (h2 0) x1_left x1_earned x1_turnCost x1_turnWayless, gWy d h2 x2_edgeA x2_edgeB x2_edgeCost x2_edgeLine x2_change x2_away x2_steps x2_nodes x2_stepCount x2_open x2_openCount x2_seen x2_edgeCount x2_aim, gLd d h3 g57 g58 g59 g60 g61 g62 g63 g64 g65 x3_knownFree g66, gLd d h4 x4_lineCount x4_goodsCount x4_workCount x4_years x4_lines x4_goods x4_works x4_change x4_coin g4 g5]) (st' := fun _ => []) (st := []) hK qd0_3.2.2.2.2.2.2.2.2.2.1 cv_RX0_40 iv_yX1_take (As := [.ref (h4 0)]) (kX1_take _ d h3 h4 x3_lineCount x3_goodsCount x3_workCount x3_years x3_lines x3_goods x3_works x3_change x3_coin x3_knownFree x3_isKnown x4_lineCount x4_goodsCount x4_workCount x4_years x4_lines x4_goods x4_works x4_change x4_coin g4 g5 e67) rfl rfl (Nat.le_of_ble_eq_true rfl) (by decide) 3 0 rfl rfl rfl [3, 4] [0, 1, 2] rfl (by decide +kernel) rfl rfl [0, 1, 2, 3, 4] (by decide +kernel) (fun _ => rfl) (fun _ => rfl) rfl rfl rfl (fun _ => rfl) (fun _ => ?_)
      refine J_iconst (v := 0) hK qd0_3.2.2.2.2.2.2.2.2.2.2.1 rfl (by decide) ?_
      refine J_istore (L' := [(6, .int (0)), (5, .ref (h3 0)), (4, .int v3), (3, .int (p2 &&& (v1 ^^^ (-1)))), (0, .ref (h0 0)), (1, .ref (h4 0)), (2, .int p2)]) hK qd0_3.2.2.2.2.2.2.2.2.2.2.2.1 rfl (by decide) rfl ?_
      obtain ⟨e78, hl68, hf⟩ := bs hf
      have hx68_78 : ∀ (w79 : Int32) (w80 : (Nat → Int32)) (w81 : (Nat → Int32)) (w82 : Int32) (w83 : Int32) (w84 : (Nat → Int32)) (w85 : (Nat → Int32)) (w86 : Int32), (w79, w80, w81, w82, w83, w84, w85, w86) = e78 → J d Φ 7 [gCh d h0 (h1 0) a0_after (h3 0) x0_gained, gTr d h1 (h2 0) x1_left x1_earned x1_turnCost x1_turnWayless, gWy d h2 x2_edgeA x2_edgeB x2_edgeCost x2_edgeLine x2_change x2_away x2_steps x2_nodes x2_stepCount x2_open x2_openCount x2_seen x2_edgeCount x2_aim, gLd d h3 w79 g58 g59 g60 w80 g62 g63 w81 g65 x3_knownFree w82, gLd d h4 w83 x4_goodsCount x4_workCount x4_years w84 x4_goods x4_works w85 x4_coin g4 w86] 0 0 78 [(0, .ref (h0 0)), (1, .ref (h4 0)), (3, .int (p2 &&& (v1 ^^^ (-1)))), (5, .ref (h3 0))] [] := by
        intro w79 w80 w81 w82 w83 w84 w85 w86 he
        rw [← he] at hf
        have hf := un8 hf
        refine J_aload_n hK qd0_4.2.2.2.2.2.2.2.2.2.2.2.1 rfl 0 rfl rfl ?_
        refine J_get hK fo_RX0_12 qd0_4.2.2.2.2.2.2.2.2.2.2.2.2.1 rfl 0 0 rfl rfl rfl ?_
        refine J_aload hK qd0_4.2.2.2.2.2.2.2.2.2.2.2.2.2.1 rfl 3 rfl ?_
        refine J_aload hK qd0_4.2.2.2.2.2.2.2.2.2.2.2.2.2.2.1 rfl 3 rfl ?_
        obtain ⟨v87, e88, hf⟩ := bs hf
        refine J_callV (m := 5) (m' := 5) (ce' := 0) (sl' := 0) (gr := [gCh d h0 (h1 0) a0_after (h3 0) x0_gained, gTr d h1 (h2 0) x1_left x1_earned x1_turnCost x1_turnWayless, gWy d h2 x2_edgeA x2_edgeB x2_edgeCost x2_edgeLine x2_change x2_away x2_steps x2_nodes x2_stepCount x2_open x2_openCount x2_seen x2_edgeCount x2_aim, gLd d h4 w83 x4_goodsCount x4_workCount x4_years w84 x4_goods x4_works w85 x4_coin g4 w86]) (gs' := fun _ => [gCh d h0 (h1 0) a0_after (h3 0) x0_gained, gTr d h1 (h2 0) x1_left x1_earned x1_turnCost x1_turnWayless, gWy d h2 x2_edgeA x2_edgeB x2_edgeCost x2_edgeLine x2_change x2_away x2_steps x2_nodes x2_stepCount x2_open x2_openCount x2_seen x2_edgeCount x2_aim, gLd d h3 w79 g58 g59 g60 w80 g62 g63 w81 g65 x3_knownFree w82, gLd d h4 w83 x4_goodsCount x4_workCount x4_years w84 x4_goods x4_works w85 x4_coin g4 w86]) (st' := fun _ => [.int v87, .ref (h3 0), .ref (h1 0)]) (st := [.ref (h3 0), .ref (h1 0)]) hK qd0_4.2.2.2.2.2.2.2.2.2.2.2.2.2.2.2.1 cv_RX0_52 iv_yX1_linesThere (As := []) (kX1_linesThere _ d h3 n w79 g58 g59 g60 w80 g62 g63 w81 g65 x3_knownFree w82 e88) rfl rfl (Nat.le_of_ble_eq_true rfl) (by decide) 3 0 rfl rfl rfl [3] [0, 1, 2, 4] rfl (by decide +kernel) rfl rfl [0, 1, 2, 4, 3] (by decide +kernel) (fun _ => rfl) (fun _ => rfl) rfl rfl rfl (fun _ => rfl) (fun _ => ?_)
        obtain ⟨⟨v89, ⟨g91, g92, g93, g94, g95, g96, g97, g98⟩⟩, e99, hf⟩ := bs hf
        have hf := un2 hf
        have hf := un8 hf
        refine J_callV (m := 5) (m' := 5) (ce' := 0) (sl' := 0) (gr := [gCh d h0 (h1 0) a0_after (h3 0) x0_gained, gLd d h4 w83 x4_goodsCount x4_workCount x4_years w84 x4_goods x4_works w85 x4_coin g4 w86]) (gs' := fun _ => [gCh d h0 (h1 0) a0_after (h3 0) x0_gained, gTr d h1 (h2 0) x1_left x1_earned x1_turnCost x1_turnWayless, gWy d h2 g91 g92 g93 g94 g95 g96 x2_steps x2_nodes x2_stepCount x2_open x2_openCount x2_seen g97 g98, gLd d h3 w79 g58 g59 g60 w80 g62 g63 w81 g65 x3_knownFree w82, gLd d h4 w83 x4_goodsCount x4_workCount x4_years w84 x4_goods x4_works w85 x4_coin g4 w86]) (st' := fun _ => [.int v89]) (st := []) hK qd0_5.1 cv_RX0_55 iv_yX4_freeBy (As := [.ref (h3 0), .int v87]) (kX4_freeBy _ d h1 h2 h3 n x1_left x1_earned x1_turnCost x1_turnWayless x2_edgeA x2_edgeB x2_edgeCost x2_edgeLine x2_change x2_away x2_steps x2_nodes x2_stepCount x2_open x2_openCount x2_seen x2_edgeCount x2_aim w79 g58 g59 g60 w80 g62 g63 w81 g65 x3_knownFree w82 v87 e99) rfl rfl (Nat.le_of_ble_eq_true rfl) (by decide) 1 0 rfl rfl rfl [1, 2, 3] [0, 4] rfl (by decide +kernel) rfl rfl [0, 2, 3, 4, 1] (by decide +kernel) (fun _ => rfl) (fun _ => rfl) rfl rfl rfl (fun _ => rfl) (fun _ => ?_)
        refine J_istore (L' := [(6, .int v89), (0, .ref (h0 0)), (1, .ref (h4 0)), (3, .int (p2 &&& (v1 ^^^ (-1)))), (5, .ref (h3 0))]) hK qd0_5.2.1 rfl (by decide) rfl ?_
        refine J_aload_n hK qd0_5.2.2.1 rfl 2 rfl rfl ?_
        refine J_iload_n hK qd0_5.2.2.2.1 rfl 3 rfl rfl ?_
        refine J_iload hK qd0_5.2.2.2.2.1 rfl 0 rfl ?_
        obtain ⟨g100, e101, hf⟩ := bs hf
        refine J_callV (m := 5) (m' := 5) (ce' := 0) (sl' := 0) (gr := [gCh d h0 (h1 0) a0_after (h3 0) x0_gained, gTr d h1 (h2 0) x1_left x1_earned x1_turnCost x1_turnWayless, gWy d h2 g91 g92 g93 g94 g95 g96 x2_steps x2_nodes x2_stepCount x2_open x2_openCount x2_seen g97 g98, gLd d h3 w79 g58 g59 g60 w80 g62 g63 w81 g65 x3_knownFree w82]) (gs' := fun _ => [gCh d h0 (h1 0) a0_after (h3 0) x0_gained, gTr d h1 (h2 0) x1_left x1_earned x1_turnCost x1_turnWayless, gWy d h2 g91 g92 g93 g94 g95 g96 x2_steps x2_nodes x2_stepCount x2_open x2_openCount x2_seen g97 g98, gLd d h3 w79 g58 g59 g60 w80 g62 g63 w81 g65 x3_knownFree w82, gLd d h4 w83 x4_goodsCount x4_workCount x4_years w84 x4_goods x4_works w85 x4_coin g100 w86]) (st' := fun _ => []) (st := []) hK qd0_5.2.2.2.2.2.1 cv_RX0_59 iv_yX1_keepFree (As := [.int (p2 &&& (v1 ^^^ (-1))), .int v89]) (kX1_keepFree _ d h4 w83 x4_goodsCount x4_workCount x4_years w84 x4_goods x4_works w85 x4_coin g4 w86 (p2 &&& (v1 ^^^ (-1))) v89 e101) rfl rfl (Nat.le_of_ble_eq_true rfl) (by decide) 4 0 rfl rfl rfl [4] [0, 1, 2, 3] rfl (by decide +kernel) rfl rfl [0, 1, 2, 3, 4] (by decide +kernel) (fun _ => rfl) (fun _ => rfl) rfl rfl rfl (fun _ => rfl) (fun _ => ?_)
        refine J_iload hK qd0_5.2.2.2.2.2.2.1 rfl 0 rfl ?_
        obtain rfl := Option.some.inj hf
        exact J_iret hK hR qd0_5.2.2.2.2.2.2.2.1 () rfl (by decide) (by decide)
      have lo68 : ∀ (k : Nat) (z69 : Int32) (z70 : Int32) (z71 : (Nat → Int32)) (z72 : (Nat → Int32)) (z73 : Int32) (z74 : Int32) (z75 : (Nat → Int32)) (z76 : (Nat → Int32)) (z77 : Int32), lp (u9 (fX0_freeWith_s47b p2 x3_knownFree x4_workCount v1 g58 g59 g60 g62 g63 g65)) k (z69, z70, z71, z72, z73, z74, z75, z76, z77) = some e78 → J d Φ 7 [gCh d h0 (h1 0) a0_after (h3 0) x0_gained, gTr d h1 (h2 0) x1_left x1_earned x1_turnCost x1_turnWayless, gWy d h2 x2_edgeA x2_edgeB x2_edgeCost x2_edgeLine x2_change x2_away x2_steps x2_nodes x2_stepCount x2_open x2_openCount x2_seen x2_edgeCount x2_aim, gLd d h3 z70 g58 g59 g60 z71 g62 g63 z72 g65 x3_knownFree z73, gLd d h4 z74 x4_goodsCount x4_workCount x4_years z75 x4_goods x4_works z76 x4_coin g4 z77] 0 0 47 [(0, .ref (h0 0)), (1, .ref (h4 0)), (3, .int (p2 &&& (v1 ^^^ (-1)))), (5, .ref (h3 0)), (6, .int z69)] [] := by
        intro k
        induction k with
        | zero => intro z69 z70 z71 z72 z73 z74 z75 z76 z77 h; cases h
        | succ k ih68 =>
          intro z69 z70 z71 z72 z73 z74 z75 z76 z77 h
          obtain ⟨k2, rr68, hk2, hs68, hr68⟩ := lp_ok h
          cases hk2
          have hs68 : fX0_freeWith_s47b p2 x3_knownFree x4_workCount v1 g58 g59 g60 g62 g63 g65 z69 z70 z71 z72 z73 z74 z75 z76 z77 = some rr68 := hs68
          unfold fX0_freeWith_s47b at hs68
          refine J_iload hK qd0_3.2.2.2.2.2.2.2.2.2.2.2.2.1 rfl 4 rfl ?_
          refine J_aload_n hK qd0_3.2.2.2.2.2.2.2.2.2.2.2.2.2.1 rfl 1 rfl rfl ?_
          refine J_get hK fo_RX0_44 qd0_3.2.2.2.2.2.2.2.2.2.2.2.2.2.2.1 rfl 4 0 rfl rfl rfl ?_
          refine J_icmp_ge (tg := 78) hK qd0_3.2.2.2.2.2.2.2.2.2.2.2.2.2.2.2.1 rfl rfl (fun hc53 => ?_) (fun hc53 => ?_)
          · have hs68 := ip hc53 hs68
            exact J_loc [0, 1, 2, 3] rfl (hx68_78 z70 z71 z72 z73 z74 z75 z76 z77 (lpx hs68 hr68))
          · have hs68 := iq hc53 hs68
            refine J_iload_n hK qd0_4.1 rfl 2 rfl rfl ?_
            refine J_iload hK qd0_4.2.1 rfl 4 rfl ?_
            refine J_ishr hK qd0_4.2.2.1 rfl ?_
            refine J_iconst (v := 1) hK qd0_4.2.2.2.1 rfl (by decide) ?_
            refine J_iand hK qd0_4.2.2.2.2.1 rfl ?_
            refine J_if_eq (tg := 72) hK qd0_4.2.2.2.2.2.1 rfl rfl (fun hc62 => ?_) (fun hc62 => ?_)
            · have hs68 := ip hc62 hs68
              refine J_iinc (L' := [(6, .int (z69 + 1)), (0, .ref (h0 0)), (1, .ref (h4 0)), (3, .int (p2 &&& (v1 ^^^ (-1)))), (5, .ref (h3 0))]) (v := (z69 + 1)) hK qd0_4.2.2.2.2.2.2.2.2.2.1 rfl 4 rfl rfl (by decide) rfl ?_
              refine J_goto hK qd0_4.2.2.2.2.2.2.2.2.2.2.1 (n := 47) rfl ?_
              exact J_loc [1, 2, 3, 4, 0] rfl (ih68 (z69 + 1) z70 z71 z72 z73 z74 z75 z76 z77 (lpc hs68 hr68))
            · have hs68 := iq hc62 hs68
              refine J_aload hK qd0_4.2.2.2.2.2.2.1 rfl 3 rfl ?_
              refine J_iload hK qd0_4.2.2.2.2.2.2.2.1 rfl 4 rfl ?_
              obtain ⟨⟨g102, g103, g104, g105⟩, e106, hs68⟩ := bs hs68
              have hs68 := un4 hs68
              refine J_callV (m := 5) (m' := 5) (ce' := 0) (sl' := 0) (gr := [gCh d h0 (h1 0) a0_after (h3 0) x0_gained, gTr d h1 (h2 0) x1_left x1_earned x1_turnCost x1_turnWayless, gWy d h2 x2_edgeA x2_edgeB x2_edgeCost x2_edgeLine x2_change x2_away x2_steps x2_nodes x2_stepCount x2_open x2_openCount x2_seen x2_edgeCount x2_aim, gLd d h4 z74 x4_goodsCount x4_workCount x4_years z75 x4_goods x4_works z76 x4_coin g4 z77]) (gs' := fun _ => [gCh d h0 (h1 0) a0_after (h3 0) x0_gained, gTr d h1 (h2 0) x1_left x1_earned x1_turnCost x1_turnWayless, gWy d h2 x2_edgeA x2_edgeB x2_edgeCost x2_edgeLine x2_change x2_away x2_steps x2_nodes x2_stepCount x2_open x2_openCount x2_seen x2_edgeCount x2_aim, gLd d h3 g102 g58 g59 g60 g103 g62 g63 g104 g65 x3_knownFree g105, gLd d h4 z74 x4_goodsCount x4_workCount x4_years z75 x4_goods x4_works z76 x4_coin g4 z77]) (st' := fun _ => []) (st := []) hK qd0_4.2.2.2.2.2.2.2.2.1 cv_RX0_48 iv_yX1_perform (As := [.int z69]) (kX1_perform _ d h3 z70 g58 g59 g60 z71 g62 g63 z72 g65 x3_knownFree z73 z69 e106) rfl rfl (Nat.le_of_ble_eq_true rfl) (by decide) 3 0 rfl rfl rfl [3] [0, 1, 2, 4] rfl (by decide +kernel) rfl rfl [0, 1, 2, 4, 3] (by decide +kernel) (fun _ => rfl) (fun _ => rfl) rfl rfl rfl (fun _ => rfl) (fun _ => ?_)
              refine J_iinc (L' := [(6, .int (z69 + 1)), (0, .ref (h0 0)), (1, .ref (h4 0)), (3, .int (p2 &&& (v1 ^^^ (-1)))), (5, .ref (h3 0))]) (v := (z69 + 1)) hK qd0_4.2.2.2.2.2.2.2.2.2.1 rfl 4 rfl rfl (by decide) rfl ?_
              refine J_goto hK qd0_4.2.2.2.2.2.2.2.2.2.2.1 (n := 47) rfl ?_
              exact J_loc [1, 2, 3, 4, 0] rfl (ih68 (z69 + 1) g102 g103 g104 g105 z74 z75 z76 z77 (lpc hs68 hr68))
      exact J_loc [4, 5, 3, 1, 0] rfl (lo68 n (0) g57 g61 g64 g66 x4_lineCount x4_lines x4_change g5 hl68)
  · have hf := iq hc19 hf
    refine J_iload hK qd0_2.2.2.2.2.2.2.2.2.2.2.2.2.2.2.1 rfl 0 rfl ?_
    obtain rfl := Option.some.inj hf
    exact J_iret hK hR qd0_2.2.2.2.2.2.2.2.2.2.2.2.2.2.2.2.1 () rfl (by decide) (by decide)

def fX0_totalOf_s15 (p2 : Int32) (x4_goodsCount : Int32) (x4_workCount : Int32) (x4_years : Int32) (x4_goods : (Nat → Int32)) (x4_works : (Nat → Int32)) (x4_coin : (Nat → Int32)) (g23 : Int32) (g24 : (Nat → Int32)) (g25 : (Nat → Int32)) (g26 : (Nat → Int32)) (g27 : Int32) (z30 : Int32) (z31 : Int32) : Option ((Int32 × Int32) ⊕ (Int32)) :=
  if x4_workCount ≤ z31 then (some (.inr z30)) else (if ((p2 >>> (z31 &&& 31)) &&& 1) = 0 then (some (.inl (z30, (z31 + 1)))) else ((fX1_isDone (g23, x4_goodsCount, x4_workCount, x4_years, g24, x4_goods, x4_works, g25, x4_coin, g26, g27) z31).bind (fun v34 => if v34 = 0 then ((fX1_ofWork (g23, x4_goodsCount, x4_workCount, x4_years, g24, x4_goods, x4_works, g25, x4_coin, g26, g27) z31 (3)).bind (fun v36 => some (.inl ((z30 + v36), (z31 + 1))))) else (some (.inl (z30, (z31 + 1)))))))
def fX0_totalOf (n : Nat) (X0 : ChT) (X1 : TrT) (X2 : WyT) (X3 : LdT) (X4 : LdT) (p2 : Int32) : Option (Int32 × ((Nat → Int32) × (Nat → Int32) × (Nat → Int32) × (Nat → Int32) × (Nat → Int32) × (Nat → Int32) × Int32 × Int32) × (Int32 × Int32 × Int32 × Int32 × (Nat → Int32) × (Nat → Int32) × (Nat → Int32) × (Nat → Int32) × (Nat → Int32) × Int32) × (Int32 × (Nat → Int32) × (Nat → Int32) × (Nat → Int32) × Int32)) :=
  (fun (x0_gained : (Nat → Int32)) => u4 (fun (x1_left : (Nat → Int32)) (x1_earned : (Nat → Int32)) (x1_turnCost : Int32) (x1_turnWayless : Int32) => u14 (fun (x2_edgeA : (Nat → Int32)) (x2_edgeB : (Nat → Int32)) (x2_edgeCost : (Nat → Int32)) (x2_edgeLine : (Nat → Int32)) (x2_change : (Nat → Int32)) (x2_away : (Nat → Int32)) (x2_steps : (Nat → Int32)) (x2_nodes : (Nat → Int32)) (x2_stepCount : Int32) (x2_open : (Nat → Int32)) (x2_openCount : Int32) (x2_seen : Int64) (x2_edgeCount : Int32) (x2_aim : Int32) => u11 (fun (x3_lineCount : Int32) (x3_goodsCount : Int32) (x3_workCount : Int32) (x3_years : Int32) (x3_lines : (Nat → Int32)) (x3_goods : (Nat → Int32)) (x3_works : (Nat → Int32)) (x3_change : (Nat → Int32)) (x3_coin : (Nat → Int32)) (x3_knownFree : (Nat → Int32)) (x3_isKnown : Int32) => u11 (fun (x4_lineCount : Int32) (x4_goodsCount : Int32) (x4_workCount : Int32) (x4_years : Int32) (x4_lines : (Nat → Int32)) (x4_goods : (Nat → Int32)) (x4_works : (Nat → Int32)) (x4_change : (Nat → Int32)) (x4_coin : (Nat → Int32)) (x4_knownFree : (Nat → Int32)) (x4_isKnown : Int32) => (fX0_freeWith n x0_gained (x1_left, x1_earned, x1_turnCost, x1_turnWayless) (x2_edgeA, x2_edgeB, x2_edgeCost, x2_edgeLine, x2_change, x2_away, x2_steps, x2_nodes, x2_stepCount, x2_open, x2_openCount, x2_seen, x2_edgeCount, x2_aim) (x3_lineCount, x3_goodsCount, x3_workCount, x3_years, x3_lines, x3_goods, x3_works, x3_change, x3_coin, x3_knownFree, x3_isKnown) (x4_lineCount, x4_goodsCount, x4_workCount, x4_years, x4_lines, x4_goods, x4_works, x4_change, x4_coin, x4_knownFree, x4_isKnown) p2).bind (u4 fun v1 G2 G11 G22 => u8 (fun g3 g4 g5 g6 g7 g8 g9 g10 => u10 (fun g12 g13 g14 g15 g16 g17 g18 g19 g20 g21 => u5 (fun g23 g24 g25 g26 g27 => (lp (u2 (fX0_totalOf_s15 p2 x4_goodsCount x4_workCount x4_years x4_goods x4_works x4_coin g23 g24 g25 g26 g27)) n ((x4_years * v1), 0)).bind (fun w33 => some (w33, (g3, g4, g5, g6, g7, g8, g9, g10), (g12, g13, g14, g15, g16, g17, g18, g19, g20, g21), (g23, g24, g25, g26, g27)))) G22) G11) G2)) X4) X3) X2) X1) X0
set_option maxHeartbeats 4000000 in
set_option maxRecDepth 100000 in
theorem kX0_totalOf (l : Launch) (d : DT) (h0 : Nat → Nat) (a0_after : Nat) (h1 : Nat → Nat) (h2 : Nat → Nat) (h3 : Nat → Nat) (h4 : Nat → Nat) (n : Nat) (x0_gained : (Nat → Int32)) (x1_left : (Nat → Int32)) (x1_earned : (Nat → Int32)) (x1_turnCost : Int32) (x1_turnWayless : Int32) (x2_edgeA : (Nat → Int32)) (x2_edgeB : (Nat → Int32)) (x2_edgeCost : (Nat → Int32)) (x2_edgeLine : (Nat → Int32)) (x2_change : (Nat → Int32)) (x2_away : (Nat → Int32)) (x2_steps : (Nat → Int32)) (x2_nodes : (Nat → Int32)) (x2_stepCount : Int32) (x2_open : (Nat → Int32)) (x2_openCount : Int32) (x2_seen : Int64) (x2_edgeCount : Int32) (x2_aim : Int32) (x3_lineCount : Int32) (x3_goodsCount : Int32) (x3_workCount : Int32) (x3_years : Int32) (x3_lines : (Nat → Int32)) (x3_goods : (Nat → Int32)) (x3_works : (Nat → Int32)) (x3_change : (Nat → Int32)) (x3_coin : (Nat → Int32)) (x3_knownFree : (Nat → Int32)) (x3_isKnown : Int32) (x4_lineCount : Int32) (x4_goodsCount : Int32) (x4_workCount : Int32) (x4_years : Int32) (x4_lines : (Nat → Int32)) (x4_goods : (Nat → Int32)) (x4_works : (Nat → Int32)) (x4_change : (Nat → Int32)) (x4_coin : (Nat → Int32)) (x4_knownFree : (Nat → Int32)) (x4_isKnown : Int32) (p2 : Int32)  {out : Int32 × ((Nat → Int32) × (Nat → Int32) × (Nat → Int32) × (Nat → Int32) × (Nat → Int32) × (Nat → Int32) × Int32 × Int32) × (Int32 × Int32 × Int32 × Int32 × (Nat → Int32) × (Nat → Int32) × (Nat → Int32) × (Nat → Int32) × (Nat → Int32) × Int32) × (Int32 × (Nat → Int32) × (Nat → Int32) × (Nat → Int32) × Int32)} (hf : fX0_totalOf n x0_gained (x1_left, x1_earned, x1_turnCost, x1_turnWayless) (x2_edgeA, x2_edgeB, x2_edgeCost, x2_edgeLine, x2_change, x2_away, x2_steps, x2_nodes, x2_stepCount, x2_open, x2_openCount, x2_seen, x2_edgeCount, x2_aim) (x3_lineCount, x3_goodsCount, x3_workCount, x3_years, x3_lines, x3_goods, x3_works, x3_change, x3_coin, x3_knownFree, x3_isKnown) (x4_lineCount, x4_goodsCount, x4_workCount, x4_years, x4_lines, x4_goods, x4_works, x4_change, x4_coin, x4_knownFree, x4_isKnown) p2 = some out) : Ct l d yX0_totalOf cX0_totalOf 5 (some .int) { frames := 4, cells := 0, slots := 0, locals := 103 } [.ref (h0 0), .ref (h4 0), .int p2] [gCh d h0 (h1 0) a0_after (h3 0) x0_gained, gTr d h1 (h2 0) x1_left x1_earned x1_turnCost x1_turnWayless, gWy d h2 x2_edgeA x2_edgeB x2_edgeCost x2_edgeLine x2_change x2_away x2_steps x2_nodes x2_stepCount x2_open x2_openCount x2_seen x2_edgeCount x2_aim, gLd d h3 x3_lineCount x3_goodsCount x3_workCount x3_years x3_lines x3_goods x3_works x3_change x3_coin x3_knownFree x3_isKnown, gLd d h4 x4_lineCount x4_goodsCount x4_workCount x4_years x4_lines x4_goods x4_works x4_change x4_coin x4_knownFree x4_isKnown] (fun _ : Unit => (some (.int out.1), [gCh d h0 (h1 0) a0_after (h3 0) x0_gained, gTr d h1 (h2 0) x1_left x1_earned x1_turnCost x1_turnWayless, gWy d h2 (out.2.1.1) (out.2.1.2.1) (out.2.1.2.2.1) (out.2.1.2.2.2.1) (out.2.1.2.2.2.2.1) (out.2.1.2.2.2.2.2.1) x2_steps x2_nodes x2_stepCount x2_open x2_openCount x2_seen (out.2.1.2.2.2.2.2.2.1) (out.2.1.2.2.2.2.2.2.2), gLd d h3 (out.2.2.1.1) (out.2.2.1.2.1) (out.2.2.1.2.2.1) (out.2.2.1.2.2.2.1) (out.2.2.1.2.2.2.2.1) (out.2.2.1.2.2.2.2.2.1) (out.2.2.1.2.2.2.2.2.2.1) (out.2.2.1.2.2.2.2.2.2.2.1) (out.2.2.1.2.2.2.2.2.2.2.2.1) x3_knownFree (out.2.2.1.2.2.2.2.2.2.2.2.2), gLd d h4 (out.2.2.2.1) x4_goodsCount x4_workCount x4_years (out.2.2.2.2.1) x4_goods x4_works (out.2.2.2.2.2.1) x4_coin (out.2.2.2.2.2.2.1) (out.2.2.2.2.2.2.2)])) := by
  refine Ct.of (by decide) (Nat.le_of_ble_eq_true rfl) ?_
  intro Φ hl hK hR
  subst hl
  have hK : Ok d Φ RX0 "totalOf" cX0_totalOf 5 (some .int) { frames := 4, cells := 0, slots := 0, locals := 103 } := hK
  unfold fX0_totalOf at hf
  have hf := un4 hf
  have hf := un14 hf
  have hf := un11 hf
  have hf := un11 hf
  show J d Φ 5 [gCh d h0 (h1 0) a0_after (h3 0) x0_gained, gTr d h1 (h2 0) x1_left x1_earned x1_turnCost x1_turnWayless, gWy d h2 x2_edgeA x2_edgeB x2_edgeCost x2_edgeLine x2_change x2_away x2_steps x2_nodes x2_stepCount x2_open x2_openCount x2_seen x2_edgeCount x2_aim, gLd d h3 x3_lineCount x3_goodsCount x3_workCount x3_years x3_lines x3_goods x3_works x3_change x3_coin x3_knownFree x3_isKnown, gLd d h4 x4_lineCount x4_goodsCount x4_workCount x4_years x4_lines x4_goods x4_works x4_change x4_coin x4_knownFree x4_isKnown] 0 0 0 [(0, .ref (h0 0)), (1, .ref (h4 0)), (2, .int p2)] []
  refine J_aload_n hK qd0_6.1 rfl 1 rfl rfl ?_
  refine J_get hK fo_RX0_63 qd0_6.2.1 rfl 4 0 rfl rfl rfl ?_
  refine J_aload_n hK qd0_6.2.2.1 rfl 0 rfl rfl ?_
  refine J_aload_n hK qd0_6.2.2.2.1 rfl 1 rfl rfl ?_
  refine J_iload_n hK qd0_6.2.2.2.2.1 rfl 2 rfl rfl ?_
  obtain ⟨⟨v1, ⟨g3, g4, g5, g6, g7, g8, g9, g10⟩, ⟨g12, g13, g14, g15, g16, g17, g18, g19, g20, g21⟩, ⟨g23, g24, g25, g26, g27⟩⟩, e28, hf⟩ := bs hf
  have hf := un4 hf
  have hf := un8 hf
  have hf := un10 hf
  have hf := un5 hf
  refine J_callV (m := 5) (m' := 5) (ce' := 0) (sl' := 0) (gr := []) (gs' := fun _ => [gCh d h0 (h1 0) a0_after (h3 0) x0_gained, gTr d h1 (h2 0) x1_left x1_earned x1_turnCost x1_turnWayless, gWy d h2 g3 g4 g5 g6 g7 g8 x2_steps x2_nodes x2_stepCount x2_open x2_openCount x2_seen g9 g10, gLd d h3 g12 g13 g14 g15 g16 g17 g18 g19 g20 x3_knownFree g21, gLd d h4 g23 x4_goodsCount x4_workCount x4_years g24 x4_goods x4_works g25 x4_coin g26 g27]) (st' := fun _ => [.int v1, .int x4_years]) (st := [.int x4_years]) hK qd0_6.2.2.2.2.2.1 cv_RX0_66 iv_yX0_freeWith (As := [.ref (h4 0), .int p2]) (kX0_freeWith _ d h0 a0_after h1 h2 h3 h4 n x0_gained x1_left x1_earned x1_turnCost x1_turnWayless x2_edgeA x2_edgeB x2_edgeCost x2_edgeLine x2_change x2_away x2_steps x2_nodes x2_stepCount x2_open x2_openCount x2_seen x2_edgeCount x2_aim x3_lineCount x3_goodsCount x3_workCount x3_years x3_lines x3_goods x3_works x3_change x3_coin x3_knownFree x3_isKnown x4_lineCount x4_goodsCount x4_workCount x4_years x4_lines x4_goods x4_works x4_change x4_coin x4_knownFree x4_isKnown p2 e28) rfl rfl (Nat.le_of_ble_eq_true rfl) (by decide) 0 0 rfl rfl rfl [0, 1, 2, 3, 4] [] rfl (by decide +kernel) rfl rfl [0, 1, 2, 3, 4] (by decide +kernel) (fun _ => rfl) (fun _ => rfl) rfl rfl rfl (fun _ => rfl) (fun _ => ?_)
  refine J_imul hK qd0_6.2.2.2.2.2.2.1 rfl ?_
  refine J_istore_n (L' := [(3, .int (x4_years * v1)), (0, .ref (h0 0)), (1, .ref (h4 0)), (2, .int p2)]) hK qd0_6.2.2.2.2.2.2.2.1 rfl rfl (by decide) rfl ?_
  refine J_iconst (v := 0) hK qd0_6.2.2.2.2.2.2.2.2.1 rfl (by decide) ?_
  refine J_istore (L' := [(4, .int (0)), (3, .int (x4_years * v1)), (0, .ref (h0 0)), (1, .ref (h4 0)), (2, .int p2)]) hK qd0_6.2.2.2.2.2.2.2.2.2.1 rfl (by decide) rfl ?_
  obtain ⟨e32, hl29, hf⟩ := bs hf
  have hx29_58 : ∀ (w33 : Int32), w33 = e32 → J d Φ 5 [gCh d h0 (h1 0) a0_after (h3 0) x0_gained, gTr d h1 (h2 0) x1_left x1_earned x1_turnCost x1_turnWayless, gWy d h2 g3 g4 g5 g6 g7 g8 x2_steps x2_nodes x2_stepCount x2_open x2_openCount x2_seen g9 g10, gLd d h3 g12 g13 g14 g15 g16 g17 g18 g19 g20 x3_knownFree g21, gLd d h4 g23 x4_goodsCount x4_workCount x4_years g24 x4_goods x4_works g25 x4_coin g26 g27] 0 0 58 [(3, .int w33)] [] := by
    intro w33 he
    rw [← he] at hf
    refine J_iload_n hK qd0_8.2.1 rfl 0 rfl rfl ?_
    obtain rfl := Option.some.inj hf
    exact J_iret hK hR qd0_8.2.2.1 () rfl (by decide) (by decide)
  have lo29 : ∀ (k : Nat) (z30 : Int32) (z31 : Int32), lp (u2 (fX0_totalOf_s15 p2 x4_goodsCount x4_workCount x4_years x4_goods x4_works x4_coin g23 g24 g25 g26 g27)) k (z30, z31) = some e32 → J d Φ 5 [gCh d h0 (h1 0) a0_after (h3 0) x0_gained, gTr d h1 (h2 0) x1_left x1_earned x1_turnCost x1_turnWayless, gWy d h2 g3 g4 g5 g6 g7 g8 x2_steps x2_nodes x2_stepCount x2_open x2_openCount x2_seen g9 g10, gLd d h3 g12 g13 g14 g15 g16 g17 g18 g19 g20 x3_knownFree g21, gLd d h4 g23 x4_goodsCount x4_workCount x4_years g24 x4_goods x4_works g25 x4_coin g26 g27] 0 0 15 [(1, .ref (h4 0)), (2, .int p2), (3, .int z30), (4, .int z31)] [] := by
    intro k
    induction k with
    | zero => intro z30 z31 h; cases h
    | succ k ih29 =>
      intro z30 z31 h
      obtain ⟨k2, rr29, hk2, hs29, hr29⟩ := lp_ok h
      cases hk2
      have hs29 : fX0_totalOf_s15 p2 x4_goodsCount x4_workCount x4_years x4_goods x4_works x4_coin g23 g24 g25 g26 g27 z30 z31 = some rr29 := hs29
      unfold fX0_totalOf_s15 at hs29
      refine J_iload hK qd0_6.2.2.2.2.2.2.2.2.2.2.1 rfl 3 rfl ?_
      refine J_aload_n hK qd0_6.2.2.2.2.2.2.2.2.2.2.2.1 rfl 0 rfl rfl ?_
      refine J_get hK fo_RX0_44 qd0_6.2.2.2.2.2.2.2.2.2.2.2.2.1 rfl 4 0 rfl rfl rfl ?_
      refine J_icmp_ge (tg := 58) hK qd0_6.2.2.2.2.2.2.2.2.2.2.2.2.2.1 rfl rfl (fun hc21 => ?_) (fun hc21 => ?_)
      · have hs29 := ip hc21 hs29
        exact J_loc [2] rfl (hx29_58 z30 (lpx hs29 hr29))
      · have hs29 := iq hc21 hs29
        refine J_iload_n hK qd0_6.2.2.2.2.2.2.2.2.2.2.2.2.2.2.1 rfl 1 rfl rfl ?_
        refine J_iload hK qd0_6.2.2.2.2.2.2.2.2.2.2.2.2.2.2.2.1 rfl 3 rfl ?_
        refine J_ishr hK qd0_7.1 rfl ?_
        refine J_iconst (v := 1) hK qd0_7.2.1 rfl (by decide) ?_
        refine J_iand hK qd0_7.2.2.1 rfl ?_
        refine J_if_eq (tg := 52) hK qd0_7.2.2.2.1 rfl rfl (fun hc30 => ?_) (fun hc30 => ?_)
        · have hs29 := ip hc30 hs29
          refine J_iinc (L' := [(4, .int (z31 + 1)), (1, .ref (h4 0)), (2, .int p2), (3, .int z30)]) (v := (z31 + 1)) hK qd0_7.2.2.2.2.2.2.2.2.2.2.2.2.2.2.2.1 rfl 3 rfl rfl (by decide) rfl ?_
          refine J_goto hK qd0_8.1 (n := 15) rfl ?_
          exact J_loc [1, 2, 3, 0] rfl (ih29 z30 (z31 + 1) (lpc hs29 hr29))
        · have hs29 := iq hc30 hs29
          refine J_aload_n hK qd0_7.2.2.2.2.1 rfl 0 rfl rfl ?_
          refine J_iload hK qd0_7.2.2.2.2.2.1 rfl 3 rfl ?_
          obtain ⟨v34, e35, hs29⟩ := bs hs29
          refine J_callV (m := 5) (m' := 5) (ce' := 0) (sl' := 0) (gr := [gCh d h0 (h1 0) a0_after (h3 0) x0_gained, gTr d h1 (h2 0) x1_left x1_earned x1_turnCost x1_turnWayless, gWy d h2 g3 g4 g5 g6 g7 g8 x2_steps x2_nodes x2_stepCount x2_open x2_openCount x2_seen g9 g10, gLd d h3 g12 g13 g14 g15 g16 g17 g18 g19 g20 x3_knownFree g21]) (gs' := fun _ => [gCh d h0 (h1 0) a0_after (h3 0) x0_gained, gTr d h1 (h2 0) x1_left x1_earned x1_turnCost x1_turnWayless, gWy d h2 g3 g4 g5 g6 g7 g8 x2_steps x2_nodes x2_stepCount x2_open x2_openCount x2_seen g9 g10, gLd d h3 g12 g13 g14 g15 g16 g17 g18 g19 g20 x3_knownFree g21, gLd d h4 g23 x4_goodsCount x4_workCount x4_years g24 x4_goods x4_works g25 x4_coin g26 g27]) (st' := fun _ => [.int v34]) (st := []) hK qd0_7.2.2.2.2.2.2.1 cv_RX0_69 iv_yX1_isDone (As := [.int z31]) (kX1_isDone _ d h4 g23 x4_goodsCount x4_workCount x4_years g24 x4_goods x4_works g25 x4_coin g26 g27 z31 e35) rfl rfl (Nat.le_of_ble_eq_true rfl) (by decide) 4 0 rfl rfl rfl [4] [0, 1, 2, 3] rfl (by decide +kernel) rfl rfl [0, 1, 2, 3, 4] (by decide +kernel) (fun _ => rfl) (fun _ => rfl) rfl rfl rfl (fun _ => rfl) (fun _ => ?_)
          refine J_if_ne (tg := 52) hK qd0_7.2.2.2.2.2.2.2.1 rfl rfl (fun hc39 => ?_) (fun hc39 => ?_)
          · have hs29 := iq hc39 hs29
            refine J_iinc (L' := [(4, .int (z31 + 1)), (1, .ref (h4 0)), (2, .int p2), (3, .int z30)]) (v := (z31 + 1)) hK qd0_7.2.2.2.2.2.2.2.2.2.2.2.2.2.2.2.1 rfl 3 rfl rfl (by decide) rfl ?_
            refine J_goto hK qd0_8.1 (n := 15) rfl ?_
            exact J_loc [1, 2, 3, 0] rfl (ih29 z30 (z31 + 1) (lpc hs29 hr29))
          · have hs29 := ip hc39 hs29
            refine J_iload_n hK qd0_7.2.2.2.2.2.2.2.2.1 rfl 2 rfl rfl ?_
            refine J_aload_n hK qd0_7.2.2.2.2.2.2.2.2.2.1 rfl 0 rfl rfl ?_
            refine J_iload hK qd0_7.2.2.2.2.2.2.2.2.2.2.1 rfl 3 rfl ?_
            refine J_iconst (v := 3) hK qd0_7.2.2.2.2.2.2.2.2.2.2.2.1 rfl (by decide) ?_
            obtain ⟨v36, e37, hs29⟩ := bs hs29
            refine J_callV (m := 5) (m' := 5) (ce' := 0) (sl' := 0) (gr := [gCh d h0 (h1 0) a0_after (h3 0) x0_gained, gTr d h1 (h2 0) x1_left x1_earned x1_turnCost x1_turnWayless, gWy d h2 g3 g4 g5 g6 g7 g8 x2_steps x2_nodes x2_stepCount x2_open x2_openCount x2_seen g9 g10, gLd d h3 g12 g13 g14 g15 g16 g17 g18 g19 g20 x3_knownFree g21]) (gs' := fun _ => [gCh d h0 (h1 0) a0_after (h3 0) x0_gained, gTr d h1 (h2 0) x1_left x1_earned x1_turnCost x1_turnWayless, gWy d h2 g3 g4 g5 g6 g7 g8 x2_steps x2_nodes x2_stepCount x2_open x2_openCount x2_seen g9 g10, gLd d h3 g12 g13 g14 g15 g16 g17 g18 g19 g20 x3_knownFree g21, gLd d h4 g23 x4_goodsCount x4_workCount x4_years g24 x4_goods x4_works g25 x4_coin g26 g27]) (st' := fun _ => [.int v36, .int z30]) (st := [.int z30]) hK qd0_7.2.2.2.2.2.2.2.2.2.2.2.2.1 cv_RX0_73 iv_yX1_ofWork (As := [.int z31, .int (3)]) (kX1_ofWork _ d h4 g23 x4_goodsCount x4_workCount x4_years g24 x4_goods x4_works g25 x4_coin g26 g27 z31 (3) e37) rfl rfl (Nat.le_of_ble_eq_true rfl) (by decide) 4 0 rfl rfl rfl [4] [0, 1, 2, 3] rfl (by decide +kernel) rfl rfl [0, 1, 2, 3, 4] (by decide +kernel) (fun _ => rfl) (fun _ => rfl) rfl rfl rfl (fun _ => rfl) (fun _ => ?_)
            refine J_iadd hK qd0_7.2.2.2.2.2.2.2.2.2.2.2.2.2.1 rfl ?_
            refine J_istore_n (L' := [(3, .int (z30 + v36)), (1, .ref (h4 0)), (2, .int p2), (4, .int z31)]) hK qd0_7.2.2.2.2.2.2.2.2.2.2.2.2.2.2.1 rfl rfl (by decide) rfl ?_
            refine J_iinc (L' := [(4, .int (z31 + 1)), (3, .int (z30 + v36)), (1, .ref (h4 0)), (2, .int p2)]) (v := (z31 + 1)) hK qd0_7.2.2.2.2.2.2.2.2.2.2.2.2.2.2.2.1 rfl 3 rfl rfl (by decide) rfl ?_
            refine J_goto hK qd0_8.1 (n := 15) rfl ?_
            exact J_loc [2, 3, 1, 0] rfl (ih29 (z30 + v36) (z31 + 1) (lpc hs29 hr29))
  exact J_loc [3, 4, 1, 0] rfl (lo29 n (x4_years * v1) (0) hl29)
end
section
def fX0_bestOf_s18 (n : Nat) (x0_gained : (Nat → Int32)) (x1_left : (Nat → Int32)) (x1_earned : (Nat → Int32)) (x1_turnCost : Int32) (x1_turnWayless : Int32) (x2_steps : (Nat → Int32)) (x2_nodes : (Nat → Int32)) (x2_stepCount : Int32) (x2_open : (Nat → Int32)) (x2_openCount : Int32) (x2_seen : Int64) (x3_knownFree : (Nat → Int32)) (x4_goodsCount : Int32) (x4_workCount : Int32) (x4_years : Int32) (x4_goods : (Nat → Int32)) (x4_works : (Nat → Int32)) (x4_coin : (Nat → Int32)) (v29 : Int32) (z32 : Int32) (z33 : Int32) (z34 : Int32) (z35 : (Nat → Int32)) (z36 : (Nat → Int32)) (z37 : (Nat → Int32)) (z38 : (Nat → Int32)) (z39 : (Nat → Int32)) (z40 : (Nat → Int32)) (z41 : Int32) (z42 : Int32) (z43 : Int32) (z44 : Int32) (z45 : Int32) (z46 : Int32) (z47 : (Nat → Int32)) (z48 : (Nat → Int32)) (z49 : (Nat → Int32)) (z50 : (Nat → Int32)) (z51 : (Nat → Int32)) (z52 : Int32) (z53 : Int32) (z54 : (Nat → Int32)) (z55 : (Nat → Int32)) (z56 : (Nat → Int32)) (z57 : Int32) : Option ((Int32 × Int32 × Int32 × (Nat → Int32) × (Nat → Int32) × (Nat → Int32) × (Nat → Int32) × (Nat → Int32) × (Nat → Int32) × Int32 × Int32 × Int32 × Int32 × Int32 × Int32 × (Nat → Int32) × (Nat → Int32) × (Nat → Int32) × (Nat → Int32) × (Nat → Int32) × Int32 × Int32 × (Nat → Int32) × (Nat → Int32) × (Nat → Int32) × Int32) ⊕ (Int32 × (Nat → Int32) × (Nat → Int32) × (Nat → Int32) × (Nat → Int32) × (Nat → Int32) × (Nat → Int32) × Int32 × Int32 × Int32 × Int32 × Int32 × Int32 × (Nat → Int32) × (Nat → Int32) × (Nat → Int32) × (Nat → Int32) × (Nat → Int32) × Int32 × Int32 × (Nat → Int32) × (Nat → Int32) × (Nat → Int32) × Int32)) :=
  if ((1 : Int32) <<< (x4_workCount &&& 31)) ≤ z34 then (some (.inr (z32, z35, z36, z37, z38, z39, z40, z41, z42, z43, z44, z45, z46, z47, z48, z49, z50, z51, z52, z53, z54, z55, z56, z57))) else (if (z34 &&& v29) = 0 then ((fX0_totalOf n x0_gained (x1_left, x1_earned, x1_turnCost, x1_turnWayless) (z35, z36, z37, z38, z39, z40, x2_steps, x2_nodes, x2_stepCount, x2_open, x2_openCount, x2_seen, z41, z42) (z43, z44, z45, z46, z47, z48, z49, z50, z51, x3_knownFree, z52) (z53, x4_goodsCount, x4_workCount, x4_years, z54, x4_goods, x4_works, z55, x4_coin, z56, z57) z34).bind (u4 fun v83 G84 G93 G104 => u8 (fun g85 g86 g87 g88 g89 g90 g91 g92 => u10 (fun g94 g95 g96 g97 g98 g99 g100 g101 g102 g103 => u5 (fun g105 g106 g107 g108 g109 => if z33 ≤ v83 then (some (.inl (z32, z33, (z34 + 1), g85, g86, g87, g88, g89, g90, g91, g92, g94, g95, g96, g97, g98, g99, g100, g101, g102, g103, g105, g106, g107, g108, g109))) else (some (.inl (z34, v83, (z34 + 1), g85, g86, g87, g88, g89, g90, g91, g92, g94, g95, g96, g97, g98, g99, g100, g101, g102, g103, g105, g106, g107, g108, g109)))) G104) G93) G84)) else (some (.inl (z32, z33, (z34 + 1), z35, z36, z37, z38, z39, z40, z41, z42, z43, z44, z45, z46, z47, z48, z49, z50, z51, z52, z53, z54, z55, z56, z57))))
def fX0_bestOf (n : Nat) (X0 : ChT) (X1 : TrT) (X2 : WyT) (X3 : LdT) (X4 : LdT) : Option (Int32 × ((Nat → Int32) × (Nat → Int32) × (Nat → Int32) × (Nat → Int32) × (Nat → Int32) × (Nat → Int32) × Int32 × Int32) × (Int32 × Int32 × Int32 × Int32 × (Nat → Int32) × (Nat → Int32) × (Nat → Int32) × (Nat → Int32) × (Nat → Int32) × Int32) × (Int32 × (Nat → Int32) × (Nat → Int32) × (Nat → Int32) × Int32)) :=
  (fun (x0_gained : (Nat → Int32)) => u4 (fun (x1_left : (Nat → Int32)) (x1_earned : (Nat → Int32)) (x1_turnCost : Int32) (x1_turnWayless : Int32) => u14 (fun (x2_edgeA : (Nat → Int32)) (x2_edgeB : (Nat → Int32)) (x2_edgeCost : (Nat → Int32)) (x2_edgeLine : (Nat → Int32)) (x2_change : (Nat → Int32)) (x2_away : (Nat → Int32)) (x2_steps : (Nat → Int32)) (x2_nodes : (Nat → Int32)) (x2_stepCount : Int32) (x2_open : (Nat → Int32)) (x2_openCount : Int32) (x2_seen : Int64) (x2_edgeCount : Int32) (x2_aim : Int32) => u11 (fun (x3_lineCount : Int32) (x3_goodsCount : Int32) (x3_workCount : Int32) (x3_years : Int32) (x3_lines : (Nat → Int32)) (x3_goods : (Nat → Int32)) (x3_works : (Nat → Int32)) (x3_change : (Nat → Int32)) (x3_coin : (Nat → Int32)) (x3_knownFree : (Nat → Int32)) (x3_isKnown : Int32) => u11 (fun (x4_lineCount : Int32) (x4_goodsCount : Int32) (x4_workCount : Int32) (x4_years : Int32) (x4_lines : (Nat → Int32)) (x4_goods : (Nat → Int32)) (x4_works : (Nat → Int32)) (x4_change : (Nat → Int32)) (x4_coin : (Nat → Int32)) (x4_knownFree : (Nat → Int32)) (x4_isKnown : Int32) => (fX0_totalOf n x0_gained (x1_left, x1_earned, x1_turnCost, x1_turnWayless) (x2_edgeA, x2_edgeB, x2_edgeCost, x2_edgeLine, x2_change, x2_away, x2_steps, x2_nodes, x2_stepCount, x2_open, x2_openCount, x2_seen, x2_edgeCount, x2_aim) (x3_lineCount, x3_goodsCount, x3_workCount, x3_years, x3_lines, x3_goods, x3_works, x3_change, x3_coin, x3_knownFree, x3_isKnown) (x4_lineCount, x4_goodsCount, x4_workCount, x4_years, x4_lines, x4_goods, x4_works, x4_change, x4_coin, x4_knownFree, x4_isKnown) (0)).bind (u4 fun v1 G2 G11 G22 => u8 (fun g3 g4 g5 g6 g7 g8 g9 g10 => u10 (fun g12 g13 g14 g15 g16 g17 g18 g19 g20 g21 => u5 (fun g23 g24 g25 g26 g27 => (fX1_doneWorks n (g23, x4_goodsCount, x4_workCount, x4_years, g24, x4_goods, x4_works, g25, x4_coin, g26, g27)).bind (fun v29 => (lp (u26 (fX0_bestOf_s18 n x0_gained x1_left x1_earned x1_turnCost x1_turnWayless x2_steps x2_nodes x2_stepCount x2_open x2_openCount x2_seen x3_knownFree x4_goodsCount x4_workCount x4_years x4_goods x4_works x4_coin v29)) n (0, v1, 1, g3, g4, g5, g6, g7, g8, g9, g10, g12, g13, g14, g15, g16, g17, g18, g19, g20, g21, g23, g24, g25, g26, g27)).bind (u24 fun w59 w60 w61 w62 w63 w64 w65 w66 w67 w68 w69 w70 w71 w72 w73 w74 w75 w76 w77 w78 w79 w80 w81 w82 => some (w59, (w60, w61, w62, w63, w64, w65, w66, w67), (w68, w69, w70, w71, w72, w73, w74, w75, w76, w77), (w78, w79, w80, w81, w82))))) G22) G11) G2)) X4) X3) X2) X1) X0
set_option maxHeartbeats 4000000 in
set_option maxRecDepth 100000 in
theorem kX0_bestOf (l : Launch) (d : DT) (h0 : Nat → Nat) (a0_after : Nat) (h1 : Nat → Nat) (h2 : Nat → Nat) (h3 : Nat → Nat) (h4 : Nat → Nat) (n : Nat) (x0_gained : (Nat → Int32)) (x1_left : (Nat → Int32)) (x1_earned : (Nat → Int32)) (x1_turnCost : Int32) (x1_turnWayless : Int32) (x2_edgeA : (Nat → Int32)) (x2_edgeB : (Nat → Int32)) (x2_edgeCost : (Nat → Int32)) (x2_edgeLine : (Nat → Int32)) (x2_change : (Nat → Int32)) (x2_away : (Nat → Int32)) (x2_steps : (Nat → Int32)) (x2_nodes : (Nat → Int32)) (x2_stepCount : Int32) (x2_open : (Nat → Int32)) (x2_openCount : Int32) (x2_seen : Int64) (x2_edgeCount : Int32) (x2_aim : Int32) (x3_lineCount : Int32) (x3_goodsCount : Int32) (x3_workCount : Int32) (x3_years : Int32) (x3_lines : (Nat → Int32)) (x3_goods : (Nat → Int32)) (x3_works : (Nat → Int32)) (x3_change : (Nat → Int32)) (x3_coin : (Nat → Int32)) (x3_knownFree : (Nat → Int32)) (x3_isKnown : Int32) (x4_lineCount : Int32) (x4_goodsCount : Int32) (x4_workCount : Int32) (x4_years : Int32) (x4_lines : (Nat → Int32)) (x4_goods : (Nat → Int32)) (x4_works : (Nat → Int32)) (x4_change : (Nat → Int32)) (x4_coin : (Nat → Int32)) (x4_knownFree : (Nat → Int32)) (x4_isKnown : Int32)  {out : Int32 × ((Nat → Int32) × (Nat → Int32) × (Nat → Int32) × (Nat → Int32) × (Nat → Int32) × (Nat → Int32) × Int32 × Int32) × (Int32 × Int32 × Int32 × Int32 × (Nat → Int32) × (Nat → Int32) × (Nat → Int32) × (Nat → Int32) × (Nat → Int32) × Int32) × (Int32 × (Nat → Int32) × (Nat → Int32) × (Nat → Int32) × Int32)} (hf : fX0_bestOf n x0_gained (x1_left, x1_earned, x1_turnCost, x1_turnWayless) (x2_edgeA, x2_edgeB, x2_edgeCost, x2_edgeLine, x2_change, x2_away, x2_steps, x2_nodes, x2_stepCount, x2_open, x2_openCount, x2_seen, x2_edgeCount, x2_aim) (x3_lineCount, x3_goodsCount, x3_workCount, x3_years, x3_lines, x3_goods, x3_works, x3_change, x3_coin, x3_knownFree, x3_isKnown) (x4_lineCount, x4_goodsCount, x4_workCount, x4_years, x4_lines, x4_goods, x4_works, x4_change, x4_coin, x4_knownFree, x4_isKnown) = some out) : Ct l d yX0_bestOf cX0_bestOf 7 (some .int) { frames := 5, cells := 0, slots := 0, locals := 127 } [.ref (h0 0), .ref (h4 0)] [gCh d h0 (h1 0) a0_after (h3 0) x0_gained, gTr d h1 (h2 0) x1_left x1_earned x1_turnCost x1_turnWayless, gWy d h2 x2_edgeA x2_edgeB x2_edgeCost x2_edgeLine x2_change x2_away x2_steps x2_nodes x2_stepCount x2_open x2_openCount x2_seen x2_edgeCount x2_aim, gLd d h3 x3_lineCount x3_goodsCount x3_workCount x3_years x3_lines x3_goods x3_works x3_change x3_coin x3_knownFree x3_isKnown, gLd d h4 x4_lineCount x4_goodsCount x4_workCount x4_years x4_lines x4_goods x4_works x4_change x4_coin x4_knownFree x4_isKnown] (fun _ : Unit => (some (.int out.1), [gCh d h0 (h1 0) a0_after (h3 0) x0_gained, gTr d h1 (h2 0) x1_left x1_earned x1_turnCost x1_turnWayless, gWy d h2 (out.2.1.1) (out.2.1.2.1) (out.2.1.2.2.1) (out.2.1.2.2.2.1) (out.2.1.2.2.2.2.1) (out.2.1.2.2.2.2.2.1) x2_steps x2_nodes x2_stepCount x2_open x2_openCount x2_seen (out.2.1.2.2.2.2.2.2.1) (out.2.1.2.2.2.2.2.2.2), gLd d h3 (out.2.2.1.1) (out.2.2.1.2.1) (out.2.2.1.2.2.1) (out.2.2.1.2.2.2.1) (out.2.2.1.2.2.2.2.1) (out.2.2.1.2.2.2.2.2.1) (out.2.2.1.2.2.2.2.2.2.1) (out.2.2.1.2.2.2.2.2.2.2.1) (out.2.2.1.2.2.2.2.2.2.2.2.1) x3_knownFree (out.2.2.1.2.2.2.2.2.2.2.2.2), gLd d h4 (out.2.2.2.1) x4_goodsCount x4_workCount x4_years (out.2.2.2.2.1) x4_goods x4_works (out.2.2.2.2.2.1) x4_coin (out.2.2.2.2.2.2.1) (out.2.2.2.2.2.2.2)])) := by
  refine Ct.of (by decide) (Nat.le_of_ble_eq_true rfl) ?_
  intro Φ hl hK hR
  subst hl
  have hK : Ok d Φ RX0 "bestOf" cX0_bestOf 7 (some .int) { frames := 5, cells := 0, slots := 0, locals := 127 } := hK
  unfold fX0_bestOf at hf
  have hf := un4 hf
  have hf := un14 hf
  have hf := un11 hf
  have hf := un11 hf
  show J d Φ 7 [gCh d h0 (h1 0) a0_after (h3 0) x0_gained, gTr d h1 (h2 0) x1_left x1_earned x1_turnCost x1_turnWayless, gWy d h2 x2_edgeA x2_edgeB x2_edgeCost x2_edgeLine x2_change x2_away x2_steps x2_nodes x2_stepCount x2_open x2_openCount x2_seen x2_edgeCount x2_aim, gLd d h3 x3_lineCount x3_goodsCount x3_workCount x3_years x3_lines x3_goods x3_works x3_change x3_coin x3_knownFree x3_isKnown, gLd d h4 x4_lineCount x4_goodsCount x4_workCount x4_years x4_lines x4_goods x4_works x4_change x4_coin x4_knownFree x4_isKnown] 0 0 0 [(0, .ref (h0 0)), (1, .ref (h4 0))] []
  refine J_iconst (v := 0) hK qd0_9.1 rfl (by decide) ?_
  refine J_istore_n (L' := [(2, .int (0)), (0, .ref (h0 0)), (1, .ref (h4 0))]) hK qd0_9.2.1 rfl rfl (by decide) rfl ?_
  refine J_aload_n hK qd0_9.2.2.1 rfl 1 rfl rfl ?_
  refine J_aload_n hK qd0_9.2.2.2.1 rfl 2 rfl rfl ?_
  refine J_iconst (v := 0) hK qd0_9.2.2.2.2.1 rfl (by decide) ?_
  obtain ⟨⟨v1, ⟨g3, g4, g5, g6, g7, g8, g9, g10⟩, ⟨g12, g13, g14, g15, g16, g17, g18, g19, g20, g21⟩, ⟨g23, g24, g25, g26, g27⟩⟩, e28, hf⟩ := bs hf
  have hf := un4 hf
  have hf := un8 hf
  have hf := un10 hf
  have hf := un5 hf
  refine J_callV (m := 5) (m' := 5) (ce' := 0) (sl' := 0) (gr := []) (gs' := fun _ => [gCh d h0 (h1 0) a0_after (h3 0) x0_gained, gTr d h1 (h2 0) x1_left x1_earned x1_turnCost x1_turnWayless, gWy d h2 g3 g4 g5 g6 g7 g8 x2_steps x2_nodes x2_stepCount x2_open x2_openCount x2_seen g9 g10, gLd d h3 g12 g13 g14 g15 g16 g17 g18 g19 g20 x3_knownFree g21, gLd d h4 g23 x4_goodsCount x4_workCount x4_years g24 x4_goods x4_works g25 x4_coin g26 g27]) (st' := fun _ => [.int v1]) (st := []) hK qd0_9.2.2.2.2.2.1 cv_RX0_77 iv_yX0_totalOf (As := [.ref (h4 0), .int (0)]) (kX0_totalOf _ d h0 a0_after h1 h2 h3 h4 n x0_gained x1_left x1_earned x1_turnCost x1_turnWayless x2_edgeA x2_edgeB x2_edgeCost x2_edgeLine x2_change x2_away x2_steps x2_nodes x2_stepCount x2_open x2_openCount x2_seen x2_edgeCount x2_aim x3_lineCount x3_goodsCount x3_workCount x3_years x3_lines x3_goods x3_works x3_change x3_coin x3_knownFree x3_isKnown x4_lineCount x4_goodsCount x4_workCount x4_years x4_lines x4_goods x4_works x4_change x4_coin x4_knownFree x4_isKnown (0) e28) rfl rfl (Nat.le_of_ble_eq_true rfl) (by decide) 0 0 rfl rfl rfl [0, 1, 2, 3, 4] [] rfl (by decide +kernel) rfl rfl [0, 1, 2, 3, 4] (by decide +kernel) (fun _ => rfl) (fun _ => rfl) rfl rfl rfl (fun _ => rfl) (fun _ => ?_)
  refine J_istore_n (L' := [(3, .int v1), (2, .int (0)), (0, .ref (h0 0)), (1, .ref (h4 0))]) hK qd0_9.2.2.2.2.2.2.1 rfl rfl (by decide) rfl ?_
  refine J_aload_n hK qd0_9.2.2.2.2.2.2.2.1 rfl 3 rfl rfl ?_
  obtain ⟨v29, e30, hf⟩ := bs hf
  refine J_callV (m := 5) (m' := 5) (ce' := 0) (sl' := 0) (gr := [gCh d h0 (h1 0) a0_after (h3 0) x0_gained, gTr d h1 (h2 0) x1_left x1_earned x1_turnCost x1_turnWayless, gWy d h2 g3 g4 g5 g6 g7 g8 x2_steps x2_nodes x2_stepCount x2_open x2_openCount x2_seen g9 g10, gLd d h3 g12 g13 g14 g15 g16 g17 g18 g19 g20 x3_knownFree g21]) (gs' := fun _ => [gCh d h0 (h1 0) a0_after (h3 0) x0_gained, gTr d h1 (h2 0) x1_left x1_earned x1_turnCost x1_turnWayless, gWy d h2 g3 g4 g5 g6 g7 g8 x2_steps x2_nodes x2_stepCount x2_open x2_openCount x2_seen g9 g10, gLd d h3 g12 g13 g14 g15 g16 g17 g18 g19 g20 x3_knownFree g21, gLd d h4 g23 x4_goodsCount x4_workCount x4_years g24 x4_goods x4_works g25 x4_coin g26 g27]) (st' := fun _ => [.int v29]) (st := []) hK qd0_9.2.2.2.2.2.2.2.2.1 cv_RX0_32 iv_yX1_doneWorks (As := []) (kX1_doneWorks _ d h4 n g23 x4_goodsCount x4_workCount x4_years g24 x4_goods x4_works g25 x4_coin g26 g27 e30) rfl rfl (Nat.le_of_ble_eq_true rfl) (by decide) 4 0 rfl rfl rfl [4] [0, 1, 2, 3] rfl (by decide +kernel) rfl rfl [0, 1, 2, 3, 4] (by decide +kernel) (fun _ => rfl) (fun _ => rfl) rfl rfl rfl (fun _ => rfl) (fun _ => ?_)
  refine J_istore (L' := [(4, .int v29), (3, .int v1), (2, .int (0)), (0, .ref (h0 0)), (1, .ref (h4 0))]) hK qd0_9.2.2.2.2.2.2.2.2.2.1 rfl (by decide) rfl ?_
  refine J_iconst (v := 1) hK qd0_9.2.2.2.2.2.2.2.2.2.2.1 rfl (by decide) ?_
  refine J_istore (L' := [(5, .int (1)), (4, .int v29), (3, .int v1), (2, .int (0)), (0, .ref (h0 0)), (1, .ref (h4 0))]) hK qd0_9.2.2.2.2.2.2.2.2.2.2.2.1 rfl (by decide) rfl ?_
  obtain ⟨e58, hl31, hf⟩ := bs hf
  have hx31_64 : ∀ (w59 : Int32) (w60 : (Nat → Int32)) (w61 : (Nat → Int32)) (w62 : (Nat → Int32)) (w63 : (Nat → Int32)) (w64 : (Nat → Int32)) (w65 : (Nat → Int32)) (w66 : Int32) (w67 : Int32) (w68 : Int32) (w69 : Int32) (w70 : Int32) (w71 : Int32) (w72 : (Nat → Int32)) (w73 : (Nat → Int32)) (w74 : (Nat → Int32)) (w75 : (Nat → Int32)) (w76 : (Nat → Int32)) (w77 : Int32) (w78 : Int32) (w79 : (Nat → Int32)) (w80 : (Nat → Int32)) (w81 : (Nat → Int32)) (w82 : Int32), (w59, w60, w61, w62, w63, w64, w65, w66, w67, w68, w69, w70, w71, w72, w73, w74, w75, w76, w77, w78, w79, w80, w81, w82) = e58 → J d Φ 7 [gCh d h0 (h1 0) a0_after (h3 0) x0_gained, gTr d h1 (h2 0) x1_left x1_earned x1_turnCost x1_turnWayless, gWy d h2 w60 w61 w62 w63 w64 w65 x2_steps x2_nodes x2_stepCount x2_open x2_openCount x2_seen w66 w67, gLd d h3 w68 w69 w70 w71 w72 w73 w74 w75 w76 x3_knownFree w77, gLd d h4 w78 x4_goodsCount x4_workCount x4_years w79 x4_goods x4_works w80 x4_coin w81 w82] 0 0 64 [(2, .int w59)] [] := by
    intro w59 w60 w61 w62 w63 w64 w65 w66 w67 w68 w69 w70 w71 w72 w73 w74 w75 w76 w77 w78 w79 w80 w81 w82 he
    rw [← he] at hf
    have hf := un24 hf
    refine J_iload_n hK qd0_11.2.2.2.2.1 rfl 0 rfl rfl ?_
    obtain rfl := Option.some.inj hf
    exact J_iret hK hR qd0_11.2.2.2.2.2.1 () rfl (by decide) (by decide)
  have lo31 : ∀ (k : Nat) (z32 : Int32) (z33 : Int32) (z34 : Int32) (z35 : (Nat → Int32)) (z36 : (Nat → Int32)) (z37 : (Nat → Int32)) (z38 : (Nat → Int32)) (z39 : (Nat → Int32)) (z40 : (Nat → Int32)) (z41 : Int32) (z42 : Int32) (z43 : Int32) (z44 : Int32) (z45 : Int32) (z46 : Int32) (z47 : (Nat → Int32)) (z48 : (Nat → Int32)) (z49 : (Nat → Int32)) (z50 : (Nat → Int32)) (z51 : (Nat → Int32)) (z52 : Int32) (z53 : Int32) (z54 : (Nat → Int32)) (z55 : (Nat → Int32)) (z56 : (Nat → Int32)) (z57 : Int32), lp (u26 (fX0_bestOf_s18 n x0_gained x1_left x1_earned x1_turnCost x1_turnWayless x2_steps x2_nodes x2_stepCount x2_open x2_openCount x2_seen x3_knownFree x4_goodsCount x4_workCount x4_years x4_goods x4_works x4_coin v29)) k (z32, z33, z34, z35, z36, z37, z38, z39, z40, z41, z42, z43, z44, z45, z46, z47, z48, z49, z50, z51, z52, z53, z54, z55, z56, z57) = some e58 → J d Φ 7 [gCh d h0 (h1 0) a0_after (h3 0) x0_gained, gTr d h1 (h2 0) x1_left x1_earned x1_turnCost x1_turnWayless, gWy d h2 z35 z36 z37 z38 z39 z40 x2_steps x2_nodes x2_stepCount x2_open x2_openCount x2_seen z41 z42, gLd d h3 z43 z44 z45 z46 z47 z48 z49 z50 z51 x3_knownFree z52, gLd d h4 z53 x4_goodsCount x4_workCount x4_years z54 x4_goods x4_works z55 x4_coin z56 z57] 0 0 18 [(0, .ref (h0 0)), (1, .ref (h4 0)), (2, .int z32), (3, .int z33), (4, .int v29), (5, .int z34)] [] := by
    intro k
    induction k with
    | zero => intro z32 z33 z34 z35 z36 z37 z38 z39 z40 z41 z42 z43 z44 z45 z46 z47 z48 z49 z50 z51 z52 z53 z54 z55 z56 z57 h; cases h
    | succ k ih31 =>
      intro z32 z33 z34 z35 z36 z37 z38 z39 z40 z41 z42 z43 z44 z45 z46 z47 z48 z49 z50 z51 z52 z53 z54 z55 z56 z57 h
      obtain ⟨k2, rr31, hk2, hs31, hr31⟩ := lp_ok h
      cases hk2
      have hs31 : fX0_bestOf_s18 n x0_gained x1_left x1_earned x1_turnCost x1_turnWayless x2_steps x2_nodes x2_stepCount x2_open x2_openCount x2_seen x3_knownFree x4_goodsCount x4_workCount x4_years x4_goods x4_works x4_coin v29 z32 z33 z34 z35 z36 z37 z38 z39 z40 z41 z42 z43 z44 z45 z46 z47 z48 z49 z50 z51 z52 z53 z54 z55 z56 z57 = some rr31 := hs31
      unfold fX0_bestOf_s18 at hs31
      refine J_iload hK qd0_9.2.2.2.2.2.2.2.2.2.2.2.2.1 rfl 5 rfl ?_
      refine J_iconst (v := 1) hK qd0_9.2.2.2.2.2.2.2.2.2.2.2.2.2.1 rfl (by decide) ?_
      refine J_aload_n hK qd0_9.2.2.2.2.2.2.2.2.2.2.2.2.2.2.1 rfl 1 rfl rfl ?_
      refine J_get hK fo_RX0_44 qd0_9.2.2.2.2.2.2.2.2.2.2.2.2.2.2.2.1 rfl 4 0 rfl rfl rfl ?_
      refine J_ishl hK qd0_10.1 rfl ?_
      refine J_icmp_ge (tg := 64) hK qd0_10.2.1 rfl rfl (fun hc26 => ?_) (fun hc26 => ?_)
      · have hs31 := ip hc26 hs31
        exact J_loc [2] rfl (hx31_64 z32 z35 z36 z37 z38 z39 z40 z41 z42 z43 z44 z45 z46 z47 z48 z49 z50 z51 z52 z53 z54 z55 z56 z57 (lpx hs31 hr31))
      · have hs31 := iq hc26 hs31
        refine J_iload hK qd0_10.2.2.1 rfl 5 rfl ?_
        refine J_iload hK qd0_10.2.2.2.1 rfl 4 rfl ?_
        refine J_iand hK qd0_10.2.2.2.2.1 rfl ?_
        refine J_if_ne (tg := 58) hK qd0_10.2.2.2.2.2.1 rfl rfl (fun hc34 => ?_) (fun hc34 => ?_)
        · have hs31 := iq hc34 hs31
          refine J_iinc (L' := [(5, .int (z34 + 1)), (0, .ref (h0 0)), (1, .ref (h4 0)), (2, .int z32), (3, .int z33), (4, .int v29)]) (v := (z34 + 1)) hK qd0_11.2.2.1 rfl 5 rfl rfl (by decide) rfl ?_
          refine J_goto hK qd0_11.2.2.2.1 (n := 18) rfl ?_
          exact J_loc [1, 2, 3, 4, 5, 0] rfl (ih31 z32 z33 (z34 + 1) z35 z36 z37 z38 z39 z40 z41 z42 z43 z44 z45 z46 z47 z48 z49 z50 z51 z52 z53 z54 z55 z56 z57 (lpc hs31 hr31))
        · have hs31 := ip hc34 hs31
          refine J_aload_n hK qd0_10.2.2.2.2.2.2.1 rfl 0 rfl rfl ?_
          refine J_aload_n hK qd0_10.2.2.2.2.2.2.2.1 rfl 1 rfl rfl ?_
          refine J_iload hK qd0_10.2.2.2.2.2.2.2.2.1 rfl 5 rfl ?_
          obtain ⟨⟨v83, ⟨g85, g86, g87, g88, g89, g90, g91, g92⟩, ⟨g94, g95, g96, g97, g98, g99, g100, g101, g102, g103⟩, ⟨g105, g106, g107, g108, g109⟩⟩, e110, hs31⟩ := bs hs31
          have hs31 := un4 hs31
          have hs31 := un8 hs31
          have hs31 := un10 hs31
          have hs31 := un5 hs31
          refine J_callV (m := 5) (m' := 5) (ce' := 0) (sl' := 0) (gr := []) (gs' := fun _ => [gCh d h0 (h1 0) a0_after (h3 0) x0_gained, gTr d h1 (h2 0) x1_left x1_earned x1_turnCost x1_turnWayless, gWy d h2 g85 g86 g87 g88 g89 g90 x2_steps x2_nodes x2_stepCount x2_open x2_openCount x2_seen g91 g92, gLd d h3 g94 g95 g96 g97 g98 g99 g100 g101 g102 x3_knownFree g103, gLd d h4 g105 x4_goodsCount x4_workCount x4_years g106 x4_goods x4_works g107 x4_coin g108 g109]) (st' := fun _ => [.int v83]) (st := []) hK qd0_10.2.2.2.2.2.2.2.2.2.1 cv_RX0_77 iv_yX0_totalOf (As := [.ref (h4 0), .int z34]) (kX0_totalOf _ d h0 a0_after h1 h2 h3 h4 n x0_gained x1_left x1_earned x1_turnCost x1_turnWayless z35 z36 z37 z38 z39 z40 x2_steps x2_nodes x2_stepCount x2_open x2_openCount x2_seen z41 z42 z43 z44 z45 z46 z47 z48 z49 z50 z51 x3_knownFree z52 z53 x4_goodsCount x4_workCount x4_years z54 x4_goods x4_works z55 x4_coin z56 z57 z34 e110) rfl rfl (Nat.le_of_ble_eq_true rfl) (by decide) 0 0 rfl rfl rfl [0, 1, 2, 3, 4] [] rfl (by decide +kernel) rfl rfl [0, 1, 2, 3, 4] (by decide +kernel) (fun _ => rfl) (fun _ => rfl) rfl rfl rfl (fun _ => rfl) (fun _ => ?_)
          refine J_istore (L' := [(6, .int v83), (0, .ref (h0 0)), (1, .ref (h4 0)), (2, .int z32), (3, .int z33), (4, .int v29), (5, .int z34)]) hK qd0_10.2.2.2.2.2.2.2.2.2.2.1 rfl (by decide) rfl ?_
          refine J_iload hK qd0_10.2.2.2.2.2.2.2.2.2.2.2.1 rfl 0 rfl ?_
          refine J_iload_n hK qd0_10.2.2.2.2.2.2.2.2.2.2.2.2.1 rfl 4 rfl rfl ?_
          refine J_icmp_ge (tg := 58) hK qd0_10.2.2.2.2.2.2.2.2.2.2.2.2.2.1 rfl rfl (fun hc49 => ?_) (fun hc49 => ?_)
          · have hs31 := ip hc49 hs31
            refine J_iinc (L' := [(5, .int (z34 + 1)), (6, .int v83), (0, .ref (h0 0)), (1, .ref (h4 0)), (2, .int z32), (3, .int z33), (4, .int v29)]) (v := (z34 + 1)) hK qd0_11.2.2.1 rfl 6 rfl rfl (by decide) rfl ?_
            refine J_goto hK qd0_11.2.2.2.1 (n := 18) rfl ?_
            exact J_loc [2, 3, 4, 5, 6, 0] rfl (ih31 z32 z33 (z34 + 1) g85 g86 g87 g88 g89 g90 g91 g92 g94 g95 g96 g97 g98 g99 g100 g101 g102 g103 g105 g106 g107 g108 g109 (lpc hs31 hr31))
          · have hs31 := iq hc49 hs31
            refine J_iload hK qd0_10.2.2.2.2.2.2.2.2.2.2.2.2.2.2.1 rfl 0 rfl ?_
            refine J_istore_n (L' := [(3, .int v83), (6, .int v83), (0, .ref (h0 0)), (1, .ref (h4 0)), (2, .int z32), (4, .int v29), (5, .int z34)]) hK qd0_10.2.2.2.2.2.2.2.2.2.2.2.2.2.2.2.1 rfl rfl (by decide) rfl ?_
            refine J_iload hK qd0_11.1 rfl 6 rfl ?_
            refine J_istore_n (L' := [(2, .int z34), (3, .int v83), (6, .int v83), (0, .ref (h0 0)), (1, .ref (h4 0)), (4, .int v29), (5, .int z34)]) hK qd0_11.2.1 rfl rfl (by decide) rfl ?_
            refine J_iinc (L' := [(5, .int (z34 + 1)), (2, .int z34), (3, .int v83), (6, .int v83), (0, .ref (h0 0)), (1, .ref (h4 0)), (4, .int v29)]) (v := (z34 + 1)) hK qd0_11.2.2.1 rfl 6 rfl rfl (by decide) rfl ?_
            refine J_goto hK qd0_11.2.2.2.1 (n := 18) rfl ?_
            exact J_loc [4, 5, 1, 2, 6, 0] rfl (ih31 z34 v83 (z34 + 1) g85 g86 g87 g88 g89 g90 g91 g92 g94 g95 g96 g97 g98 g99 g100 g101 g102 g103 g105 g106 g107 g108 g109 (lpc hs31 hr31))
  exact J_loc [4, 5, 3, 2, 1, 0] rfl (lo31 n (0) v1 (1) g3 g4 g5 g6 g7 g8 g9 g10 g12 g13 g14 g15 g16 g17 g18 g19 g20 g21 g23 g24 g25 g26 g27 hl31)

def fX0_worthIn (n : Nat) (X0 : ChT) (X1 : TrT) (X2 : WyT) (X3 : LdT) (X4 : LdT) (p2 : Int32) (p3 : Int32) : Option (Int32 × ((Nat → Int32) × (Nat → Int32) × (Nat → Int32) × (Nat → Int32) × (Nat → Int32) × (Nat → Int32) × Int32 × Int32) × (Int32 × Int32 × Int32 × Int32 × (Nat → Int32) × (Nat → Int32) × (Nat → Int32) × (Nat → Int32) × (Nat → Int32) × Int32) × (Int32 × (Nat → Int32) × (Nat → Int32) × (Nat → Int32) × Int32)) :=
  (fun (x0_gained : (Nat → Int32)) => u4 (fun (x1_left : (Nat → Int32)) (x1_earned : (Nat → Int32)) (x1_turnCost : Int32) (x1_turnWayless : Int32) => u14 (fun (x2_edgeA : (Nat → Int32)) (x2_edgeB : (Nat → Int32)) (x2_edgeCost : (Nat → Int32)) (x2_edgeLine : (Nat → Int32)) (x2_change : (Nat → Int32)) (x2_away : (Nat → Int32)) (x2_steps : (Nat → Int32)) (x2_nodes : (Nat → Int32)) (x2_stepCount : Int32) (x2_open : (Nat → Int32)) (x2_openCount : Int32) (x2_seen : Int64) (x2_edgeCount : Int32) (x2_aim : Int32) => u11 (fun (x3_lineCount : Int32) (x3_goodsCount : Int32) (x3_workCount : Int32) (x3_years : Int32) (x3_lines : (Nat → Int32)) (x3_goods : (Nat → Int32)) (x3_works : (Nat → Int32)) (x3_change : (Nat → Int32)) (x3_coin : (Nat → Int32)) (x3_knownFree : (Nat → Int32)) (x3_isKnown : Int32) => u11 (fun (x4_lineCount : Int32) (x4_goodsCount : Int32) (x4_workCount : Int32) (x4_years : Int32) (x4_lines : (Nat → Int32)) (x4_goods : (Nat → Int32)) (x4_works : (Nat → Int32)) (x4_change : (Nat → Int32)) (x4_coin : (Nat → Int32)) (x4_knownFree : (Nat → Int32)) (x4_isKnown : Int32) => (fX0_freeWith n x0_gained (x1_left, x1_earned, x1_turnCost, x1_turnWayless) (x2_edgeA, x2_edgeB, x2_edgeCost, x2_edgeLine, x2_change, x2_away, x2_steps, x2_nodes, x2_stepCount, x2_open, x2_openCount, x2_seen, x2_edgeCount, x2_aim) (x3_lineCount, x3_goodsCount, x3_workCount, x3_years, x3_lines, x3_goods, x3_works, x3_change, x3_coin, x3_knownFree, x3_isKnown) (x4_lineCount, x4_goodsCount, x4_workCount, x4_years, x4_lines, x4_goods, x4_works, x4_change, x4_coin, x4_knownFree, x4_isKnown) (0)).bind (u4 fun v1 G2 G11 G22 => u8 (fun g3 g4 g5 g6 g7 g8 g9 g10 => u10 (fun g12 g13 g14 g15 g16 g17 g18 g19 g20 g21 => u5 (fun g23 g24 g25 g26 g27 => (fX0_freeWith n x0_gained (x1_left, x1_earned, x1_turnCost, x1_turnWayless) (g3, g4, g5, g6, g7, g8, x2_steps, x2_nodes, x2_stepCount, x2_open, x2_openCount, x2_seen, g9, g10) (g12, g13, g14, g15, g16, g17, g18, g19, g20, x3_knownFree, g21) (g23, x4_goodsCount, x4_workCount, x4_years, g24, x4_goods, x4_works, g25, x4_coin, g26, g27) ((1 : Int32) <<< (p2 &&& 31))).bind (u4 fun v29 G30 G39 G50 => u8 (fun g31 g32 g33 g34 g35 g36 g37 g38 => u10 (fun g40 g41 g42 g43 g44 g45 g46 g47 g48 g49 => u5 (fun g51 g52 g53 g54 g55 => (fX1_ofWork (g51, x4_goodsCount, x4_workCount, x4_years, g52, x4_goods, x4_works, g53, x4_coin, g54, g55) p2 (3)).bind (fun v57 => some (((p3 * (v1 - v29)) - v57), (g31, g32, g33, g34, g35, g36, g37, g38), (g40, g41, g42, g43, g44, g45, g46, g47, g48, g49), (g51, g52, g53, g54, g55)))) G50) G39) G30)) G22) G11) G2)) X4) X3) X2) X1) X0
set_option maxHeartbeats 4000000 in
set_option maxRecDepth 100000 in
theorem kX0_worthIn (l : Launch) (d : DT) (h0 : Nat → Nat) (a0_after : Nat) (h1 : Nat → Nat) (h2 : Nat → Nat) (h3 : Nat → Nat) (h4 : Nat → Nat) (n : Nat) (x0_gained : (Nat → Int32)) (x1_left : (Nat → Int32)) (x1_earned : (Nat → Int32)) (x1_turnCost : Int32) (x1_turnWayless : Int32) (x2_edgeA : (Nat → Int32)) (x2_edgeB : (Nat → Int32)) (x2_edgeCost : (Nat → Int32)) (x2_edgeLine : (Nat → Int32)) (x2_change : (Nat → Int32)) (x2_away : (Nat → Int32)) (x2_steps : (Nat → Int32)) (x2_nodes : (Nat → Int32)) (x2_stepCount : Int32) (x2_open : (Nat → Int32)) (x2_openCount : Int32) (x2_seen : Int64) (x2_edgeCount : Int32) (x2_aim : Int32) (x3_lineCount : Int32) (x3_goodsCount : Int32) (x3_workCount : Int32) (x3_years : Int32) (x3_lines : (Nat → Int32)) (x3_goods : (Nat → Int32)) (x3_works : (Nat → Int32)) (x3_change : (Nat → Int32)) (x3_coin : (Nat → Int32)) (x3_knownFree : (Nat → Int32)) (x3_isKnown : Int32) (x4_lineCount : Int32) (x4_goodsCount : Int32) (x4_workCount : Int32) (x4_years : Int32) (x4_lines : (Nat → Int32)) (x4_goods : (Nat → Int32)) (x4_works : (Nat → Int32)) (x4_change : (Nat → Int32)) (x4_coin : (Nat → Int32)) (x4_knownFree : (Nat → Int32)) (x4_isKnown : Int32) (p2 : Int32) (p3 : Int32)  {out : Int32 × ((Nat → Int32) × (Nat → Int32) × (Nat → Int32) × (Nat → Int32) × (Nat → Int32) × (Nat → Int32) × Int32 × Int32) × (Int32 × Int32 × Int32 × Int32 × (Nat → Int32) × (Nat → Int32) × (Nat → Int32) × (Nat → Int32) × (Nat → Int32) × Int32) × (Int32 × (Nat → Int32) × (Nat → Int32) × (Nat → Int32) × Int32)} (hf : fX0_worthIn n x0_gained (x1_left, x1_earned, x1_turnCost, x1_turnWayless) (x2_edgeA, x2_edgeB, x2_edgeCost, x2_edgeLine, x2_change, x2_away, x2_steps, x2_nodes, x2_stepCount, x2_open, x2_openCount, x2_seen, x2_edgeCount, x2_aim) (x3_lineCount, x3_goodsCount, x3_workCount, x3_years, x3_lines, x3_goods, x3_works, x3_change, x3_coin, x3_knownFree, x3_isKnown) (x4_lineCount, x4_goodsCount, x4_workCount, x4_years, x4_lines, x4_goods, x4_works, x4_change, x4_coin, x4_knownFree, x4_isKnown) p2 p3 = some out) : Ct l d yX0_worthIn cX0_worthIn 4 (some .int) { frames := 4, cells := 0, slots := 0, locals := 103 } [.ref (h0 0), .ref (h4 0), .int p2, .int p3] [gCh d h0 (h1 0) a0_after (h3 0) x0_gained, gTr d h1 (h2 0) x1_left x1_earned x1_turnCost x1_turnWayless, gWy d h2 x2_edgeA x2_edgeB x2_edgeCost x2_edgeLine x2_change x2_away x2_steps x2_nodes x2_stepCount x2_open x2_openCount x2_seen x2_edgeCount x2_aim, gLd d h3 x3_lineCount x3_goodsCount x3_workCount x3_years x3_lines x3_goods x3_works x3_change x3_coin x3_knownFree x3_isKnown, gLd d h4 x4_lineCount x4_goodsCount x4_workCount x4_years x4_lines x4_goods x4_works x4_change x4_coin x4_knownFree x4_isKnown] (fun _ : Unit => (some (.int out.1), [gCh d h0 (h1 0) a0_after (h3 0) x0_gained, gTr d h1 (h2 0) x1_left x1_earned x1_turnCost x1_turnWayless, gWy d h2 (out.2.1.1) (out.2.1.2.1) (out.2.1.2.2.1) (out.2.1.2.2.2.1) (out.2.1.2.2.2.2.1) (out.2.1.2.2.2.2.2.1) x2_steps x2_nodes x2_stepCount x2_open x2_openCount x2_seen (out.2.1.2.2.2.2.2.2.1) (out.2.1.2.2.2.2.2.2.2), gLd d h3 (out.2.2.1.1) (out.2.2.1.2.1) (out.2.2.1.2.2.1) (out.2.2.1.2.2.2.1) (out.2.2.1.2.2.2.2.1) (out.2.2.1.2.2.2.2.2.1) (out.2.2.1.2.2.2.2.2.2.1) (out.2.2.1.2.2.2.2.2.2.2.1) (out.2.2.1.2.2.2.2.2.2.2.2.1) x3_knownFree (out.2.2.1.2.2.2.2.2.2.2.2.2), gLd d h4 (out.2.2.2.1) x4_goodsCount x4_workCount x4_years (out.2.2.2.2.1) x4_goods x4_works (out.2.2.2.2.2.1) x4_coin (out.2.2.2.2.2.2.1) (out.2.2.2.2.2.2.2)])) := by
  refine Ct.of (by decide) (Nat.le_of_ble_eq_true rfl) ?_
  intro Φ hl hK hR
  subst hl
  have hK : Ok d Φ RX0 "worthIn" cX0_worthIn 4 (some .int) { frames := 4, cells := 0, slots := 0, locals := 103 } := hK
  unfold fX0_worthIn at hf
  have hf := un4 hf
  have hf := un14 hf
  have hf := un11 hf
  have hf := un11 hf
  show J d Φ 4 [gCh d h0 (h1 0) a0_after (h3 0) x0_gained, gTr d h1 (h2 0) x1_left x1_earned x1_turnCost x1_turnWayless, gWy d h2 x2_edgeA x2_edgeB x2_edgeCost x2_edgeLine x2_change x2_away x2_steps x2_nodes x2_stepCount x2_open x2_openCount x2_seen x2_edgeCount x2_aim, gLd d h3 x3_lineCount x3_goodsCount x3_workCount x3_years x3_lines x3_goods x3_works x3_change x3_coin x3_knownFree x3_isKnown, gLd d h4 x4_lineCount x4_goodsCount x4_workCount x4_years x4_lines x4_goods x4_works x4_change x4_coin x4_knownFree x4_isKnown] 0 0 0 [(0, .ref (h0 0)), (1, .ref (h4 0)), (2, .int p2), (3, .int p3)] []
  refine J_iload_n hK qd0_12.1 rfl 3 rfl rfl ?_
  refine J_aload_n hK qd0_12.2.1 rfl 0 rfl rfl ?_
  refine J_aload_n hK qd0_12.2.2.1 rfl 1 rfl rfl ?_
  refine J_iconst (v := 0) hK qd0_12.2.2.2.1 rfl (by decide) ?_
  obtain ⟨⟨v1, ⟨g3, g4, g5, g6, g7, g8, g9, g10⟩, ⟨g12, g13, g14, g15, g16, g17, g18, g19, g20, g21⟩, ⟨g23, g24, g25, g26, g27⟩⟩, e28, hf⟩ := bs hf
  have hf := un4 hf
  have hf := un8 hf
  have hf := un10 hf
  have hf := un5 hf
  refine J_callV (m := 5) (m' := 5) (ce' := 0) (sl' := 0) (gr := []) (gs' := fun _ => [gCh d h0 (h1 0) a0_after (h3 0) x0_gained, gTr d h1 (h2 0) x1_left x1_earned x1_turnCost x1_turnWayless, gWy d h2 g3 g4 g5 g6 g7 g8 x2_steps x2_nodes x2_stepCount x2_open x2_openCount x2_seen g9 g10, gLd d h3 g12 g13 g14 g15 g16 g17 g18 g19 g20 x3_knownFree g21, gLd d h4 g23 x4_goodsCount x4_workCount x4_years g24 x4_goods x4_works g25 x4_coin g26 g27]) (st' := fun _ => [.int v1, .int p3]) (st := [.int p3]) hK qd0_12.2.2.2.2.1 cv_RX0_66 iv_yX0_freeWith (As := [.ref (h4 0), .int (0)]) (kX0_freeWith _ d h0 a0_after h1 h2 h3 h4 n x0_gained x1_left x1_earned x1_turnCost x1_turnWayless x2_edgeA x2_edgeB x2_edgeCost x2_edgeLine x2_change x2_away x2_steps x2_nodes x2_stepCount x2_open x2_openCount x2_seen x2_edgeCount x2_aim x3_lineCount x3_goodsCount x3_workCount x3_years x3_lines x3_goods x3_works x3_change x3_coin x3_knownFree x3_isKnown x4_lineCount x4_goodsCount x4_workCount x4_years x4_lines x4_goods x4_works x4_change x4_coin x4_knownFree x4_isKnown (0) e28) rfl rfl (Nat.le_of_ble_eq_true rfl) (by decide) 0 0 rfl rfl rfl [0, 1, 2, 3, 4] [] rfl (by decide +kernel) rfl rfl [0, 1, 2, 3, 4] (by decide +kernel) (fun _ => rfl) (fun _ => rfl) rfl rfl rfl (fun _ => rfl) (fun _ => ?_)
  refine J_aload_n hK qd0_12.2.2.2.2.2.1 rfl 0 rfl rfl ?_
  refine J_aload_n hK qd0_12.2.2.2.2.2.2.1 rfl 1 rfl rfl ?_
  refine J_iconst (v := 1) hK qd0_12.2.2.2.2.2.2.2.1 rfl (by decide) ?_
  refine J_iload_n hK qd0_12.2.2.2.2.2.2.2.2.1 rfl 2 rfl rfl ?_
  refine J_ishl hK qd0_12.2.2.2.2.2.2.2.2.2.1 rfl ?_
  obtain ⟨⟨v29, ⟨g31, g32, g33, g34, g35, g36, g37, g38⟩, ⟨g40, g41, g42, g43, g44, g45, g46, g47, g48, g49⟩, ⟨g51, g52, g53, g54, g55⟩⟩, e56, hf⟩ := bs hf
  have hf := un4 hf
  have hf := un8 hf
  have hf := un10 hf
  have hf := un5 hf
  refine J_callV (m := 5) (m' := 5) (ce' := 0) (sl' := 0) (gr := []) (gs' := fun _ => [gCh d h0 (h1 0) a0_after (h3 0) x0_gained, gTr d h1 (h2 0) x1_left x1_earned x1_turnCost x1_turnWayless, gWy d h2 g31 g32 g33 g34 g35 g36 x2_steps x2_nodes x2_stepCount x2_open x2_openCount x2_seen g37 g38, gLd d h3 g40 g41 g42 g43 g44 g45 g46 g47 g48 x3_knownFree g49, gLd d h4 g51 x4_goodsCount x4_workCount x4_years g52 x4_goods x4_works g53 x4_coin g54 g55]) (st' := fun _ => [.int v29, .int v1, .int p3]) (st := [.int v1, .int p3]) hK qd0_12.2.2.2.2.2.2.2.2.2.2.1 cv_RX0_66 iv_yX0_freeWith (As := [.ref (h4 0), .int ((1 : Int32) <<< (p2 &&& 31))]) (kX0_freeWith _ d h0 a0_after h1 h2 h3 h4 n x0_gained x1_left x1_earned x1_turnCost x1_turnWayless g3 g4 g5 g6 g7 g8 x2_steps x2_nodes x2_stepCount x2_open x2_openCount x2_seen g9 g10 g12 g13 g14 g15 g16 g17 g18 g19 g20 x3_knownFree g21 g23 x4_goodsCount x4_workCount x4_years g24 x4_goods x4_works g25 x4_coin g26 g27 ((1 : Int32) <<< (p2 &&& 31)) e56) rfl rfl (Nat.le_of_ble_eq_true rfl) (by decide) 0 0 rfl rfl rfl [0, 1, 2, 3, 4] [] rfl (by decide +kernel) rfl rfl [0, 1, 2, 3, 4] (by decide +kernel) (fun _ => rfl) (fun _ => rfl) rfl rfl rfl (fun _ => rfl) (fun _ => ?_)
  refine J_isub hK qd0_12.2.2.2.2.2.2.2.2.2.2.2.1 rfl ?_
  refine J_imul hK qd0_12.2.2.2.2.2.2.2.2.2.2.2.2.1 rfl ?_
  refine J_aload_n hK qd0_12.2.2.2.2.2.2.2.2.2.2.2.2.2.1 rfl 1 rfl rfl ?_
  refine J_iload_n hK qd0_12.2.2.2.2.2.2.2.2.2.2.2.2.2.2.1 rfl 2 rfl rfl ?_
  refine J_iconst (v := 3) hK qd0_12.2.2.2.2.2.2.2.2.2.2.2.2.2.2.2.1 rfl (by decide) ?_
  obtain ⟨v57, e58, hf⟩ := bs hf
  refine J_callV (m := 5) (m' := 5) (ce' := 0) (sl' := 0) (gr := [gCh d h0 (h1 0) a0_after (h3 0) x0_gained, gTr d h1 (h2 0) x1_left x1_earned x1_turnCost x1_turnWayless, gWy d h2 g31 g32 g33 g34 g35 g36 x2_steps x2_nodes x2_stepCount x2_open x2_openCount x2_seen g37 g38, gLd d h3 g40 g41 g42 g43 g44 g45 g46 g47 g48 x3_knownFree g49]) (gs' := fun _ => [gCh d h0 (h1 0) a0_after (h3 0) x0_gained, gTr d h1 (h2 0) x1_left x1_earned x1_turnCost x1_turnWayless, gWy d h2 g31 g32 g33 g34 g35 g36 x2_steps x2_nodes x2_stepCount x2_open x2_openCount x2_seen g37 g38, gLd d h3 g40 g41 g42 g43 g44 g45 g46 g47 g48 x3_knownFree g49, gLd d h4 g51 x4_goodsCount x4_workCount x4_years g52 x4_goods x4_works g53 x4_coin g54 g55]) (st' := fun _ => [.int v57, .int (p3 * (v1 - v29))]) (st := [.int (p3 * (v1 - v29))]) hK qd0_13.1 cv_RX0_73 iv_yX1_ofWork (As := [.int p2, .int (3)]) (kX1_ofWork _ d h4 g51 x4_goodsCount x4_workCount x4_years g52 x4_goods x4_works g53 x4_coin g54 g55 p2 (3) e58) rfl rfl (Nat.le_of_ble_eq_true rfl) (by decide) 4 0 rfl rfl rfl [4] [0, 1, 2, 3] rfl (by decide +kernel) rfl rfl [0, 1, 2, 3, 4] (by decide +kernel) (fun _ => rfl) (fun _ => rfl) rfl rfl rfl (fun _ => rfl) (fun _ => ?_)
  refine J_isub hK qd0_13.2.1 rfl ?_
  obtain rfl := Option.some.inj hf
  exact J_iret hK hR qd0_13.2.2.1 () rfl (by decide) (by decide)

def fX0_firstOf_s7 (n : Nat) (x0_gained : (Nat → Int32)) (x1_left : (Nat → Int32)) (x1_earned : (Nat → Int32)) (x1_turnCost : Int32) (x1_turnWayless : Int32) (x2_steps : (Nat → Int32)) (x2_nodes : (Nat → Int32)) (x2_stepCount : Int32) (x2_open : (Nat → Int32)) (x2_openCount : Int32) (x2_seen : Int64) (x3_knownFree : (Nat → Int32)) (x4_goodsCount : Int32) (x4_workCount : Int32) (x4_years : Int32) (x4_goods : (Nat → Int32)) (x4_works : (Nat → Int32)) (x4_coin : (Nat → Int32)) (z2 : Int32) (z3 : Int32) (z4 : Int32) (z5 : (Nat → Int32)) (z6 : (Nat → Int32)) (z7 : (Nat → Int32)) (z8 : (Nat → Int32)) (z9 : (Nat → Int32)) (z10 : (Nat → Int32)) (z11 : Int32) (z12 : Int32) (z13 : Int32) (z14 : Int32) (z15 : Int32) (z16 : Int32) (z17 : (Nat → Int32)) (z18 : (Nat → Int32)) (z19 : (Nat → Int32)) (z20 : (Nat → Int32)) (z21 : (Nat → Int32)) (z22 : Int32) (z23 : Int32) (z24 : (Nat → Int32)) (z25 : (Nat → Int32)) (z26 : (Nat → Int32)) (z27 : Int32) : Option ((Int32 × Int32 × Int32 × (Nat → Int32) × (Nat → Int32) × (Nat → Int32) × (Nat → Int32) × (Nat → Int32) × (Nat → Int32) × Int32 × Int32 × Int32 × Int32 × Int32 × Int32 × (Nat → Int32) × (Nat → Int32) × (Nat → Int32) × (Nat → Int32) × (Nat → Int32) × Int32 × Int32 × (Nat → Int32) × (Nat → Int32) × (Nat → Int32) × Int32) ⊕ (Int32 × (Nat → Int32) × (Nat → Int32) × (Nat → Int32) × (Nat → Int32) × (Nat → Int32) × (Nat → Int32) × Int32 × Int32 × Int32 × Int32 × Int32 × Int32 × (Nat → Int32) × (Nat → Int32) × (Nat → Int32) × (Nat → Int32) × (Nat → Int32) × Int32 × Int32 × (Nat → Int32) × (Nat → Int32) × (Nat → Int32) × Int32)) :=
  if x4_workCount ≤ z4 then (some (.inr (z2, z5, z6, z7, z8, z9, z10, z11, z12, z13, z14, z15, z16, z17, z18, z19, z20, z21, z22, z23, z24, z25, z26, z27))) else ((fX1_isDone (z23, x4_goodsCount, x4_workCount, x4_years, z24, x4_goods, x4_works, z25, x4_coin, z26, z27) z4).bind (fun v53 => if v53 = 0 then ((fX0_worthIn n x0_gained (x1_left, x1_earned, x1_turnCost, x1_turnWayless) (z5, z6, z7, z8, z9, z10, x2_steps, x2_nodes, x2_stepCount, x2_open, x2_openCount, x2_seen, z11, z12) (z13, z14, z15, z16, z17, z18, z19, z20, z21, x3_knownFree, z22) (z23, x4_goodsCount, x4_workCount, x4_years, z24, x4_goods, x4_works, z25, x4_coin, z26, z27) z4 x4_years).bind (u4 fun v55 G56 G65 G76 => u8 (fun g57 g58 g59 g60 g61 g62 g63 g64 => u10 (fun g66 g67 g68 g69 g70 g71 g72 g73 g74 g75 => u5 (fun g77 g78 g79 g80 g81 => if v55 ≤ z3 then (some (.inl (z2, z3, (z4 + 1), g57, g58, g59, g60, g61, g62, g63, g64, g66, g67, g68, g69, g70, g71, g72, g73, g74, g75, g77, g78, g79, g80, g81))) else (some (.inl (z4, v55, (z4 + 1), g57, g58, g59, g60, g61, g62, g63, g64, g66, g67, g68, g69, g70, g71, g72, g73, g74, g75, g77, g78, g79, g80, g81)))) G76) G65) G56)) else (some (.inl (z2, z3, (z4 + 1), z5, z6, z7, z8, z9, z10, z11, z12, z13, z14, z15, z16, z17, z18, z19, z20, z21, z22, z23, z24, z25, z26, z27)))))
def fX0_firstOf (n : Nat) (X0 : ChT) (X1 : TrT) (X2 : WyT) (X3 : LdT) (X4 : LdT) : Option (Int32 × ((Nat → Int32) × (Nat → Int32) × (Nat → Int32) × (Nat → Int32) × (Nat → Int32) × (Nat → Int32) × Int32 × Int32) × (Int32 × Int32 × Int32 × Int32 × (Nat → Int32) × (Nat → Int32) × (Nat → Int32) × (Nat → Int32) × (Nat → Int32) × Int32) × (Int32 × (Nat → Int32) × (Nat → Int32) × (Nat → Int32) × Int32)) :=
  (fun (x0_gained : (Nat → Int32)) => u4 (fun (x1_left : (Nat → Int32)) (x1_earned : (Nat → Int32)) (x1_turnCost : Int32) (x1_turnWayless : Int32) => u14 (fun (x2_edgeA : (Nat → Int32)) (x2_edgeB : (Nat → Int32)) (x2_edgeCost : (Nat → Int32)) (x2_edgeLine : (Nat → Int32)) (x2_change : (Nat → Int32)) (x2_away : (Nat → Int32)) (x2_steps : (Nat → Int32)) (x2_nodes : (Nat → Int32)) (x2_stepCount : Int32) (x2_open : (Nat → Int32)) (x2_openCount : Int32) (x2_seen : Int64) (x2_edgeCount : Int32) (x2_aim : Int32) => u11 (fun (x3_lineCount : Int32) (x3_goodsCount : Int32) (x3_workCount : Int32) (x3_years : Int32) (x3_lines : (Nat → Int32)) (x3_goods : (Nat → Int32)) (x3_works : (Nat → Int32)) (x3_change : (Nat → Int32)) (x3_coin : (Nat → Int32)) (x3_knownFree : (Nat → Int32)) (x3_isKnown : Int32) => u11 (fun (x4_lineCount : Int32) (x4_goodsCount : Int32) (x4_workCount : Int32) (x4_years : Int32) (x4_lines : (Nat → Int32)) (x4_goods : (Nat → Int32)) (x4_works : (Nat → Int32)) (x4_change : (Nat → Int32)) (x4_coin : (Nat → Int32)) (x4_knownFree : (Nat → Int32)) (x4_isKnown : Int32) => (lp (u26 (fX0_firstOf_s7 n x0_gained x1_left x1_earned x1_turnCost x1_turnWayless x2_steps x2_nodes x2_stepCount x2_open x2_openCount x2_seen x3_knownFree x4_goodsCount x4_workCount x4_years x4_goods x4_works x4_coin)) n ((-1), 0, 0, x2_edgeA, x2_edgeB, x2_edgeCost, x2_edgeLine, x2_change, x2_away, x2_edgeCount, x2_aim, x3_lineCount, x3_goodsCount, x3_workCount, x3_years, x3_lines, x3_goods, x3_works, x3_change, x3_coin, x3_isKnown, x4_lineCount, x4_lines, x4_change, x4_knownFree, x4_isKnown)).bind (u24 fun w29 w30 w31 w32 w33 w34 w35 w36 w37 w38 w39 w40 w41 w42 w43 w44 w45 w46 w47 w48 w49 w50 w51 w52 => some (w29, (w30, w31, w32, w33, w34, w35, w36, w37), (w38, w39, w40, w41, w42, w43, w44, w45, w46, w47), (w48, w49, w50, w51, w52)))) X4) X3) X2) X1) X0
set_option maxHeartbeats 4000000 in
set_option maxRecDepth 100000 in
theorem kX0_firstOf (l : Launch) (d : DT) (h0 : Nat → Nat) (a0_after : Nat) (h1 : Nat → Nat) (h2 : Nat → Nat) (h3 : Nat → Nat) (h4 : Nat → Nat) (n : Nat) (x0_gained : (Nat → Int32)) (x1_left : (Nat → Int32)) (x1_earned : (Nat → Int32)) (x1_turnCost : Int32) (x1_turnWayless : Int32) (x2_edgeA : (Nat → Int32)) (x2_edgeB : (Nat → Int32)) (x2_edgeCost : (Nat → Int32)) (x2_edgeLine : (Nat → Int32)) (x2_change : (Nat → Int32)) (x2_away : (Nat → Int32)) (x2_steps : (Nat → Int32)) (x2_nodes : (Nat → Int32)) (x2_stepCount : Int32) (x2_open : (Nat → Int32)) (x2_openCount : Int32) (x2_seen : Int64) (x2_edgeCount : Int32) (x2_aim : Int32) (x3_lineCount : Int32) (x3_goodsCount : Int32) (x3_workCount : Int32) (x3_years : Int32) (x3_lines : (Nat → Int32)) (x3_goods : (Nat → Int32)) (x3_works : (Nat → Int32)) (x3_change : (Nat → Int32)) (x3_coin : (Nat → Int32)) (x3_knownFree : (Nat → Int32)) (x3_isKnown : Int32) (x4_lineCount : Int32) (x4_goodsCount : Int32) (x4_workCount : Int32) (x4_years : Int32) (x4_lines : (Nat → Int32)) (x4_goods : (Nat → Int32)) (x4_works : (Nat → Int32)) (x4_change : (Nat → Int32)) (x4_coin : (Nat → Int32)) (x4_knownFree : (Nat → Int32)) (x4_isKnown : Int32)  {out : Int32 × ((Nat → Int32) × (Nat → Int32) × (Nat → Int32) × (Nat → Int32) × (Nat → Int32) × (Nat → Int32) × Int32 × Int32) × (Int32 × Int32 × Int32 × Int32 × (Nat → Int32) × (Nat → Int32) × (Nat → Int32) × (Nat → Int32) × (Nat → Int32) × Int32) × (Int32 × (Nat → Int32) × (Nat → Int32) × (Nat → Int32) × Int32)} (hf : fX0_firstOf n x0_gained (x1_left, x1_earned, x1_turnCost, x1_turnWayless) (x2_edgeA, x2_edgeB, x2_edgeCost, x2_edgeLine, x2_change, x2_away, x2_steps, x2_nodes, x2_stepCount, x2_open, x2_openCount, x2_seen, x2_edgeCount, x2_aim) (x3_lineCount, x3_goodsCount, x3_workCount, x3_years, x3_lines, x3_goods, x3_works, x3_change, x3_coin, x3_knownFree, x3_isKnown) (x4_lineCount, x4_goodsCount, x4_workCount, x4_years, x4_lines, x4_goods, x4_works, x4_change, x4_coin, x4_knownFree, x4_isKnown) = some out) : Ct l d yX0_firstOf cX0_firstOf 6 (some .int) { frames := 5, cells := 0, slots := 0, locals := 126 } [.ref (h0 0), .ref (h4 0)] [gCh d h0 (h1 0) a0_after (h3 0) x0_gained, gTr d h1 (h2 0) x1_left x1_earned x1_turnCost x1_turnWayless, gWy d h2 x2_edgeA x2_edgeB x2_edgeCost x2_edgeLine x2_change x2_away x2_steps x2_nodes x2_stepCount x2_open x2_openCount x2_seen x2_edgeCount x2_aim, gLd d h3 x3_lineCount x3_goodsCount x3_workCount x3_years x3_lines x3_goods x3_works x3_change x3_coin x3_knownFree x3_isKnown, gLd d h4 x4_lineCount x4_goodsCount x4_workCount x4_years x4_lines x4_goods x4_works x4_change x4_coin x4_knownFree x4_isKnown] (fun _ : Unit => (some (.int out.1), [gCh d h0 (h1 0) a0_after (h3 0) x0_gained, gTr d h1 (h2 0) x1_left x1_earned x1_turnCost x1_turnWayless, gWy d h2 (out.2.1.1) (out.2.1.2.1) (out.2.1.2.2.1) (out.2.1.2.2.2.1) (out.2.1.2.2.2.2.1) (out.2.1.2.2.2.2.2.1) x2_steps x2_nodes x2_stepCount x2_open x2_openCount x2_seen (out.2.1.2.2.2.2.2.2.1) (out.2.1.2.2.2.2.2.2.2), gLd d h3 (out.2.2.1.1) (out.2.2.1.2.1) (out.2.2.1.2.2.1) (out.2.2.1.2.2.2.1) (out.2.2.1.2.2.2.2.1) (out.2.2.1.2.2.2.2.2.1) (out.2.2.1.2.2.2.2.2.2.1) (out.2.2.1.2.2.2.2.2.2.2.1) (out.2.2.1.2.2.2.2.2.2.2.2.1) x3_knownFree (out.2.2.1.2.2.2.2.2.2.2.2.2), gLd d h4 (out.2.2.2.1) x4_goodsCount x4_workCount x4_years (out.2.2.2.2.1) x4_goods x4_works (out.2.2.2.2.2.1) x4_coin (out.2.2.2.2.2.2.1) (out.2.2.2.2.2.2.2)])) := by
  refine Ct.of (by decide) (Nat.le_of_ble_eq_true rfl) ?_
  intro Φ hl hK hR
  subst hl
  have hK : Ok d Φ RX0 "firstOf" cX0_firstOf 6 (some .int) { frames := 5, cells := 0, slots := 0, locals := 126 } := hK
  unfold fX0_firstOf at hf
  have hf := un4 hf
  have hf := un14 hf
  have hf := un11 hf
  have hf := un11 hf
  show J d Φ 6 [gCh d h0 (h1 0) a0_after (h3 0) x0_gained, gTr d h1 (h2 0) x1_left x1_earned x1_turnCost x1_turnWayless, gWy d h2 x2_edgeA x2_edgeB x2_edgeCost x2_edgeLine x2_change x2_away x2_steps x2_nodes x2_stepCount x2_open x2_openCount x2_seen x2_edgeCount x2_aim, gLd d h3 x3_lineCount x3_goodsCount x3_workCount x3_years x3_lines x3_goods x3_works x3_change x3_coin x3_knownFree x3_isKnown, gLd d h4 x4_lineCount x4_goodsCount x4_workCount x4_years x4_lines x4_goods x4_works x4_change x4_coin x4_knownFree x4_isKnown] 0 0 0 [(0, .ref (h0 0)), (1, .ref (h4 0))] []
  refine J_iconst (v := (-1)) hK qd0_14.1 rfl (by decide) ?_
  refine J_istore_n (L' := [(2, .int (-1)), (0, .ref (h0 0)), (1, .ref (h4 0))]) hK qd0_14.2.1 rfl rfl (by decide) rfl ?_
  refine J_iconst (v := 0) hK qd0_14.2.2.1 rfl (by decide) ?_
  refine J_istore_n (L' := [(3, .int (0)), (2, .int (-1)), (0, .ref (h0 0)), (1, .ref (h4 0))]) hK qd0_14.2.2.2.1 rfl rfl (by decide) rfl ?_
  refine J_iconst (v := 0) hK qd0_14.2.2.2.2.1 rfl (by decide) ?_
  refine J_istore (L' := [(4, .int (0)), (3, .int (0)), (2, .int (-1)), (0, .ref (h0 0)), (1, .ref (h4 0))]) hK qd0_14.2.2.2.2.2.1 rfl (by decide) rfl ?_
  obtain ⟨e28, hl1, hf⟩ := bs hf
  have hx1_56 : ∀ (w29 : Int32) (w30 : (Nat → Int32)) (w31 : (Nat → Int32)) (w32 : (Nat → Int32)) (w33 : (Nat → Int32)) (w34 : (Nat → Int32)) (w35 : (Nat → Int32)) (w36 : Int32) (w37 : Int32) (w38 : Int32) (w39 : Int32) (w40 : Int32) (w41 : Int32) (w42 : (Nat → Int32)) (w43 : (Nat → Int32)) (w44 : (Nat → Int32)) (w45 : (Nat → Int32)) (w46 : (Nat → Int32)) (w47 : Int32) (w48 : Int32) (w49 : (Nat → Int32)) (w50 : (Nat → Int32)) (w51 : (Nat → Int32)) (w52 : Int32), (w29, w30, w31, w32, w33, w34, w35, w36, w37, w38, w39, w40, w41, w42, w43, w44, w45, w46, w47, w48, w49, w50, w51, w52) = e28 → J d Φ 6 [gCh d h0 (h1 0) a0_after (h3 0) x0_gained, gTr d h1 (h2 0) x1_left x1_earned x1_turnCost x1_turnWayless, gWy d h2 w30 w31 w32 w33 w34 w35 x2_steps x2_nodes x2_stepCount x2_open x2_openCount x2_seen w36 w37, gLd d h3 w38 w39 w40 w41 w42 w43 w44 w45 w46 x3_knownFree w47, gLd d h4 w48 x4_goodsCount x4_workCount x4_years w49 x4_goods x4_works w50 x4_coin w51 w52] 0 0 56 [(2, .int w29)] [] := by
    intro w29 w30 w31 w32 w33 w34 w35 w36 w37 w38 w39 w40 w41 w42 w43 w44 w45 w46 w47 w48 w49 w50 w51 w52 he
    rw [← he] at hf
    have hf := un24 hf
    refine J_iload_n hK qd0_15.2.2.2.2.2.2.2.2.2.2.2.2.2.2.1 rfl 0 rfl rfl ?_
    obtain rfl := Option.some.inj hf
    exact J_iret hK hR qd0_15.2.2.2.2.2.2.2.2.2.2.2.2.2.2.2.1 () rfl (by decide) (by decide)
  have lo1 : ∀ (k : Nat) (z2 : Int32) (z3 : Int32) (z4 : Int32) (z5 : (Nat → Int32)) (z6 : (Nat → Int32)) (z7 : (Nat → Int32)) (z8 : (Nat → Int32)) (z9 : (Nat → Int32)) (z10 : (Nat → Int32)) (z11 : Int32) (z12 : Int32) (z13 : Int32) (z14 : Int32) (z15 : Int32) (z16 : Int32) (z17 : (Nat → Int32)) (z18 : (Nat → Int32)) (z19 : (Nat → Int32)) (z20 : (Nat → Int32)) (z21 : (Nat → Int32)) (z22 : Int32) (z23 : Int32) (z24 : (Nat → Int32)) (z25 : (Nat → Int32)) (z26 : (Nat → Int32)) (z27 : Int32), lp (u26 (fX0_firstOf_s7 n x0_gained x1_left x1_earned x1_turnCost x1_turnWayless x2_steps x2_nodes x2_stepCount x2_open x2_openCount x2_seen x3_knownFree x4_goodsCount x4_workCount x4_years x4_goods x4_works x4_coin)) k (z2, z3, z4, z5, z6, z7, z8, z9, z10, z11, z12, z13, z14, z15, z16, z17, z18, z19, z20, z21, z22, z23, z24, z25, z26, z27) = some e28 → J d Φ 6 [gCh d h0 (h1 0) a0_after (h3 0) x0_gained, gTr d h1 (h2 0) x1_left x1_earned x1_turnCost x1_turnWayless, gWy d h2 z5 z6 z7 z8 z9 z10 x2_steps x2_nodes x2_stepCount x2_open x2_openCount x2_seen z11 z12, gLd d h3 z13 z14 z15 z16 z17 z18 z19 z20 z21 x3_knownFree z22, gLd d h4 z23 x4_goodsCount x4_workCount x4_years z24 x4_goods x4_works z25 x4_coin z26 z27] 0 0 7 [(0, .ref (h0 0)), (1, .ref (h4 0)), (2, .int z2), (3, .int z3), (4, .int z4)] [] := by
    intro k
    induction k with
    | zero => intro z2 z3 z4 z5 z6 z7 z8 z9 z10 z11 z12 z13 z14 z15 z16 z17 z18 z19 z20 z21 z22 z23 z24 z25 z26 z27 h; cases h
    | succ k ih1 =>
      intro z2 z3 z4 z5 z6 z7 z8 z9 z10 z11 z12 z13 z14 z15 z16 z17 z18 z19 z20 z21 z22 z23 z24 z25 z26 z27 h
      obtain ⟨k2, rr1, hk2, hs1, hr1⟩ := lp_ok h
      cases hk2
      have hs1 : fX0_firstOf_s7 n x0_gained x1_left x1_earned x1_turnCost x1_turnWayless x2_steps x2_nodes x2_stepCount x2_open x2_openCount x2_seen x3_knownFree x4_goodsCount x4_workCount x4_years x4_goods x4_works x4_coin z2 z3 z4 z5 z6 z7 z8 z9 z10 z11 z12 z13 z14 z15 z16 z17 z18 z19 z20 z21 z22 z23 z24 z25 z26 z27 = some rr1 := hs1
      unfold fX0_firstOf_s7 at hs1
      refine J_iload hK qd0_14.2.2.2.2.2.2.1 rfl 4 rfl ?_
      refine J_aload_n hK qd0_14.2.2.2.2.2.2.2.1 rfl 1 rfl rfl ?_
      refine J_get hK fo_RX0_44 qd0_14.2.2.2.2.2.2.2.2.1 rfl 4 0 rfl rfl rfl ?_
      refine J_icmp_ge (tg := 56) hK qd0_14.2.2.2.2.2.2.2.2.2.1 rfl rfl (fun hc13 => ?_) (fun hc13 => ?_)
      · have hs1 := ip hc13 hs1
        exact J_loc [2] rfl (hx1_56 z2 z5 z6 z7 z8 z9 z10 z11 z12 z13 z14 z15 z16 z17 z18 z19 z20 z21 z22 z23 z24 z25 z26 z27 (lpx hs1 hr1))
      · have hs1 := iq hc13 hs1
        refine J_aload_n hK qd0_14.2.2.2.2.2.2.2.2.2.2.1 rfl 1 rfl rfl ?_
        refine J_iload hK qd0_14.2.2.2.2.2.2.2.2.2.2.2.1 rfl 4 rfl ?_
        obtain ⟨v53, e54, hs1⟩ := bs hs1
        refine J_callV (m := 5) (m' := 5) (ce' := 0) (sl' := 0) (gr := [gCh d h0 (h1 0) a0_after (h3 0) x0_gained, gTr d h1 (h2 0) x1_left x1_earned x1_turnCost x1_turnWayless, gWy d h2 z5 z6 z7 z8 z9 z10 x2_steps x2_nodes x2_stepCount x2_open x2_openCount x2_seen z11 z12, gLd d h3 z13 z14 z15 z16 z17 z18 z19 z20 z21 x3_knownFree z22]) (gs' := fun _ => [gCh d h0 (h1 0) a0_after (h3 0) x0_gained, gTr d h1 (h2 0) x1_left x1_earned x1_turnCost x1_turnWayless, gWy d h2 z5 z6 z7 z8 z9 z10 x2_steps x2_nodes x2_stepCount x2_open x2_openCount x2_seen z11 z12, gLd d h3 z13 z14 z15 z16 z17 z18 z19 z20 z21 x3_knownFree z22, gLd d h4 z23 x4_goodsCount x4_workCount x4_years z24 x4_goods x4_works z25 x4_coin z26 z27]) (st' := fun _ => [.int v53]) (st := []) hK qd0_14.2.2.2.2.2.2.2.2.2.2.2.2.1 cv_RX0_69 iv_yX1_isDone (As := [.int z4]) (kX1_isDone _ d h4 z23 x4_goodsCount x4_workCount x4_years z24 x4_goods x4_works z25 x4_coin z26 z27 z4 e54) rfl rfl (Nat.le_of_ble_eq_true rfl) (by decide) 4 0 rfl rfl rfl [4] [0, 1, 2, 3] rfl (by decide +kernel) rfl rfl [0, 1, 2, 3, 4] (by decide +kernel) (fun _ => rfl) (fun _ => rfl) rfl rfl rfl (fun _ => rfl) (fun _ => ?_)
        refine J_if_ne (tg := 50) hK qd0_14.2.2.2.2.2.2.2.2.2.2.2.2.2.1 rfl rfl (fun hc22 => ?_) (fun hc22 => ?_)
        · have hs1 := iq hc22 hs1
          refine J_iinc (L' := [(4, .int (z4 + 1)), (0, .ref (h0 0)), (1, .ref (h4 0)), (2, .int z2), (3, .int z3)]) (v := (z4 + 1)) hK qd0_15.2.2.2.2.2.2.2.2.2.2.2.2.1 rfl 4 rfl rfl (by decide) rfl ?_
          refine J_goto hK qd0_15.2.2.2.2.2.2.2.2.2.2.2.2.2.1 (n := 7) rfl ?_
          exact J_loc [1, 2, 3, 4, 0] rfl (ih1 z2 z3 (z4 + 1) z5 z6 z7 z8 z9 z10 z11 z12 z13 z14 z15 z16 z17 z18 z19 z20 z21 z22 z23 z24 z25 z26 z27 (lpc hs1 hr1))
        · have hs1 := ip hc22 hs1
          refine J_aload_n hK qd0_14.2.2.2.2.2.2.2.2.2.2.2.2.2.2.1 rfl 0 rfl rfl ?_
          refine J_aload_n hK qd0_14.2.2.2.2.2.2.2.2.2.2.2.2.2.2.2.1 rfl 1 rfl rfl ?_
          refine J_iload hK qd0_15.1 rfl 4 rfl ?_
          refine J_aload_n hK qd0_15.2.1 rfl 1 rfl rfl ?_
          refine J_get hK fo_RX0_63 qd0_15.2.2.1 rfl 4 0 rfl rfl rfl ?_
          obtain ⟨⟨v55, ⟨g57, g58, g59, g60, g61, g62, g63, g64⟩, ⟨g66, g67, g68, g69, g70, g71, g72, g73, g74, g75⟩, ⟨g77, g78, g79, g80, g81⟩⟩, e82, hs1⟩ := bs hs1
          have hs1 := un4 hs1
          have hs1 := un8 hs1
          have hs1 := un10 hs1
          have hs1 := un5 hs1
          refine J_callV (m := 5) (m' := 5) (ce' := 0) (sl' := 0) (gr := []) (gs' := fun _ => [gCh d h0 (h1 0) a0_after (h3 0) x0_gained, gTr d h1 (h2 0) x1_left x1_earned x1_turnCost x1_turnWayless, gWy d h2 g57 g58 g59 g60 g61 g62 x2_steps x2_nodes x2_stepCount x2_open x2_openCount x2_seen g63 g64, gLd d h3 g66 g67 g68 g69 g70 g71 g72 g73 g74 x3_knownFree g75, gLd d h4 g77 x4_goodsCount x4_workCount x4_years g78 x4_goods x4_works g79 x4_coin g80 g81]) (st' := fun _ => [.int v55]) (st := []) hK qd0_15.2.2.2.1 cv_RX0_80 iv_yX0_worthIn (As := [.ref (h4 0), .int z4, .int x4_years]) (kX0_worthIn _ d h0 a0_after h1 h2 h3 h4 n x0_gained x1_left x1_earned x1_turnCost x1_turnWayless z5 z6 z7 z8 z9 z10 x2_steps x2_nodes x2_stepCount x2_open x2_openCount x2_seen z11 z12 z13 z14 z15 z16 z17 z18 z19 z20 z21 x3_knownFree z22 z23 x4_goodsCount x4_workCount x4_years z24 x4_goods x4_works z25 x4_coin z26 z27 z4 x4_years e82) rfl rfl (Nat.le_of_ble_eq_true rfl) (by decide) 0 0 rfl rfl rfl [0, 1, 2, 3, 4] [] rfl (by decide +kernel) rfl rfl [0, 1, 2, 3, 4] (by decide +kernel) (fun _ => rfl) (fun _ => rfl) rfl rfl rfl (fun _ => rfl) (fun _ => ?_)
          refine J_istore (L' := [(5, .int v55), (0, .ref (h0 0)), (1, .ref (h4 0)), (2, .int z2), (3, .int z3), (4, .int z4)]) hK qd0_15.2.2.2.2.1 rfl (by decide) rfl ?_
          refine J_iload hK qd0_15.2.2.2.2.2.1 rfl 0 rfl ?_
          refine J_iload_n hK qd0_15.2.2.2.2.2.2.1 rfl 4 rfl rfl ?_
          refine J_icmp_le (tg := 50) hK qd0_15.2.2.2.2.2.2.2.1 rfl rfl (fun hc41 => ?_) (fun hc41 => ?_)
          · have hs1 := ip hc41 hs1
            refine J_iinc (L' := [(4, .int (z4 + 1)), (5, .int v55), (0, .ref (h0 0)), (1, .ref (h4 0)), (2, .int z2), (3, .int z3)]) (v := (z4 + 1)) hK qd0_15.2.2.2.2.2.2.2.2.2.2.2.2.1 rfl 5 rfl rfl (by decide) rfl ?_
            refine J_goto hK qd0_15.2.2.2.2.2.2.2.2.2.2.2.2.2.1 (n := 7) rfl ?_
            exact J_loc [2, 3, 4, 5, 0] rfl (ih1 z2 z3 (z4 + 1) g57 g58 g59 g60 g61 g62 g63 g64 g66 g67 g68 g69 g70 g71 g72 g73 g74 g75 g77 g78 g79 g80 g81 (lpc hs1 hr1))
          · have hs1 := iq hc41 hs1
            refine J_iload hK qd0_15.2.2.2.2.2.2.2.2.1 rfl 0 rfl ?_
            refine J_istore_n (L' := [(3, .int v55), (5, .int v55), (0, .ref (h0 0)), (1, .ref (h4 0)), (2, .int z2), (4, .int z4)]) hK qd0_15.2.2.2.2.2.2.2.2.2.1 rfl rfl (by decide) rfl ?_
            refine J_iload hK qd0_15.2.2.2.2.2.2.2.2.2.2.1 rfl 5 rfl ?_
            refine J_istore_n (L' := [(2, .int z4), (3, .int v55), (5, .int v55), (0, .ref (h0 0)), (1, .ref (h4 0)), (4, .int z4)]) hK qd0_15.2.2.2.2.2.2.2.2.2.2.2.1 rfl rfl (by decide) rfl ?_
            refine J_iinc (L' := [(4, .int (z4 + 1)), (2, .int z4), (3, .int v55), (5, .int v55), (0, .ref (h0 0)), (1, .ref (h4 0))]) (v := (z4 + 1)) hK qd0_15.2.2.2.2.2.2.2.2.2.2.2.2.1 rfl 5 rfl rfl (by decide) rfl ?_
            refine J_goto hK qd0_15.2.2.2.2.2.2.2.2.2.2.2.2.2.1 (n := 7) rfl ?_
            exact J_loc [4, 5, 1, 2, 0] rfl (ih1 z4 v55 (z4 + 1) g57 g58 g59 g60 g61 g62 g63 g64 g66 g67 g68 g69 g70 g71 g72 g73 g74 g75 g77 g78 g79 g80 g81 (lpc hs1 hr1))
  exact J_loc [3, 4, 2, 1, 0] rfl (lo1 n (-1) (0) (0) x2_edgeA x2_edgeB x2_edgeCost x2_edgeLine x2_change x2_away x2_edgeCount x2_aim x3_lineCount x3_goodsCount x3_workCount x3_years x3_lines x3_goods x3_works x3_change x3_coin x3_isKnown x4_lineCount x4_lines x4_change x4_knownFree x4_isKnown hl1)

def fX1_performForGood (X0 : LdT) (p1 : Int32) : Option ((Int32 × (Nat → Int32) × (Nat → Int32) × (Nat → Int32) × Int32)) :=
  u11 (fun (x0_lineCount : Int32) (x0_goodsCount : Int32) (x0_workCount : Int32) (x0_years : Int32) (x0_lines : (Nat → Int32)) (x0_goods : (Nat → Int32)) (x0_works : (Nat → Int32)) (x0_change : (Nat → Int32)) (x0_coin : (Nat → Int32)) (x0_knownFree : (Nat → Int32)) (x0_isKnown : Int32) => (fX1_hasWork (x0_lineCount, x0_goodsCount, x0_workCount, x0_years, x0_lines, x0_goods, x0_works, x0_change, x0_coin, x0_knownFree, x0_isKnown) p1).bind (fun v1 => if v1 = 0 then (some (x0_lineCount, x0_lines, x0_works, x0_change, x0_isKnown)) else ((fX1_perform (x0_lineCount, x0_goodsCount, x0_workCount, x0_years, x0_lines, x0_goods, x0_works, x0_change, x0_coin, x0_knownFree, x0_isKnown) p1).bind (u4 fun g3 g4 g5 g6 => (wr 35 x0_works ((p1 * 5) + 4) (1)).bind fun f8 => some (g3, g4, f8, g5, 0))))) X0
set_option maxHeartbeats 4000000 in
set_option maxRecDepth 100000 in
theorem kX1_performForGood (l : Launch) (d : DT) (h0 : Nat → Nat) (x0_lineCount : Int32) (x0_goodsCount : Int32) (x0_workCount : Int32) (x0_years : Int32) (x0_lines : (Nat → Int32)) (x0_goods : (Nat → Int32)) (x0_works : (Nat → Int32)) (x0_change : (Nat → Int32)) (x0_coin : (Nat → Int32)) (x0_knownFree : (Nat → Int32)) (x0_isKnown : Int32) (p1 : Int32)  {out : (Int32 × (Nat → Int32) × (Nat → Int32) × (Nat → Int32) × Int32)} (hf : fX1_performForGood (x0_lineCount, x0_goodsCount, x0_workCount, x0_years, x0_lines, x0_goods, x0_works, x0_change, x0_coin, x0_knownFree, x0_isKnown) p1 = some out) : Ct l d yX1_performForGood cX1_performForGood 2 none { frames := 3, cells := 0, slots := 0, locals := 66 } [.ref (h0 0), .int p1] [gLd d h0 x0_lineCount x0_goodsCount x0_workCount x0_years x0_lines x0_goods x0_works x0_change x0_coin x0_knownFree x0_isKnown] (fun _ : Unit => (none, [gLd d h0 (out.1) x0_goodsCount x0_workCount x0_years (out.2.1) x0_goods (out.2.2.1) (out.2.2.2.1) x0_coin x0_knownFree (out.2.2.2.2)])) := by
  refine Ct.of (by decide) (Nat.le_of_ble_eq_true rfl) ?_
  intro Φ hl hK hR
  subst hl
  have hK : Ok d Φ RX1 "performForGood" cX1_performForGood 2 none { frames := 3, cells := 0, slots := 0, locals := 66 } := hK
  unfold fX1_performForGood at hf
  have hf := un11 hf
  show J d Φ 2 [gLd d h0 x0_lineCount x0_goodsCount x0_workCount x0_years x0_lines x0_goods x0_works x0_change x0_coin x0_knownFree x0_isKnown] 0 0 0 [(0, .ref (h0 0)), (1, .int p1)] []
  refine J_aload_n hK qd0_91.1 rfl 0 rfl rfl ?_
  refine J_iload_n hK qd0_91.2.1 rfl 1 rfl rfl ?_
  obtain ⟨v1, e2, hf⟩ := bs hf
  refine J_callV (m := 1) (m' := 1) (ce' := 0) (sl' := 0) (gr := []) (gs' := fun _ => [gLd d h0 x0_lineCount x0_goodsCount x0_workCount x0_years x0_lines x0_goods x0_works x0_change x0_coin x0_knownFree x0_isKnown]) (st' := fun _ => [.int v1]) (st := []) hK qd0_91.2.2.1 cv_RX1_85 iv_yX1_hasWork (As := [.int p1]) (kX1_hasWork _ d h0 x0_lineCount x0_goodsCount x0_workCount x0_years x0_lines x0_goods x0_works x0_change x0_coin x0_knownFree x0_isKnown p1 e2) rfl rfl (Nat.le_of_ble_eq_true rfl) (by decide) 0 0 rfl rfl rfl [0] [] rfl (by decide +kernel) rfl rfl [0] (by decide +kernel) (fun _ => rfl) (fun _ => rfl) rfl rfl rfl (fun _ => rfl) (fun _ => ?_)
  refine J_if_eq (tg := 29) hK qd0_91.2.2.2.1 rfl rfl (fun hc5 => ?_) (fun hc5 => ?_)
  · have hf := ip hc5 hf
    obtain rfl := Option.some.inj hf
    exact J_vret hK hR qd0_92.2.2.2.1 () rfl (by decide) (by decide)
  · have hf := iq hc5 hf
    refine J_aload_n hK qd0_91.2.2.2.2.1 rfl 0 rfl rfl ?_
    refine J_iload_n hK qd0_91.2.2.2.2.2.1 rfl 1 rfl rfl ?_
    obtain ⟨⟨g3, g4, g5, g6⟩, e7, hf⟩ := bs hf
    have hf := un4 hf
    refine J_callV (m := 1) (m' := 1) (ce' := 0) (sl' := 0) (gr := []) (gs' := fun _ => [gLd d h0 g3 x0_goodsCount x0_workCount x0_years g4 x0_goods x0_works g5 x0_coin x0_knownFree g6]) (st' := fun _ => []) (st := []) hK qd0_91.2.2.2.2.2.2.1 cv_RX1_102 iv_yX1_perform (As := [.int p1]) (kX1_perform _ d h0 x0_lineCount x0_goodsCount x0_workCount x0_years x0_lines x0_goods x0_works x0_change x0_coin x0_knownFree x0_isKnown p1 e7) rfl rfl (Nat.le_of_ble_eq_true rfl) (by decide) 0 0 rfl rfl rfl [0] [] rfl (by decide +kernel) rfl rfl [0] (by decide +kernel) (fun _ => rfl) (fun _ => rfl) rfl rfl rfl (fun _ => rfl) (fun _ => ?_)
    refine J_aload_n hK qd0_91.2.2.2.2.2.2.2.1 rfl 0 rfl rfl ?_
    refine J_get hK fo_RX1_18 qd0_91.2.2.2.2.2.2.2.2.1 rfl 0 0 rfl rfl rfl ?_
    refine J_iload_n hK qd0_91.2.2.2.2.2.2.2.2.2.1 rfl 1 rfl rfl ?_
    refine J_iconst (v := 5) hK qd0_91.2.2.2.2.2.2.2.2.2.2.1 rfl (by decide) ?_
    refine J_imul hK qd0_91.2.2.2.2.2.2.2.2.2.2.2.1 rfl ?_
    refine J_iconst (v := 4) hK qd0_91.2.2.2.2.2.2.2.2.2.2.2.2.1 rfl (by decide) ?_
    refine J_iadd hK qd0_91.2.2.2.2.2.2.2.2.2.2.2.2.2.1 rfl ?_
    refine J_iconst (v := 1) hK qd0_91.2.2.2.2.2.2.2.2.2.2.2.2.2.2.1 rfl (by decide) ?_
    obtain ⟨f8, ef8, hf⟩ := bs hf
    refine J_iast (g' := gLd d h0 g3 x0_goodsCount x0_workCount x0_years g4 x0_goods f8 g5 x0_coin x0_knownFree g6) (gs' := [gLd d h0 g3 x0_goodsCount x0_workCount x0_years g4 x0_goods f8 g5 x0_coin x0_knownFree g6]) hK qd0_91.2.2.2.2.2.2.2.2.2.2.2.2.2.2.2.1 rfl 0 3 rfl rfl ef8 rfl rfl ?_
    refine J_aload_n hK qd0_92.1 rfl 0 rfl rfl ?_
    refine J_iconst (v := 0) hK qd0_92.2.1 rfl (by decide) ?_
    refine J_put (g' := gLd d h0 g3 x0_goodsCount x0_workCount x0_years g4 x0_goods f8 g5 x0_coin x0_knownFree (0)) (gs' := [gLd d h0 g3 x0_goodsCount x0_workCount x0_years g4 x0_goods f8 g5 x0_coin x0_knownFree (0)]) hK fp_RX1_43 qd0_92.2.2.1 rfl 0 0 rfl rfl rfl rfl (Nat.le_of_ble_eq_true rfl) rfl rfl ?_
    obtain rfl := Option.some.inj hf
    exact J_vret hK hR qd0_92.2.2.2.1 () rfl (by decide) (by decide)

def fX0_greedyOf_s22 (n : Nat) (x0_gained : (Nat → Int32)) (x2_left : (Nat → Int32)) (x2_earned : (Nat → Int32)) (x2_turnCost : Int32) (x2_turnWayless : Int32) (x3_steps : (Nat → Int32)) (x3_nodes : (Nat → Int32)) (x3_stepCount : Int32) (x3_open : (Nat → Int32)) (x3_openCount : Int32) (x3_seen : Int64) (x4_knownFree : (Nat → Int32)) (g3 : Int32) (g4 : Int32) (g5 : Int32) (g7 : (Nat → Int32)) (g10 : (Nat → Int32)) (z42 : Int32) (z43 : Int32) (z44 : Int32) (z45 : Int32) (z46 : (Nat → Int32)) (z47 : (Nat → Int32)) (z48 : (Nat → Int32)) (z49 : (Nat → Int32)) (z50 : Int32) (z51 : (Nat → Int32)) (z52 : (Nat → Int32)) (z53 : (Nat → Int32)) (z54 : (Nat → Int32)) (z55 : (Nat → Int32)) (z56 : (Nat → Int32)) (z57 : Int32) (z58 : Int32) (z59 : Int32) (z60 : Int32) (z61 : Int32) (z62 : Int32) (z63 : (Nat → Int32)) (z64 : (Nat → Int32)) (z65 : (Nat → Int32)) (z66 : (Nat → Int32)) (z67 : (Nat → Int32)) (z68 : Int32) : Option ((Int32 × Int32 × Int32 × Int32 × (Nat → Int32) × (Nat → Int32) × (Nat → Int32) × (Nat → Int32) × Int32 × (Nat → Int32) × (Nat → Int32) × (Nat → Int32) × (Nat → Int32) × (Nat → Int32) × (Nat → Int32) × Int32 × Int32 × Int32 × Int32 × Int32 × Int32 × (Nat → Int32) × (Nat → Int32) × (Nat → Int32) × (Nat → Int32) × (Nat → Int32) × Int32) ⊕ (Int32 × Int32 × (Nat → Int32) × (Nat → Int32) × (Nat → Int32) × (Nat → Int32) × Int32 × (Nat → Int32) × (Nat → Int32) × (Nat → Int32) × (Nat → Int32) × (Nat → Int32) × (Nat → Int32) × Int32 × Int32 × Int32 × Int32 × Int32 × Int32 × (Nat → Int32) × (Nat → Int32) × (Nat → Int32) × (Nat → Int32) × (Nat → Int32) × Int32)) :=
  if 7 ≤ z44 then (some (.inr (z42, z45, z46, z47, z48, z49, z50, z51, z52, z53, z54, z55, z56, z57, z58, z59, z60, z61, z62, z63, z64, z65, z66, z67, z68))) else (if z43 = (-1) then (some (.inr (z42, z45, z46, z47, z48, z49, z50, z51, z52, z53, z54, z55, z56, z57, z58, z59, z60, z61, z62, z63, z64, z65, z66, z67, z68))) else ((some (z42 ||| ((1 : Int32) <<< (z43 &&& 31)))).bind fun t95 => (fX1_performForGood (z45, g3, g4, g5, z46, g7, z47, z48, g10, z49, z50) z43).bind (fun G96 => u5 (fun g97 g98 g99 g100 g101 => (fX0_firstOf n x0_gained (x2_left, x2_earned, x2_turnCost, x2_turnWayless) (z51, z52, z53, z54, z55, z56, x3_steps, x3_nodes, x3_stepCount, x3_open, x3_openCount, x3_seen, z57, z58) (z59, z60, z61, z62, z63, z64, z65, z66, z67, x4_knownFree, z68) (g97, g3, g4, g5, g98, g7, g99, g100, g10, z49, g101)).bind (u4 fun v103 G104 G113 G124 => u8 (fun g105 g106 g107 g108 g109 g110 g111 g112 => u10 (fun g114 g115 g116 g117 g118 g119 g120 g121 g122 g123 => u5 (fun g125 g126 g127 g128 g129 => some (.inl (t95, v103, (z44 + 1), g125, g126, g99, g127, g128, g129, g105, g106, g107, g108, g109, g110, g111, g112, g114, g115, g116, g117, g118, g119, g120, g121, g122, g123))) G124) G113) G104)) G96)))
def fX0_greedyOf (n : Nat) (X0 : ChT) (X1 : LdT) (X2 : TrT) (X3 : WyT) (X4 : LdT) (X5 : LdT) : Option (Int32 × (Int32 × Int32 × Int32 × Int32 × (Nat → Int32) × (Nat → Int32) × (Nat → Int32) × (Nat → Int32) × (Nat → Int32) × (Nat → Int32) × Int32) × ((Nat → Int32) × (Nat → Int32) × (Nat → Int32) × (Nat → Int32) × (Nat → Int32) × (Nat → Int32) × Int32 × Int32) × (Int32 × Int32 × Int32 × Int32 × (Nat → Int32) × (Nat → Int32) × (Nat → Int32) × (Nat → Int32) × (Nat → Int32) × Int32)) :=
  (fun (x0_gained : (Nat → Int32)) => u11 (fun (x1_lineCount : Int32) (x1_goodsCount : Int32) (x1_workCount : Int32) (x1_years : Int32) (x1_lines : (Nat → Int32)) (x1_goods : (Nat → Int32)) (x1_works : (Nat → Int32)) (x1_change : (Nat → Int32)) (x1_coin : (Nat → Int32)) (x1_knownFree : (Nat → Int32)) (x1_isKnown : Int32) => u4 (fun (x2_left : (Nat → Int32)) (x2_earned : (Nat → Int32)) (x2_turnCost : Int32) (x2_turnWayless : Int32) => u14 (fun (x3_edgeA : (Nat → Int32)) (x3_edgeB : (Nat → Int32)) (x3_edgeCost : (Nat → Int32)) (x3_edgeLine : (Nat → Int32)) (x3_change : (Nat → Int32)) (x3_away : (Nat → Int32)) (x3_steps : (Nat → Int32)) (x3_nodes : (Nat → Int32)) (x3_stepCount : Int32) (x3_open : (Nat → Int32)) (x3_openCount : Int32) (x3_seen : Int64) (x3_edgeCount : Int32) (x3_aim : Int32) => u11 (fun (x4_lineCount : Int32) (x4_goodsCount : Int32) (x4_workCount : Int32) (x4_years : Int32) (x4_lines : (Nat → Int32)) (x4_goods : (Nat → Int32)) (x4_works : (Nat → Int32)) (x4_change : (Nat → Int32)) (x4_coin : (Nat → Int32)) (x4_knownFree : (Nat → Int32)) (x4_isKnown : Int32) => u11 (fun (x5_lineCount : Int32) (x5_goodsCount : Int32) (x5_workCount : Int32) (x5_years : Int32) (x5_lines : (Nat → Int32)) (x5_goods : (Nat → Int32)) (x5_works : (Nat → Int32)) (x5_change : (Nat → Int32)) (x5_coin : (Nat → Int32)) (x5_knownFree : (Nat → Int32)) (x5_isKnown : Int32) => (fX1_take (x1_lineCount, x1_goodsCount, x1_workCount, x1_years, x1_lines, x1_goods, x1_works, x1_change, x1_coin, x1_knownFree, x1_isKnown) (x5_lineCount, x5_goodsCount, x5_workCount, x5_years, x5_lines, x5_goods, x5_works, x5_change, x5_coin, x5_knownFree, x5_isKnown)).bind (fun G1 => u10 (fun g2 g3 g4 g5 g6 g7 g8 g9 g10 g11 => (fX0_firstOf n x0_gained (x2_left, x2_earned, x2_turnCost, x2_turnWayless) (x3_edgeA, x3_edgeB, x3_edgeCost, x3_edgeLine, x3_change, x3_away, x3_steps, x3_nodes, x3_stepCount, x3_open, x3_openCount, x3_seen, x3_edgeCount, x3_aim) (x4_lineCount, x4_goodsCount, x4_workCount, x4_years, x4_lines, x4_goods, x4_works, x4_change, x4_coin, x4_knownFree, x4_isKnown) (g2, g3, g4, g5, g6, g7, g8, g9, g10, x1_knownFree, g11)).bind (u4 fun v13 G14 G23 G34 => u8 (fun g15 g16 g17 g18 g19 g20 g21 g22 => u10 (fun g24 g25 g26 g27 g28 g29 g30 g31 g32 g33 => u5 (fun g35 g36 g37 g38 g39 => (lp (u27 (fX0_greedyOf_s22 n x0_gained x2_left x2_earned x2_turnCost x2_turnWayless x3_steps x3_nodes x3_stepCount x3_open x3_openCount x3_seen x4_knownFree g3 g4 g5 g7 g10)) n (0, v13, 0, g35, g36, g8, g37, g38, g39, g15, g16, g17, g18, g19, g20, g21, g22, g24, g25, g26, g27, g28, g29, g30, g31, g32, g33)).bind (u25 fun w70 w71 w72 w73 w74 w75 w76 w77 w78 w79 w80 w81 w82 w83 w84 w85 w86 w87 w88 w89 w90 w91 w92 w93 w94 => some (w70, (w71, g3, g4, g5, w72, g7, w73, w74, g10, w75, w76), (w77, w78, w79, w80, w81, w82, w83, w84), (w85, w86, w87, w88, w89, w90, w91, w92, w93, w94)))) G34) G23) G14)) G1)) X5) X4) X3) X2) X1) X0
set_option maxHeartbeats 4000000 in
set_option maxRecDepth 100000 in
theorem kX0_greedyOf (l : Launch) (d : DT) (h0 : Nat → Nat) (h1 : Nat → Nat) (h2 : Nat → Nat) (h3 : Nat → Nat) (h4 : Nat → Nat) (h5 : Nat → Nat) (n : Nat) (x0_gained : (Nat → Int32)) (x1_lineCount : Int32) (x1_goodsCount : Int32) (x1_workCount : Int32) (x1_years : Int32) (x1_lines : (Nat → Int32)) (x1_goods : (Nat → Int32)) (x1_works : (Nat → Int32)) (x1_change : (Nat → Int32)) (x1_coin : (Nat → Int32)) (x1_knownFree : (Nat → Int32)) (x1_isKnown : Int32) (x2_left : (Nat → Int32)) (x2_earned : (Nat → Int32)) (x2_turnCost : Int32) (x2_turnWayless : Int32) (x3_edgeA : (Nat → Int32)) (x3_edgeB : (Nat → Int32)) (x3_edgeCost : (Nat → Int32)) (x3_edgeLine : (Nat → Int32)) (x3_change : (Nat → Int32)) (x3_away : (Nat → Int32)) (x3_steps : (Nat → Int32)) (x3_nodes : (Nat → Int32)) (x3_stepCount : Int32) (x3_open : (Nat → Int32)) (x3_openCount : Int32) (x3_seen : Int64) (x3_edgeCount : Int32) (x3_aim : Int32) (x4_lineCount : Int32) (x4_goodsCount : Int32) (x4_workCount : Int32) (x4_years : Int32) (x4_lines : (Nat → Int32)) (x4_goods : (Nat → Int32)) (x4_works : (Nat → Int32)) (x4_change : (Nat → Int32)) (x4_coin : (Nat → Int32)) (x4_knownFree : (Nat → Int32)) (x4_isKnown : Int32) (x5_lineCount : Int32) (x5_goodsCount : Int32) (x5_workCount : Int32) (x5_years : Int32) (x5_lines : (Nat → Int32)) (x5_goods : (Nat → Int32)) (x5_works : (Nat → Int32)) (x5_change : (Nat → Int32)) (x5_coin : (Nat → Int32)) (x5_knownFree : (Nat → Int32)) (x5_isKnown : Int32)  {out : Int32 × (Int32 × Int32 × Int32 × Int32 × (Nat → Int32) × (Nat → Int32) × (Nat → Int32) × (Nat → Int32) × (Nat → Int32) × (Nat → Int32) × Int32) × ((Nat → Int32) × (Nat → Int32) × (Nat → Int32) × (Nat → Int32) × (Nat → Int32) × (Nat → Int32) × Int32 × Int32) × (Int32 × Int32 × Int32 × Int32 × (Nat → Int32) × (Nat → Int32) × (Nat → Int32) × (Nat → Int32) × (Nat → Int32) × Int32)} (hf : fX0_greedyOf n x0_gained (x1_lineCount, x1_goodsCount, x1_workCount, x1_years, x1_lines, x1_goods, x1_works, x1_change, x1_coin, x1_knownFree, x1_isKnown) (x2_left, x2_earned, x2_turnCost, x2_turnWayless) (x3_edgeA, x3_edgeB, x3_edgeCost, x3_edgeLine, x3_change, x3_away, x3_steps, x3_nodes, x3_stepCount, x3_open, x3_openCount, x3_seen, x3_edgeCount, x3_aim) (x4_lineCount, x4_goodsCount, x4_workCount, x4_years, x4_lines, x4_goods, x4_works, x4_change, x4_coin, x4_knownFree, x4_isKnown) (x5_lineCount, x5_goodsCount, x5_workCount, x5_years, x5_lines, x5_goods, x5_works, x5_change, x5_coin, x5_knownFree, x5_isKnown) = some out) : Ct l d yX0_greedyOf cX0_greedyOf 5 (some .int) { frames := 6, cells := 0, slots := 0, locals := 151 } [.ref (h0 0), .ref (h5 0)] [gCh d h0 (h2 0) (h1 0) (h4 0) x0_gained, gLd d h1 x1_lineCount x1_goodsCount x1_workCount x1_years x1_lines x1_goods x1_works x1_change x1_coin x1_knownFree x1_isKnown, gTr d h2 (h3 0) x2_left x2_earned x2_turnCost x2_turnWayless, gWy d h3 x3_edgeA x3_edgeB x3_edgeCost x3_edgeLine x3_change x3_away x3_steps x3_nodes x3_stepCount x3_open x3_openCount x3_seen x3_edgeCount x3_aim, gLd d h4 x4_lineCount x4_goodsCount x4_workCount x4_years x4_lines x4_goods x4_works x4_change x4_coin x4_knownFree x4_isKnown, gLd d h5 x5_lineCount x5_goodsCount x5_workCount x5_years x5_lines x5_goods x5_works x5_change x5_coin x5_knownFree x5_isKnown] (fun _ : Unit => (some (.int out.1), [gCh d h0 (h2 0) (h1 0) (h4 0) x0_gained, gLd d h1 (out.2.1.1) (out.2.1.2.1) (out.2.1.2.2.1) (out.2.1.2.2.2.1) (out.2.1.2.2.2.2.1) (out.2.1.2.2.2.2.2.1) (out.2.1.2.2.2.2.2.2.1) (out.2.1.2.2.2.2.2.2.2.1) (out.2.1.2.2.2.2.2.2.2.2.1) (out.2.1.2.2.2.2.2.2.2.2.2.1) (out.2.1.2.2.2.2.2.2.2.2.2.2), gTr d h2 (h3 0) x2_left x2_earned x2_turnCost x2_turnWayless, gWy d h3 (out.2.2.1.1) (out.2.2.1.2.1) (out.2.2.1.2.2.1) (out.2.2.1.2.2.2.1) (out.2.2.1.2.2.2.2.1) (out.2.2.1.2.2.2.2.2.1) x3_steps x3_nodes x3_stepCount x3_open x3_openCount x3_seen (out.2.2.1.2.2.2.2.2.2.1) (out.2.2.1.2.2.2.2.2.2.2), gLd d h4 (out.2.2.2.1) (out.2.2.2.2.1) (out.2.2.2.2.2.1) (out.2.2.2.2.2.2.1) (out.2.2.2.2.2.2.2.1) (out.2.2.2.2.2.2.2.2.1) (out.2.2.2.2.2.2.2.2.2.1) (out.2.2.2.2.2.2.2.2.2.2.1) (out.2.2.2.2.2.2.2.2.2.2.2.1) x4_knownFree (out.2.2.2.2.2.2.2.2.2.2.2.2), gLd d h5 x5_lineCount x5_goodsCount x5_workCount x5_years x5_lines x5_goods x5_works x5_change x5_coin x5_knownFree x5_isKnown])) := by
  refine Ct.of (by decide) (Nat.le_of_ble_eq_true rfl) ?_
  intro Φ hl hK hR
  subst hl
  have hK : Ok d Φ RX0 "greedyOf" cX0_greedyOf 5 (some .int) { frames := 6, cells := 0, slots := 0, locals := 151 } := hK
  unfold fX0_greedyOf at hf
  have hf := un11 hf
  have hf := un4 hf
  have hf := un14 hf
  have hf := un11 hf
  have hf := un11 hf
  show J d Φ 5 [gCh d h0 (h2 0) (h1 0) (h4 0) x0_gained, gLd d h1 x1_lineCount x1_goodsCount x1_workCount x1_years x1_lines x1_goods x1_works x1_change x1_coin x1_knownFree x1_isKnown, gTr d h2 (h3 0) x2_left x2_earned x2_turnCost x2_turnWayless, gWy d h3 x3_edgeA x3_edgeB x3_edgeCost x3_edgeLine x3_change x3_away x3_steps x3_nodes x3_stepCount x3_open x3_openCount x3_seen x3_edgeCount x3_aim, gLd d h4 x4_lineCount x4_goodsCount x4_workCount x4_years x4_lines x4_goods x4_works x4_change x4_coin x4_knownFree x4_isKnown, gLd d h5 x5_lineCount x5_goodsCount x5_workCount x5_years x5_lines x5_goods x5_works x5_change x5_coin x5_knownFree x5_isKnown] 0 0 0 [(0, .ref (h0 0)), (1, .ref (h5 0))] []
  refine J_aload_n hK qd0_16.1 rfl 0 rfl rfl ?_
  refine J_get hK fo_RX0_21 qd0_16.2.1 rfl 0 0 rfl rfl rfl ?_
  refine J_aload_n hK qd0_16.2.2.1 rfl 1 rfl rfl ?_
  obtain ⟨⟨g2, g3, g4, g5, g6, g7, g8, g9, g10, g11⟩, e12, hf⟩ := bs hf
  have hf := un10 hf
  refine J_callV (m := 6) (m' := 6) (ce' := 0) (sl' := 0) (gr := [gCh d h0 (h2 0) (h1 0) (h4 0) x0_gained, gTr d h2 (h3 0) x2_left x2_earned x2_turnCost x2_turnWayless, gWy d h3 x3_edgeA x3_edgeB x3_edgeCost x3_edgeLine x3_change x3_away x3_steps x3_nodes x3_stepCount x3_open x3_openCount x3_seen x3_edgeCount x3_aim, gLd d h4 x4_lineCount x4_goodsCount x4_workCount x4_years x4_lines x4_goods x4_works x4_change x4_coin x4_knownFree x4_isKnown]) (gs' := fun _ => [gCh d h0 (h2 0) (h1 0) (h4 0) x0_gained, gLd d h1 g2 g3 g4 g5 g6 g7 g8 g9 g10 x1_knownFree g11, gTr d h2 (h3 0) x2_left x2_earned x2_turnCost x2_turnWayless, gWy d h3 x3_edgeA x3_edgeB x3_edgeCost x3_edgeLine x3_change x3_away x3_steps x3_nodes x3_stepCount x3_open x3_openCount x3_seen x3_edgeCount x3_aim, gLd d h4 x4_lineCount x4_goodsCount x4_workCount x4_years x4_lines x4_goods x4_works x4_change x4_coin x4_knownFree x4_isKnown, gLd d h5 x5_lineCount x5_goodsCount x5_workCount x5_years x5_lines x5_goods x5_works x5_change x5_coin x5_knownFree x5_isKnown]) (st' := fun _ => []) (st := []) hK qd0_16.2.2.2.1 cv_RX0_40 iv_yX1_take (As := [.ref (h5 0)]) (kX1_take _ d h1 h5 x1_lineCount x1_goodsCount x1_workCount x1_years x1_lines x1_goods x1_works x1_change x1_coin x1_knownFree x1_isKnown x5_lineCount x5_goodsCount x5_workCount x5_years x5_lines x5_goods x5_works x5_change x5_coin x5_knownFree x5_isKnown e12) rfl rfl (Nat.le_of_ble_eq_true rfl) (by decide) 1 0 rfl rfl rfl [1, 5] [0, 2, 3, 4] rfl (by decide +kernel) rfl rfl [0, 4, 1, 2, 3, 5] (by decide +kernel) (fun _ => rfl) (fun _ => rfl) rfl rfl rfl (fun _ => rfl) (fun _ => ?_)
  refine J_iconst (v := 0) hK qd0_16.2.2.2.2.1 rfl (by decide) ?_
  refine J_istore_n (L' := [(2, .int (0)), (0, .ref (h0 0)), (1, .ref (h5 0))]) hK qd0_16.2.2.2.2.2.1 rfl rfl (by decide) rfl ?_
  refine J_aload_n hK qd0_16.2.2.2.2.2.2.1 rfl 1 rfl rfl ?_
  refine J_aload_n hK qd0_16.2.2.2.2.2.2.2.1 rfl 1 rfl rfl ?_
  refine J_get hK fo_RX0_21 qd0_16.2.2.2.2.2.2.2.2.1 rfl 0 0 rfl rfl rfl ?_
  obtain ⟨⟨v13, ⟨g15, g16, g17, g18, g19, g20, g21, g22⟩, ⟨g24, g25, g26, g27, g28, g29, g30, g31, g32, g33⟩, ⟨g35, g36, g37, g38, g39⟩⟩, e40, hf⟩ := bs hf
  have hf := un4 hf
  have hf := un8 hf
  have hf := un10 hf
  have hf := un5 hf
  refine J_callV (m := 6) (m' := 6) (ce' := 0) (sl' := 0) (gr := [gLd d h5 x5_lineCount x5_goodsCount x5_workCount x5_years x5_lines x5_goods x5_works x5_change x5_coin x5_knownFree x5_isKnown]) (gs' := fun _ => [gCh d h0 (h2 0) (h1 0) (h4 0) x0_gained, gLd d h1 g35 g3 g4 g5 g36 g7 g8 g37 g10 g38 g39, gTr d h2 (h3 0) x2_left x2_earned x2_turnCost x2_turnWayless, gWy d h3 g15 g16 g17 g18 g19 g20 x3_steps x3_nodes x3_stepCount x3_open x3_openCount x3_seen g21 g22, gLd d h4 g24 g25 g26 g27 g28 g29 g30 g31 g32 x4_knownFree g33, gLd d h5 x5_lineCount x5_goodsCount x5_workCount x5_years x5_lines x5_goods x5_works x5_change x5_coin x5_knownFree x5_isKnown]) (st' := fun _ => [.int v13]) (st := []) hK qd0_16.2.2.2.2.2.2.2.2.2.1 cv_RX0_84 iv_yX0_firstOf (As := [.ref (h1 0)]) (kX0_firstOf _ d h0 (h1 0) h2 h3 h4 h1 n x0_gained x2_left x2_earned x2_turnCost x2_turnWayless x3_edgeA x3_edgeB x3_edgeCost x3_edgeLine x3_change x3_away x3_steps x3_nodes x3_stepCount x3_open x3_openCount x3_seen x3_edgeCount x3_aim x4_lineCount x4_goodsCount x4_workCount x4_years x4_lines x4_goods x4_works x4_change x4_coin x4_knownFree x4_isKnown g2 g3 g4 g5 g6 g7 g8 g9 g10 x1_knownFree g11 e40) rfl rfl (Nat.le_of_ble_eq_true rfl) (by decide) 0 0 rfl rfl rfl [0, 2, 3, 4, 1] [5] rfl (by decide +kernel) rfl rfl [1, 5, 2, 3, 4, 0] (by decide +kernel) (fun _ => rfl) (fun _ => rfl) rfl rfl rfl (fun _ => rfl) (fun _ => ?_)
  refine J_istore_n (L' := [(3, .int v13), (2, .int (0)), (0, .ref (h0 0)), (1, .ref (h5 0))]) hK qd0_16.2.2.2.2.2.2.2.2.2.2.1 rfl rfl (by decide) rfl ?_
  refine J_iconst (v := 0) hK qd0_16.2.2.2.2.2.2.2.2.2.2.2.1 rfl (by decide) ?_
  refine J_istore (L' := [(4, .int (0)), (3, .int v13), (2, .int (0)), (0, .ref (h0 0)), (1, .ref (h5 0))]) hK qd0_16.2.2.2.2.2.2.2.2.2.2.2.2.1 rfl (by decide) rfl ?_
  obtain ⟨e69, hl41, hf⟩ := bs hf
  have hx41_63 : ∀ (w70 : Int32) (w71 : Int32) (w72 : (Nat → Int32)) (w73 : (Nat → Int32)) (w74 : (Nat → Int32)) (w75 : (Nat → Int32)) (w76 : Int32) (w77 : (Nat → Int32)) (w78 : (Nat → Int32)) (w79 : (Nat → Int32)) (w80 : (Nat → Int32)) (w81 : (Nat → Int32)) (w82 : (Nat → Int32)) (w83 : Int32) (w84 : Int32) (w85 : Int32) (w86 : Int32) (w87 : Int32) (w88 : Int32) (w89 : (Nat → Int32)) (w90 : (Nat → Int32)) (w91 : (Nat → Int32)) (w92 : (Nat → Int32)) (w93 : (Nat → Int32)) (w94 : Int32), (w70, w71, w72, w73, w74, w75, w76, w77, w78, w79, w80, w81, w82, w83, w84, w85, w86, w87, w88, w89, w90, w91, w92, w93, w94) = e69 → J d Φ 5 [gCh d h0 (h2 0) (h1 0) (h4 0) x0_gained, gLd d h1 w71 g3 g4 g5 w72 g7 w73 w74 g10 w75 w76, gTr d h2 (h3 0) x2_left x2_earned x2_turnCost x2_turnWayless, gWy d h3 w77 w78 w79 w80 w81 w82 x3_steps x3_nodes x3_stepCount x3_open x3_openCount x3_seen w83 w84, gLd d h4 w85 w86 w87 w88 w89 w90 w91 w92 w93 x4_knownFree w94, gLd d h5 x5_lineCount x5_goodsCount x5_workCount x5_years x5_lines x5_goods x5_works x5_change x5_coin x5_knownFree x5_isKnown] 0 0 63 [(2, .int w70)] [] := by
    intro w70 w71 w72 w73 w74 w75 w76 w77 w78 w79 w80 w81 w82 w83 w84 w85 w86 w87 w88 w89 w90 w91 w92 w93 w94 he
    rw [← he] at hf
    have hf := un25 hf
    refine J_iload_n hK qd0_18.2.2.2.2.1 rfl 0 rfl rfl ?_
    obtain rfl := Option.some.inj hf
    exact J_iret hK hR qd0_18.2.2.2.2.2.1 () rfl (by decide) (by decide)
  have lo41 : ∀ (k : Nat) (z42 : Int32) (z43 : Int32) (z44 : Int32) (z45 : Int32) (z46 : (Nat → Int32)) (z47 : (Nat → Int32)) (z48 : (Nat → Int32)) (z49 : (Nat → Int32)) (z50 : Int32) (z51 : (Nat → Int32)) (z52 : (Nat → Int32)) (z53 : (Nat → Int32)) (z54 : (Nat → Int32)) (z55 : (Nat → Int32)) (z56 : (Nat → Int32)) (z57 : Int32) (z58 : Int32) (z59 : Int32) (z60 : Int32) (z61 : Int32) (z62 : Int32) (z63 : (Nat → Int32)) (z64 : (Nat → Int32)) (z65 : (Nat → Int32)) (z66 : (Nat → Int32)) (z67 : (Nat → Int32)) (z68 : Int32), lp (u27 (fX0_greedyOf_s22 n x0_gained x2_left x2_earned x2_turnCost x2_turnWayless x3_steps x3_nodes x3_stepCount x3_open x3_openCount x3_seen x4_knownFree g3 g4 g5 g7 g10)) k (z42, z43, z44, z45, z46, z47, z48, z49, z50, z51, z52, z53, z54, z55, z56, z57, z58, z59, z60, z61, z62, z63, z64, z65, z66, z67, z68) = some e69 → J d Φ 5 [gCh d h0 (h2 0) (h1 0) (h4 0) x0_gained, gLd d h1 z45 g3 g4 g5 z46 g7 z47 z48 g10 z49 z50, gTr d h2 (h3 0) x2_left x2_earned x2_turnCost x2_turnWayless, gWy d h3 z51 z52 z53 z54 z55 z56 x3_steps x3_nodes x3_stepCount x3_open x3_openCount x3_seen z57 z58, gLd d h4 z59 z60 z61 z62 z63 z64 z65 z66 z67 x4_knownFree z68, gLd d h5 x5_lineCount x5_goodsCount x5_workCount x5_years x5_lines x5_goods x5_works x5_change x5_coin x5_knownFree x5_isKnown] 0 0 22 [(0, .ref (h0 0)), (2, .int z42), (3, .int z43), (4, .int z44)] [] := by
    intro k
    induction k with
    | zero => intro z42 z43 z44 z45 z46 z47 z48 z49 z50 z51 z52 z53 z54 z55 z56 z57 z58 z59 z60 z61 z62 z63 z64 z65 z66 z67 z68 h; cases h
    | succ k ih41 =>
      intro z42 z43 z44 z45 z46 z47 z48 z49 z50 z51 z52 z53 z54 z55 z56 z57 z58 z59 z60 z61 z62 z63 z64 z65 z66 z67 z68 h
      obtain ⟨k2, rr41, hk2, hs41, hr41⟩ := lp_ok h
      cases hk2
      have hs41 : fX0_greedyOf_s22 n x0_gained x2_left x2_earned x2_turnCost x2_turnWayless x3_steps x3_nodes x3_stepCount x3_open x3_openCount x3_seen x4_knownFree g3 g4 g5 g7 g10 z42 z43 z44 z45 z46 z47 z48 z49 z50 z51 z52 z53 z54 z55 z56 z57 z58 z59 z60 z61 z62 z63 z64 z65 z66 z67 z68 = some rr41 := hs41
      unfold fX0_greedyOf_s22 at hs41
      refine J_iload hK qd0_16.2.2.2.2.2.2.2.2.2.2.2.2.2.1 rfl 3 rfl ?_
      refine J_bipush (v := 7) hK qd0_16.2.2.2.2.2.2.2.2.2.2.2.2.2.2.1 rfl (by decide) ?_
      refine J_icmp_ge (tg := 63) hK qd0_16.2.2.2.2.2.2.2.2.2.2.2.2.2.2.2.1 rfl rfl (fun hc26 => ?_) (fun hc26 => ?_)
      · have hs41 := ip hc26 hs41
        exact J_loc [1] rfl (hx41_63 z42 z45 z46 z47 z48 z49 z50 z51 z52 z53 z54 z55 z56 z57 z58 z59 z60 z61 z62 z63 z64 z65 z66 z67 z68 (lpx hs41 hr41))
      · have hs41 := iq hc26 hs41
        refine J_iload_n hK qd0_17.1 rfl 2 rfl rfl ?_
        refine J_iconst (v := (-1)) hK qd0_17.2.1 rfl (by decide) ?_
        refine J_icmp_eq (tg := 63) hK qd0_17.2.2.1 rfl rfl (fun hc31 => ?_) (fun hc31 => ?_)
        · have hs41 := ip hc31 hs41
          exact J_loc [1] rfl (hx41_63 z42 z45 z46 z47 z48 z49 z50 z51 z52 z53 z54 z55 z56 z57 z58 z59 z60 z61 z62 z63 z64 z65 z66 z67 z68 (lpx hs41 hr41))
        · have hs41 := iq hc31 hs41
          refine J_iload_n hK qd0_17.2.2.2.1 rfl 1 rfl rfl ?_
          refine J_iconst (v := 1) hK qd0_17.2.2.2.2.1 rfl (by decide) ?_
          refine J_iload_n hK qd0_17.2.2.2.2.2.1 rfl 2 rfl rfl ?_
          refine J_ishl hK qd0_17.2.2.2.2.2.2.1 rfl ?_
          refine J_ior hK qd0_17.2.2.2.2.2.2.2.1 rfl ?_
          obtain ⟨t95, et95, hs41⟩ := bs hs41
          refine J_nmi et95 ?_
          refine J_istore_n (L' := [(2, .int t95), (0, .ref (h0 0)), (3, .int z43), (4, .int z44)]) hK qd0_17.2.2.2.2.2.2.2.2.1 rfl rfl (by decide) rfl ?_
          refine J_aload_n hK qd0_17.2.2.2.2.2.2.2.2.2.1 rfl 1 rfl rfl ?_
          refine J_get hK fo_RX0_21 qd0_17.2.2.2.2.2.2.2.2.2.2.1 rfl 0 0 rfl rfl rfl ?_
          refine J_iload_n hK qd0_17.2.2.2.2.2.2.2.2.2.2.2.1 rfl 2 rfl rfl ?_
          obtain ⟨⟨g97, g98, g99, g100, g101⟩, e102, hs41⟩ := bs hs41
          have hs41 := un5 hs41
          refine J_callV (m := 6) (m' := 6) (ce' := 0) (sl' := 0) (gr := [gCh d h0 (h2 0) (h1 0) (h4 0) x0_gained, gTr d h2 (h3 0) x2_left x2_earned x2_turnCost x2_turnWayless, gWy d h3 z51 z52 z53 z54 z55 z56 x3_steps x3_nodes x3_stepCount x3_open x3_openCount x3_seen z57 z58, gLd d h4 z59 z60 z61 z62 z63 z64 z65 z66 z67 x4_knownFree z68, gLd d h5 x5_lineCount x5_goodsCount x5_workCount x5_years x5_lines x5_goods x5_works x5_change x5_coin x5_knownFree x5_isKnown]) (gs' := fun _ => [gCh d h0 (h2 0) (h1 0) (h4 0) x0_gained, gLd d h1 g97 g3 g4 g5 g98 g7 g99 g100 g10 z49 g101, gTr d h2 (h3 0) x2_left x2_earned x2_turnCost x2_turnWayless, gWy d h3 z51 z52 z53 z54 z55 z56 x3_steps x3_nodes x3_stepCount x3_open x3_openCount x3_seen z57 z58, gLd d h4 z59 z60 z61 z62 z63 z64 z65 z66 z67 x4_knownFree z68, gLd d h5 x5_lineCount x5_goodsCount x5_workCount x5_years x5_lines x5_goods x5_works x5_change x5_coin x5_knownFree x5_isKnown]) (st' := fun _ => []) (st := []) hK qd0_17.2.2.2.2.2.2.2.2.2.2.2.2.1 cv_RX0_88 iv_yX1_performForGood (As := [.int z43]) (kX1_performForGood _ d h1 z45 g3 g4 g5 z46 g7 z47 z48 g10 z49 z50 z43 e102) rfl rfl (Nat.le_of_ble_eq_true rfl) (by decide) 1 0 rfl rfl rfl [1] [0, 2, 3, 4, 5] rfl (by decide +kernel) rfl rfl [0, 5, 1, 2, 3, 4] (by decide +kernel) (fun _ => rfl) (fun _ => rfl) rfl rfl rfl (fun _ => rfl) (fun _ => ?_)
          refine J_aload_n hK qd0_17.2.2.2.2.2.2.2.2.2.2.2.2.2.1 rfl 1 rfl rfl ?_
          refine J_aload_n hK qd0_17.2.2.2.2.2.2.2.2.2.2.2.2.2.2.1 rfl 1 rfl rfl ?_
          refine J_get hK fo_RX0_21 qd0_17.2.2.2.2.2.2.2.2.2.2.2.2.2.2.2.1 rfl 0 0 rfl rfl rfl ?_
          obtain ⟨⟨v103, ⟨g105, g106, g107, g108, g109, g110, g111, g112⟩, ⟨g114, g115, g116, g117, g118, g119, g120, g121, g122, g123⟩, ⟨g125, g126, g127, g128, g129⟩⟩, e130, hs41⟩ := bs hs41
          have hs41 := un4 hs41
          have hs41 := un8 hs41
          have hs41 := un10 hs41
          have hs41 := un5 hs41
          refine J_callV (m := 6) (m' := 6) (ce' := 0) (sl' := 0) (gr := [gLd d h5 x5_lineCount x5_goodsCount x5_workCount x5_years x5_lines x5_goods x5_works x5_change x5_coin x5_knownFree x5_isKnown]) (gs' := fun _ => [gCh d h0 (h2 0) (h1 0) (h4 0) x0_gained, gLd d h1 g125 g3 g4 g5 g126 g7 g99 g127 g10 g128 g129, gTr d h2 (h3 0) x2_left x2_earned x2_turnCost x2_turnWayless, gWy d h3 g105 g106 g107 g108 g109 g110 x3_steps x3_nodes x3_stepCount x3_open x3_openCount x3_seen g111 g112, gLd d h4 g114 g115 g116 g117 g118 g119 g120 g121 g122 x4_knownFree g123, gLd d h5 x5_lineCount x5_goodsCount x5_workCount x5_years x5_lines x5_goods x5_works x5_change x5_coin x5_knownFree x5_isKnown]) (st' := fun _ => [.int v103]) (st := []) hK qd0_18.1 cv_RX0_84 iv_yX0_firstOf (As := [.ref (h1 0)]) (kX0_firstOf _ d h0 (h1 0) h2 h3 h4 h1 n x0_gained x2_left x2_earned x2_turnCost x2_turnWayless z51 z52 z53 z54 z55 z56 x3_steps x3_nodes x3_stepCount x3_open x3_openCount x3_seen z57 z58 z59 z60 z61 z62 z63 z64 z65 z66 z67 x4_knownFree z68 g97 g3 g4 g5 g98 g7 g99 g100 g10 z49 g101 e130) rfl rfl (Nat.le_of_ble_eq_true rfl) (by decide) 0 0 rfl rfl rfl [0, 2, 3, 4, 1] [5] rfl (by decide +kernel) rfl rfl [1, 5, 2, 3, 4, 0] (by decide +kernel) (fun _ => rfl) (fun _ => rfl) rfl rfl rfl (fun _ => rfl) (fun _ => ?_)
          refine J_istore_n (L' := [(3, .int v103), (2, .int t95), (0, .ref (h0 0)), (4, .int z44)]) hK qd0_18.2.1 rfl rfl (by decide) rfl ?_
          refine J_iinc (L' := [(4, .int (z44 + 1)), (3, .int v103), (2, .int t95), (0, .ref (h0 0))]) (v := (z44 + 1)) hK qd0_18.2.2.1 rfl 3 rfl rfl (by decide) rfl ?_
          refine J_goto hK qd0_18.2.2.2.1 (n := 22) rfl ?_
          exact J_loc [3, 2, 1, 0] rfl (ih41 t95 v103 (z44 + 1) g125 g126 g99 g127 g128 g129 g105 g106 g107 g108 g109 g110 g111 g112 g114 g115 g116 g117 g118 g119 g120 g121 g122 g123 (lpc hs41 hr41))
  exact J_loc [3, 2, 1, 0] rfl (lo41 n (0) v13 (0) g35 g36 g8 g37 g38 g39 g15 g16 g17 g18 g19 g20 g21 g22 g24 g25 g26 g27 g28 g29 g30 g31 g32 g33 hl41)

def fX0_alwaysCostsMore_s12 (n : Nat) (p2 : Int32) (x0_gained : (Nat → Int32)) (x1_left : (Nat → Int32)) (x1_earned : (Nat → Int32)) (x1_turnCost : Int32) (x1_turnWayless : Int32) (x2_steps : (Nat → Int32)) (x2_nodes : (Nat → Int32)) (x2_stepCount : Int32) (x2_open : (Nat → Int32)) (x2_openCount : Int32) (x2_seen : Int64) (x3_knownFree : (Nat → Int32)) (x4_goodsCount : Int32) (x4_workCount : Int32) (x4_years : Int32) (x4_goods : (Nat → Int32)) (x4_works : (Nat → Int32)) (x4_coin : (Nat → Int32)) (t3 : Int32) (z5 : Int32) (z6 : (Nat → Int32)) (z7 : (Nat → Int32)) (z8 : (Nat → Int32)) (z9 : (Nat → Int32)) (z10 : (Nat → Int32)) (z11 : (Nat → Int32)) (z12 : Int32) (z13 : Int32) (z14 : Int32) (z15 : Int32) (z16 : Int32) (z17 : Int32) (z18 : (Nat → Int32)) (z19 : (Nat → Int32)) (z20 : (Nat → Int32)) (z21 : (Nat → Int32)) (z22 : (Nat → Int32)) (z23 : Int32) (z24 : Int32) (z25 : (Nat → Int32)) (z26 : (Nat → Int32)) (z27 : (Nat → Int32)) (z28 : Int32) : Option ((Int32 × (Nat → Int32) × (Nat → Int32) × (Nat → Int32) × (Nat → Int32) × (Nat → Int32) × (Nat → Int32) × Int32 × Int32 × Int32 × Int32 × Int32 × Int32 × (Nat → Int32) × (Nat → Int32) × (Nat → Int32) × (Nat → Int32) × (Nat → Int32) × Int32 × Int32 × (Nat → Int32) × (Nat → Int32) × (Nat → Int32) × Int32) ⊕ ((((Nat → Int32) × (Nat → Int32) × (Nat → Int32) × (Nat → Int32) × (Nat → Int32) × (Nat → Int32) × Int32 × Int32 × Int32 × Int32 × Int32 × Int32 × (Nat → Int32) × (Nat → Int32) × (Nat → Int32) × (Nat → Int32) × (Nat → Int32) × Int32 × Int32 × (Nat → Int32) × (Nat → Int32) × (Nat → Int32) × Int32) ⊕ ((Nat → Int32) × (Nat → Int32) × (Nat → Int32) × (Nat → Int32) × (Nat → Int32) × (Nat → Int32) × Int32 × Int32 × Int32 × Int32 × Int32 × Int32 × (Nat → Int32) × (Nat → Int32) × (Nat → Int32) × (Nat → Int32) × (Nat → Int32) × Int32 × Int32 × (Nat → Int32) × (Nat → Int32) × (Nat → Int32) × Int32)))) :=
  if ((1 : Int32) <<< (x4_workCount &&& 31)) ≤ z5 then (some (.inr (.inr (z6, z7, z8, z9, z10, z11, z12, z13, z14, z15, z16, z17, z18, z19, z20, z21, z22, z23, z24, z25, z26, z27, z28)))) else (if (z5 &&& t3) = 0 then ((fX0_totalOf n x0_gained (x1_left, x1_earned, x1_turnCost, x1_turnWayless) (z6, z7, z8, z9, z10, z11, x2_steps, x2_nodes, x2_stepCount, x2_open, x2_openCount, x2_seen, z12, z13) (z14, z15, z16, z17, z18, z19, z20, z21, z22, x3_knownFree, z23) (z24, x4_goodsCount, x4_workCount, x4_years, z25, x4_goods, x4_works, z26, x4_coin, z27, z28) (z5 ||| ((1 : Int32) <<< (p2 &&& 31)))).bind (u4 fun v76 G77 G86 G97 => u8 (fun g78 g79 g80 g81 g82 g83 g84 g85 => u10 (fun g87 g88 g89 g90 g91 g92 g93 g94 g95 g96 => u5 (fun g98 g99 g100 g101 g102 => (fX0_totalOf n x0_gained (x1_left, x1_earned, x1_turnCost, x1_turnWayless) (g78, g79, g80, g81, g82, g83, x2_steps, x2_nodes, x2_stepCount, x2_open, x2_openCount, x2_seen, g84, g85) (g87, g88, g89, g90, g91, g92, g93, g94, g95, x3_knownFree, g96) (g98, x4_goodsCount, x4_workCount, x4_years, g99, x4_goods, x4_works, g100, x4_coin, g101, g102) z5).bind (u4 fun v104 G105 G114 G125 => u8 (fun g106 g107 g108 g109 g110 g111 g112 g113 => u10 (fun g115 g116 g117 g118 g119 g120 g121 g122 g123 g124 => u5 (fun g126 g127 g128 g129 g130 => if v104 < v76 then (some (.inl ((z5 + 1), g106, g107, g108, g109, g110, g111, g112, g113, g115, g116, g117, g118, g119, g120, g121, g122, g123, g124, g126, g127, g128, g129, g130))) else (some (.inr (.inl (g106, g107, g108, g109, g110, g111, g112, g113, g115, g116, g117, g118, g119, g120, g121, g122, g123, g124, g126, g127, g128, g129, g130))))) G125) G114) G105)) G97) G86) G77)) else (some (.inl ((z5 + 1), z6, z7, z8, z9, z10, z11, z12, z13, z14, z15, z16, z17, z18, z19, z20, z21, z22, z23, z24, z25, z26, z27, z28))))
def fX0_alwaysCostsMore (n : Nat) (X0 : ChT) (X1 : TrT) (X2 : WyT) (X3 : LdT) (X4 : LdT) (p2 : Int32) : Option (Int32 × ((Nat → Int32) × (Nat → Int32) × (Nat → Int32) × (Nat → Int32) × (Nat → Int32) × (Nat → Int32) × Int32 × Int32) × (Int32 × Int32 × Int32 × Int32 × (Nat → Int32) × (Nat → Int32) × (Nat → Int32) × (Nat → Int32) × (Nat → Int32) × Int32) × (Int32 × (Nat → Int32) × (Nat → Int32) × (Nat → Int32) × Int32)) :=
  (fun (x0_gained : (Nat → Int32)) => u4 (fun (x1_left : (Nat → Int32)) (x1_earned : (Nat → Int32)) (x1_turnCost : Int32) (x1_turnWayless : Int32) => u14 (fun (x2_edgeA : (Nat → Int32)) (x2_edgeB : (Nat → Int32)) (x2_edgeCost : (Nat → Int32)) (x2_edgeLine : (Nat → Int32)) (x2_change : (Nat → Int32)) (x2_away : (Nat → Int32)) (x2_steps : (Nat → Int32)) (x2_nodes : (Nat → Int32)) (x2_stepCount : Int32) (x2_open : (Nat → Int32)) (x2_openCount : Int32) (x2_seen : Int64) (x2_edgeCount : Int32) (x2_aim : Int32) => u11 (fun (x3_lineCount : Int32) (x3_goodsCount : Int32) (x3_workCount : Int32) (x3_years : Int32) (x3_lines : (Nat → Int32)) (x3_goods : (Nat → Int32)) (x3_works : (Nat → Int32)) (x3_change : (Nat → Int32)) (x3_coin : (Nat → Int32)) (x3_knownFree : (Nat → Int32)) (x3_isKnown : Int32) => u11 (fun (x4_lineCount : Int32) (x4_goodsCount : Int32) (x4_workCount : Int32) (x4_years : Int32) (x4_lines : (Nat → Int32)) (x4_goods : (Nat → Int32)) (x4_works : (Nat → Int32)) (x4_change : (Nat → Int32)) (x4_coin : (Nat → Int32)) (x4_knownFree : (Nat → Int32)) (x4_isKnown : Int32) => (fX1_doneWorks n (x4_lineCount, x4_goodsCount, x4_workCount, x4_years, x4_lines, x4_goods, x4_works, x4_change, x4_coin, x4_knownFree, x4_isKnown)).bind (fun v1 => (some (v1 ||| ((1 : Int32) <<< (p2 &&& 31)))).bind fun t3 => (lp (u24 (fX0_alwaysCostsMore_s12 n p2 x0_gained x1_left x1_earned x1_turnCost x1_turnWayless x2_steps x2_nodes x2_stepCount x2_open x2_openCount x2_seen x3_knownFree x4_goodsCount x4_workCount x4_years x4_goods x4_works x4_coin t3)) n (0, x2_edgeA, x2_edgeB, x2_edgeCost, x2_edgeLine, x2_change, x2_away, x2_edgeCount, x2_aim, x3_lineCount, x3_goodsCount, x3_workCount, x3_years, x3_lines, x3_goods, x3_works, x3_change, x3_coin, x3_isKnown, x4_lineCount, x4_lines, x4_change, x4_knownFree, x4_isKnown)).bind (Sum.elim (u23 fun w30 w31 w32 w33 w34 w35 w36 w37 w38 w39 w40 w41 w42 w43 w44 w45 w46 w47 w48 w49 w50 w51 w52 => some (0, (w30, w31, w32, w33, w34, w35, w36, w37), (w38, w39, w40, w41, w42, w43, w44, w45, w46, w47), (w48, w49, w50, w51, w52))) (u23 fun w53 w54 w55 w56 w57 w58 w59 w60 w61 w62 w63 w64 w65 w66 w67 w68 w69 w70 w71 w72 w73 w74 w75 => some (1, (w53, w54, w55, w56, w57, w58, w59, w60), (w61, w62, w63, w64, w65, w66, w67, w68, w69, w70), (w71, w72, w73, w74, w75)))))) X4) X3) X2) X1) X0
set_option maxHeartbeats 4000000 in
set_option maxRecDepth 100000 in
theorem kX0_alwaysCostsMore (l : Launch) (d : DT) (h0 : Nat → Nat) (a0_after : Nat) (h1 : Nat → Nat) (h2 : Nat → Nat) (h3 : Nat → Nat) (h4 : Nat → Nat) (n : Nat) (x0_gained : (Nat → Int32)) (x1_left : (Nat → Int32)) (x1_earned : (Nat → Int32)) (x1_turnCost : Int32) (x1_turnWayless : Int32) (x2_edgeA : (Nat → Int32)) (x2_edgeB : (Nat → Int32)) (x2_edgeCost : (Nat → Int32)) (x2_edgeLine : (Nat → Int32)) (x2_change : (Nat → Int32)) (x2_away : (Nat → Int32)) (x2_steps : (Nat → Int32)) (x2_nodes : (Nat → Int32)) (x2_stepCount : Int32) (x2_open : (Nat → Int32)) (x2_openCount : Int32) (x2_seen : Int64) (x2_edgeCount : Int32) (x2_aim : Int32) (x3_lineCount : Int32) (x3_goodsCount : Int32) (x3_workCount : Int32) (x3_years : Int32) (x3_lines : (Nat → Int32)) (x3_goods : (Nat → Int32)) (x3_works : (Nat → Int32)) (x3_change : (Nat → Int32)) (x3_coin : (Nat → Int32)) (x3_knownFree : (Nat → Int32)) (x3_isKnown : Int32) (x4_lineCount : Int32) (x4_goodsCount : Int32) (x4_workCount : Int32) (x4_years : Int32) (x4_lines : (Nat → Int32)) (x4_goods : (Nat → Int32)) (x4_works : (Nat → Int32)) (x4_change : (Nat → Int32)) (x4_coin : (Nat → Int32)) (x4_knownFree : (Nat → Int32)) (x4_isKnown : Int32) (p2 : Int32)  {out : Int32 × ((Nat → Int32) × (Nat → Int32) × (Nat → Int32) × (Nat → Int32) × (Nat → Int32) × (Nat → Int32) × Int32 × Int32) × (Int32 × Int32 × Int32 × Int32 × (Nat → Int32) × (Nat → Int32) × (Nat → Int32) × (Nat → Int32) × (Nat → Int32) × Int32) × (Int32 × (Nat → Int32) × (Nat → Int32) × (Nat → Int32) × Int32)} (hf : fX0_alwaysCostsMore n x0_gained (x1_left, x1_earned, x1_turnCost, x1_turnWayless) (x2_edgeA, x2_edgeB, x2_edgeCost, x2_edgeLine, x2_change, x2_away, x2_steps, x2_nodes, x2_stepCount, x2_open, x2_openCount, x2_seen, x2_edgeCount, x2_aim) (x3_lineCount, x3_goodsCount, x3_workCount, x3_years, x3_lines, x3_goods, x3_works, x3_change, x3_coin, x3_knownFree, x3_isKnown) (x4_lineCount, x4_goodsCount, x4_workCount, x4_years, x4_lines, x4_goods, x4_works, x4_change, x4_coin, x4_knownFree, x4_isKnown) p2 = some out) : Ct l d yX0_alwaysCostsMore cX0_alwaysCostsMore 5 (some .boolean) { frames := 5, cells := 0, slots := 0, locals := 127 } [.ref (h0 0), .ref (h4 0), .int p2] [gCh d h0 (h1 0) a0_after (h3 0) x0_gained, gTr d h1 (h2 0) x1_left x1_earned x1_turnCost x1_turnWayless, gWy d h2 x2_edgeA x2_edgeB x2_edgeCost x2_edgeLine x2_change x2_away x2_steps x2_nodes x2_stepCount x2_open x2_openCount x2_seen x2_edgeCount x2_aim, gLd d h3 x3_lineCount x3_goodsCount x3_workCount x3_years x3_lines x3_goods x3_works x3_change x3_coin x3_knownFree x3_isKnown, gLd d h4 x4_lineCount x4_goodsCount x4_workCount x4_years x4_lines x4_goods x4_works x4_change x4_coin x4_knownFree x4_isKnown] (fun _ : Unit => (some (.int out.1), [gCh d h0 (h1 0) a0_after (h3 0) x0_gained, gTr d h1 (h2 0) x1_left x1_earned x1_turnCost x1_turnWayless, gWy d h2 (out.2.1.1) (out.2.1.2.1) (out.2.1.2.2.1) (out.2.1.2.2.2.1) (out.2.1.2.2.2.2.1) (out.2.1.2.2.2.2.2.1) x2_steps x2_nodes x2_stepCount x2_open x2_openCount x2_seen (out.2.1.2.2.2.2.2.2.1) (out.2.1.2.2.2.2.2.2.2), gLd d h3 (out.2.2.1.1) (out.2.2.1.2.1) (out.2.2.1.2.2.1) (out.2.2.1.2.2.2.1) (out.2.2.1.2.2.2.2.1) (out.2.2.1.2.2.2.2.2.1) (out.2.2.1.2.2.2.2.2.2.1) (out.2.2.1.2.2.2.2.2.2.2.1) (out.2.2.1.2.2.2.2.2.2.2.2.1) x3_knownFree (out.2.2.1.2.2.2.2.2.2.2.2.2), gLd d h4 (out.2.2.2.1) x4_goodsCount x4_workCount x4_years (out.2.2.2.2.1) x4_goods x4_works (out.2.2.2.2.2.1) x4_coin (out.2.2.2.2.2.2.1) (out.2.2.2.2.2.2.2)])) := by
  refine Ct.of (by decide) (Nat.le_of_ble_eq_true rfl) ?_
  intro Φ hl hK hR
  subst hl
  have hK : Ok d Φ RX0 "alwaysCostsMore" cX0_alwaysCostsMore 5 (some .boolean) { frames := 5, cells := 0, slots := 0, locals := 127 } := hK
  unfold fX0_alwaysCostsMore at hf
  have hf := un4 hf
  have hf := un14 hf
  have hf := un11 hf
  have hf := un11 hf
  show J d Φ 5 [gCh d h0 (h1 0) a0_after (h3 0) x0_gained, gTr d h1 (h2 0) x1_left x1_earned x1_turnCost x1_turnWayless, gWy d h2 x2_edgeA x2_edgeB x2_edgeCost x2_edgeLine x2_change x2_away x2_steps x2_nodes x2_stepCount x2_open x2_openCount x2_seen x2_edgeCount x2_aim, gLd d h3 x3_lineCount x3_goodsCount x3_workCount x3_years x3_lines x3_goods x3_works x3_change x3_coin x3_knownFree x3_isKnown, gLd d h4 x4_lineCount x4_goodsCount x4_workCount x4_years x4_lines x4_goods x4_works x4_change x4_coin x4_knownFree x4_isKnown] 0 0 0 [(0, .ref (h0 0)), (1, .ref (h4 0)), (2, .int p2)] []
  refine J_aload_n hK qd0_21.1 rfl 1 rfl rfl ?_
  obtain ⟨v1, e2, hf⟩ := bs hf
  refine J_callV (m := 5) (m' := 5) (ce' := 0) (sl' := 0) (gr := [gCh d h0 (h1 0) a0_after (h3 0) x0_gained, gTr d h1 (h2 0) x1_left x1_earned x1_turnCost x1_turnWayless, gWy d h2 x2_edgeA x2_edgeB x2_edgeCost x2_edgeLine x2_change x2_away x2_steps x2_nodes x2_stepCount x2_open x2_openCount x2_seen x2_edgeCount x2_aim, gLd d h3 x3_lineCount x3_goodsCount x3_workCount x3_years x3_lines x3_goods x3_works x3_change x3_coin x3_knownFree x3_isKnown]) (gs' := fun _ => [gCh d h0 (h1 0) a0_after (h3 0) x0_gained, gTr d h1 (h2 0) x1_left x1_earned x1_turnCost x1_turnWayless, gWy d h2 x2_edgeA x2_edgeB x2_edgeCost x2_edgeLine x2_change x2_away x2_steps x2_nodes x2_stepCount x2_open x2_openCount x2_seen x2_edgeCount x2_aim, gLd d h3 x3_lineCount x3_goodsCount x3_workCount x3_years x3_lines x3_goods x3_works x3_change x3_coin x3_knownFree x3_isKnown, gLd d h4 x4_lineCount x4_goodsCount x4_workCount x4_years x4_lines x4_goods x4_works x4_change x4_coin x4_knownFree x4_isKnown]) (st' := fun _ => [.int v1]) (st := []) hK qd0_21.2.1 cv_RX0_32 iv_yX1_doneWorks (As := []) (kX1_doneWorks _ d h4 n x4_lineCount x4_goodsCount x4_workCount x4_years x4_lines x4_goods x4_works x4_change x4_coin x4_knownFree x4_isKnown e2) rfl rfl (Nat.le_of_ble_eq_true rfl) (by decide) 4 0 rfl rfl rfl [4] [0, 1, 2, 3] rfl (by decide +kernel) rfl rfl [0, 1, 2, 3, 4] (by decide +kernel) (fun _ => rfl) (fun _ => rfl) rfl rfl rfl (fun _ => rfl) (fun _ => ?_)
  refine J_iconst (v := 1) hK qd0_21.2.2.1 rfl (by decide) ?_
  refine J_iload_n hK qd0_21.2.2.2.1 rfl 2 rfl rfl ?_
  refine J_ishl hK qd0_21.2.2.2.2.1 rfl ?_
  refine J_ior hK qd0_21.2.2.2.2.2.1 rfl ?_
  obtain ⟨t3, et3, hf⟩ := bs hf
  refine J_nmi et3 ?_
  refine J_istore_n (L' := [(3, .int t3), (0, .ref (h0 0)), (1, .ref (h4 0)), (2, .int p2)]) hK qd0_21.2.2.2.2.2.2.1 rfl rfl (by decide) rfl ?_
  refine J_iconst (v := 0) hK qd0_21.2.2.2.2.2.2.2.1 rfl (by decide) ?_
  refine J_istore (L' := [(4, .int (0)), (3, .int t3), (0, .ref (h0 0)), (1, .ref (h4 0)), (2, .int p2)]) hK qd0_21.2.2.2.2.2.2.2.2.1 rfl (by decide) rfl ?_
  obtain ⟨e29, hl4, hf⟩ := bs hf
  have hx4_51 : ∀ (w30 : (Nat → Int32)) (w31 : (Nat → Int32)) (w32 : (Nat → Int32)) (w33 : (Nat → Int32)) (w34 : (Nat → Int32)) (w35 : (Nat → Int32)) (w36 : Int32) (w37 : Int32) (w38 : Int32) (w39 : Int32) (w40 : Int32) (w41 : Int32) (w42 : (Nat → Int32)) (w43 : (Nat → Int32)) (w44 : (Nat → Int32)) (w45 : (Nat → Int32)) (w46 : (Nat → Int32)) (w47 : Int32) (w48 : Int32) (w49 : (Nat → Int32)) (w50 : (Nat → Int32)) (w51 : (Nat → Int32)) (w52 : Int32), (.inl (w30, w31, w32, w33, w34, w35, w36, w37, w38, w39, w40, w41, w42, w43, w44, w45, w46, w47, w48, w49, w50, w51, w52)) = e29 → J d Φ 5 [gCh d h0 (h1 0) a0_after (h3 0) x0_gained, gTr d h1 (h2 0) x1_left x1_earned x1_turnCost x1_turnWayless, gWy d h2 w30 w31 w32 w33 w34 w35 x2_steps x2_nodes x2_stepCount x2_open x2_openCount x2_seen w36 w37, gLd d h3 w38 w39 w40 w41 w42 w43 w44 w45 w46 x3_knownFree w47, gLd d h4 w48 x4_goodsCount x4_workCount x4_years w49 x4_goods x4_works w50 x4_coin w51 w52] 0 0 51 [] [] := by
    intro w30 w31 w32 w33 w34 w35 w36 w37 w38 w39 w40 w41 w42 w43 w44 w45 w46 w47 w48 w49 w50 w51 w52 he
    rw [← he] at hf
    simp only [Sum.elim_inl, Sum.elim_inr] at hf
    have hf := un23 hf
    refine J_iconst (v := 0) hK qd0_23.1 rfl (by decide) ?_
    obtain rfl := Option.some.inj hf
    exact J_zret hK hR qd0_23.2.1 () rfl rfl (by decide) (by decide)
  have hx4_59 : ∀ (w53 : (Nat → Int32)) (w54 : (Nat → Int32)) (w55 : (Nat → Int32)) (w56 : (Nat → Int32)) (w57 : (Nat → Int32)) (w58 : (Nat → Int32)) (w59 : Int32) (w60 : Int32) (w61 : Int32) (w62 : Int32) (w63 : Int32) (w64 : Int32) (w65 : (Nat → Int32)) (w66 : (Nat → Int32)) (w67 : (Nat → Int32)) (w68 : (Nat → Int32)) (w69 : (Nat → Int32)) (w70 : Int32) (w71 : Int32) (w72 : (Nat → Int32)) (w73 : (Nat → Int32)) (w74 : (Nat → Int32)) (w75 : Int32), (.inr (w53, w54, w55, w56, w57, w58, w59, w60, w61, w62, w63, w64, w65, w66, w67, w68, w69, w70, w71, w72, w73, w74, w75)) = e29 → J d Φ 5 [gCh d h0 (h1 0) a0_after (h3 0) x0_gained, gTr d h1 (h2 0) x1_left x1_earned x1_turnCost x1_turnWayless, gWy d h2 w53 w54 w55 w56 w57 w58 x2_steps x2_nodes x2_stepCount x2_open x2_openCount x2_seen w59 w60, gLd d h3 w61 w62 w63 w64 w65 w66 w67 w68 w69 x3_knownFree w70, gLd d h4 w71 x4_goodsCount x4_workCount x4_years w72 x4_goods x4_works w73 x4_coin w74 w75] 0 0 59 [] [] := by
    intro w53 w54 w55 w56 w57 w58 w59 w60 w61 w62 w63 w64 w65 w66 w67 w68 w69 w70 w71 w72 w73 w74 w75 he
    rw [← he] at hf
    simp only [Sum.elim_inl, Sum.elim_inr] at hf
    have hf := un23 hf
    refine J_iconst (v := 1) hK qd0_23.2.2.2.2.1 rfl (by decide) ?_
    obtain rfl := Option.some.inj hf
    exact J_zret hK hR qd0_23.2.2.2.2.2.1 () rfl rfl (by decide) (by decide)
  have lo4 : ∀ (k : Nat) (z5 : Int32) (z6 : (Nat → Int32)) (z7 : (Nat → Int32)) (z8 : (Nat → Int32)) (z9 : (Nat → Int32)) (z10 : (Nat → Int32)) (z11 : (Nat → Int32)) (z12 : Int32) (z13 : Int32) (z14 : Int32) (z15 : Int32) (z16 : Int32) (z17 : Int32) (z18 : (Nat → Int32)) (z19 : (Nat → Int32)) (z20 : (Nat → Int32)) (z21 : (Nat → Int32)) (z22 : (Nat → Int32)) (z23 : Int32) (z24 : Int32) (z25 : (Nat → Int32)) (z26 : (Nat → Int32)) (z27 : (Nat → Int32)) (z28 : Int32), lp (u24 (fX0_alwaysCostsMore_s12 n p2 x0_gained x1_left x1_earned x1_turnCost x1_turnWayless x2_steps x2_nodes x2_stepCount x2_open x2_openCount x2_seen x3_knownFree x4_goodsCount x4_workCount x4_years x4_goods x4_works x4_coin t3)) k (z5, z6, z7, z8, z9, z10, z11, z12, z13, z14, z15, z16, z17, z18, z19, z20, z21, z22, z23, z24, z25, z26, z27, z28) = some e29 → J d Φ 5 [gCh d h0 (h1 0) a0_after (h3 0) x0_gained, gTr d h1 (h2 0) x1_left x1_earned x1_turnCost x1_turnWayless, gWy d h2 z6 z7 z8 z9 z10 z11 x2_steps x2_nodes x2_stepCount x2_open x2_openCount x2_seen z12 z13, gLd d h3 z14 z15 z16 z17 z18 z19 z20 z21 z22 x3_knownFree z23, gLd d h4 z24 x4_goodsCount x4_workCount x4_years z25 x4_goods x4_works z26 x4_coin z27 z28] 0 0 12 [(0, .ref (h0 0)), (1, .ref (h4 0)), (2, .int p2), (3, .int t3), (4, .int z5)] [] := by
    intro k
    induction k with
    | zero => intro z5 z6 z7 z8 z9 z10 z11 z12 z13 z14 z15 z16 z17 z18 z19 z20 z21 z22 z23 z24 z25 z26 z27 z28 h; cases h
    | succ k ih4 =>
      intro z5 z6 z7 z8 z9 z10 z11 z12 z13 z14 z15 z16 z17 z18 z19 z20 z21 z22 z23 z24 z25 z26 z27 z28 h
      obtain ⟨k2, rr4, hk2, hs4, hr4⟩ := lp_ok h
      cases hk2
      have hs4 : fX0_alwaysCostsMore_s12 n p2 x0_gained x1_left x1_earned x1_turnCost x1_turnWayless x2_steps x2_nodes x2_stepCount x2_open x2_openCount x2_seen x3_knownFree x4_goodsCount x4_workCount x4_years x4_goods x4_works x4_coin t3 z5 z6 z7 z8 z9 z10 z11 z12 z13 z14 z15 z16 z17 z18 z19 z20 z21 z22 z23 z24 z25 z26 z27 z28 = some rr4 := hs4
      unfold fX0_alwaysCostsMore_s12 at hs4
      refine J_iload hK qd0_21.2.2.2.2.2.2.2.2.2.1 rfl 4 rfl ?_
      refine J_iconst (v := 1) hK qd0_21.2.2.2.2.2.2.2.2.2.2.1 rfl (by decide) ?_
      refine J_aload_n hK qd0_21.2.2.2.2.2.2.2.2.2.2.2.1 rfl 1 rfl rfl ?_
      refine J_get hK fo_RX0_44 qd0_21.2.2.2.2.2.2.2.2.2.2.2.2.1 rfl 4 0 rfl rfl rfl ?_
      refine J_ishl hK qd0_21.2.2.2.2.2.2.2.2.2.2.2.2.2.1 rfl ?_
      refine J_icmp_ge (tg := 59) hK qd0_21.2.2.2.2.2.2.2.2.2.2.2.2.2.2.1 rfl rfl (fun hc20 => ?_) (fun hc20 => ?_)
      · have hs4 := ip hc20 hs4
        exact J_loc [] rfl (hx4_59 z6 z7 z8 z9 z10 z11 z12 z13 z14 z15 z16 z17 z18 z19 z20 z21 z22 z23 z24 z25 z26 z27 z28 (lpx hs4 hr4))
      · have hs4 := iq hc20 hs4
        refine J_iload hK qd0_21.2.2.2.2.2.2.2.2.2.2.2.2.2.2.2.1 rfl 4 rfl ?_
        refine J_iload_n hK qd0_22.1 rfl 3 rfl rfl ?_
        refine J_iand hK qd0_22.2.1 rfl ?_
        refine J_if_ne (tg := 53) hK qd0_22.2.2.1 rfl rfl (fun hc27 => ?_) (fun hc27 => ?_)
        · have hs4 := iq hc27 hs4
          refine J_iinc (L' := [(4, .int (z5 + 1)), (0, .ref (h0 0)), (1, .ref (h4 0)), (2, .int p2), (3, .int t3)]) (v := (z5 + 1)) hK qd0_23.2.2.1 rfl 4 rfl rfl (by decide) rfl ?_
          refine J_goto hK qd0_23.2.2.2.1 (n := 12) rfl ?_
          exact J_loc [1, 2, 3, 4, 0] rfl (ih4 (z5 + 1) z6 z7 z8 z9 z10 z11 z12 z13 z14 z15 z16 z17 z18 z19 z20 z21 z22 z23 z24 z25 z26 z27 z28 (lpc hs4 hr4))
        · have hs4 := ip hc27 hs4
          refine J_aload_n hK qd0_22.2.2.2.1 rfl 0 rfl rfl ?_
          refine J_aload_n hK qd0_22.2.2.2.2.1 rfl 1 rfl rfl ?_
          refine J_iload hK qd0_22.2.2.2.2.2.1 rfl 4 rfl ?_
          refine J_iconst (v := 1) hK qd0_22.2.2.2.2.2.2.1 rfl (by decide) ?_
          refine J_iload_n hK qd0_22.2.2.2.2.2.2.2.1 rfl 2 rfl rfl ?_
          refine J_ishl hK qd0_22.2.2.2.2.2.2.2.2.1 rfl ?_
          refine J_ior hK qd0_22.2.2.2.2.2.2.2.2.2.1 rfl ?_
          obtain ⟨⟨v76, ⟨g78, g79, g80, g81, g82, g83, g84, g85⟩, ⟨g87, g88, g89, g90, g91, g92, g93, g94, g95, g96⟩, ⟨g98, g99, g100, g101, g102⟩⟩, e103, hs4⟩ := bs hs4
          have hs4 := un4 hs4
          have hs4 := un8 hs4
          have hs4 := un10 hs4
          have hs4 := un5 hs4
          refine J_callV (m := 5) (m' := 5) (ce' := 0) (sl' := 0) (gr := []) (gs' := fun _ => [gCh d h0 (h1 0) a0_after (h3 0) x0_gained, gTr d h1 (h2 0) x1_left x1_earned x1_turnCost x1_turnWayless, gWy d h2 g78 g79 g80 g81 g82 g83 x2_steps x2_nodes x2_stepCount x2_open x2_openCount x2_seen g84 g85, gLd d h3 g87 g88 g89 g90 g91 g92 g93 g94 g95 x3_knownFree g96, gLd d h4 g98 x4_goodsCount x4_workCount x4_years g99 x4_goods x4_works g100 x4_coin g101 g102]) (st' := fun _ => [.int v76]) (st := []) hK qd0_22.2.2.2.2.2.2.2.2.2.2.1 cv_RX0_77 iv_yX0_totalOf (As := [.ref (h4 0), .int (z5 ||| ((1 : Int32) <<< (p2 &&& 31)))]) (kX0_totalOf _ d h0 a0_after h1 h2 h3 h4 n x0_gained x1_left x1_earned x1_turnCost x1_turnWayless z6 z7 z8 z9 z10 z11 x2_steps x2_nodes x2_stepCount x2_open x2_openCount x2_seen z12 z13 z14 z15 z16 z17 z18 z19 z20 z21 z22 x3_knownFree z23 z24 x4_goodsCount x4_workCount x4_years z25 x4_goods x4_works z26 x4_coin z27 z28 (z5 ||| ((1 : Int32) <<< (p2 &&& 31))) e103) rfl rfl (Nat.le_of_ble_eq_true rfl) (by decide) 0 0 rfl rfl rfl [0, 1, 2, 3, 4] [] rfl (by decide +kernel) rfl rfl [0, 1, 2, 3, 4] (by decide +kernel) (fun _ => rfl) (fun _ => rfl) rfl rfl rfl (fun _ => rfl) (fun _ => ?_)
          refine J_aload_n hK qd0_22.2.2.2.2.2.2.2.2.2.2.2.1 rfl 0 rfl rfl ?_
          refine J_aload_n hK qd0_22.2.2.2.2.2.2.2.2.2.2.2.2.1 rfl 1 rfl rfl ?_
          refine J_iload hK qd0_22.2.2.2.2.2.2.2.2.2.2.2.2.2.1 rfl 4 rfl ?_
          obtain ⟨⟨v104, ⟨g106, g107, g108, g109, g110, g111, g112, g113⟩, ⟨g115, g116, g117, g118, g119, g120, g121, g122, g123, g124⟩, ⟨g126, g127, g128, g129, g130⟩⟩, e131, hs4⟩ := bs hs4
          have hs4 := un4 hs4
          have hs4 := un8 hs4
          have hs4 := un10 hs4
          have hs4 := un5 hs4
          refine J_callV (m := 5) (m' := 5) (ce' := 0) (sl' := 0) (gr := []) (gs' := fun _ => [gCh d h0 (h1 0) a0_after (h3 0) x0_gained, gTr d h1 (h2 0) x1_left x1_earned x1_turnCost x1_turnWayless, gWy d h2 g106 g107 g108 g109 g110 g111 x2_steps x2_nodes x2_stepCount x2_open x2_openCount x2_seen g112 g113, gLd d h3 g115 g116 g117 g118 g119 g120 g121 g122 g123 x3_knownFree g124, gLd d h4 g126 x4_goodsCount x4_workCount x4_years g127 x4_goods x4_works g128 x4_coin g129 g130]) (st' := fun _ => [.int v104, .int v76]) (st := [.int v76]) hK qd0_22.2.2.2.2.2.2.2.2.2.2.2.2.2.2.1 cv_RX0_77 iv_yX0_totalOf (As := [.ref (h4 0), .int z5]) (kX0_totalOf _ d h0 a0_after h1 h2 h3 h4 n x0_gained x1_left x1_earned x1_turnCost x1_turnWayless g78 g79 g80 g81 g82 g83 x2_steps x2_nodes x2_stepCount x2_open x2_openCount x2_seen g84 g85 g87 g88 g89 g90 g91 g92 g93 g94 g95 x3_knownFree g96 g98 x4_goodsCount x4_workCount x4_years g99 x4_goods x4_works g100 x4_coin g101 g102 z5 e131) rfl rfl (Nat.le_of_ble_eq_true rfl) (by decide) 0 0 rfl rfl rfl [0, 1, 2, 3, 4] [] rfl (by decide +kernel) rfl rfl [0, 1, 2, 3, 4] (by decide +kernel) (fun _ => rfl) (fun _ => rfl) rfl rfl rfl (fun _ => rfl) (fun _ => ?_)
          refine J_icmp_gt (tg := 53) hK qd0_22.2.2.2.2.2.2.2.2.2.2.2.2.2.2.2.1 rfl rfl (fun hc48 => ?_) (fun hc48 => ?_)
          · have hs4 := ip hc48 hs4
            refine J_iinc (L' := [(4, .int (z5 + 1)), (0, .ref (h0 0)), (1, .ref (h4 0)), (2, .int p2), (3, .int t3)]) (v := (z5 + 1)) hK qd0_23.2.2.1 rfl 4 rfl rfl (by decide) rfl ?_
            refine J_goto hK qd0_23.2.2.2.1 (n := 12) rfl ?_
            exact J_loc [1, 2, 3, 4, 0] rfl (ih4 (z5 + 1) g106 g107 g108 g109 g110 g111 g112 g113 g115 g116 g117 g118 g119 g120 g121 g122 g123 g124 g126 g127 g128 g129 g130 (lpc hs4 hr4))
          · have hs4 := iq hc48 hs4
            exact J_loc [] rfl (hx4_51 g106 g107 g108 g109 g110 g111 g112 g113 g115 g116 g117 g118 g119 g120 g121 g122 g123 g124 g126 g127 g128 g129 g130 (lpx hs4 hr4))
  exact J_loc [2, 3, 4, 1, 0] rfl (lo4 n (0) x2_edgeA x2_edgeB x2_edgeCost x2_edgeLine x2_change x2_away x2_edgeCount x2_aim x3_lineCount x3_goodsCount x3_workCount x3_years x3_lines x3_goods x3_works x3_change x3_coin x3_isKnown x4_lineCount x4_lines x4_change x4_knownFree x4_isKnown hl4)

def fX0_neverOf_s4 (n : Nat) (x0_gained : (Nat → Int32)) (x1_left : (Nat → Int32)) (x1_earned : (Nat → Int32)) (x1_turnCost : Int32) (x1_turnWayless : Int32) (x2_steps : (Nat → Int32)) (x2_nodes : (Nat → Int32)) (x2_stepCount : Int32) (x2_open : (Nat → Int32)) (x2_openCount : Int32) (x2_seen : Int64) (x3_knownFree : (Nat → Int32)) (x4_goodsCount : Int32) (x4_workCount : Int32) (x4_years : Int32) (x4_goods : (Nat → Int32)) (x4_works : (Nat → Int32)) (x4_coin : (Nat → Int32)) (z2 : Int32) (z3 : Int32) (z4 : (Nat → Int32)) (z5 : (Nat → Int32)) (z6 : (Nat → Int32)) (z7 : (Nat → Int32)) (z8 : (Nat → Int32)) (z9 : (Nat → Int32)) (z10 : Int32) (z11 : Int32) (z12 : Int32) (z13 : Int32) (z14 : Int32) (z15 : Int32) (z16 : (Nat → Int32)) (z17 : (Nat → Int32)) (z18 : (Nat → Int32)) (z19 : (Nat → Int32)) (z20 : (Nat → Int32)) (z21 : Int32) (z22 : Int32) (z23 : (Nat → Int32)) (z24 : (Nat → Int32)) (z25 : (Nat → Int32)) (z26 : Int32) : Option ((Int32 × Int32 × (Nat → Int32) × (Nat → Int32) × (Nat → Int32) × (Nat → Int32) × (Nat → Int32) × (Nat → Int32) × Int32 × Int32 × Int32 × Int32 × Int32 × Int32 × (Nat → Int32) × (Nat → Int32) × (Nat → Int32) × (Nat → Int32) × (Nat → Int32) × Int32 × Int32 × (Nat → Int32) × (Nat → Int32) × (Nat → Int32) × Int32) ⊕ (Int32 × (Nat → Int32) × (Nat → Int32) × (Nat → Int32) × (Nat → Int32) × (Nat → Int32) × (Nat → Int32) × Int32 × Int32 × Int32 × Int32 × Int32 × Int32 × (Nat → Int32) × (Nat → Int32) × (Nat → Int32) × (Nat → Int32) × (Nat → Int32) × Int32 × Int32 × (Nat → Int32) × (Nat → Int32) × (Nat → Int32) × Int32)) :=
  if x4_workCount ≤ z3 then (some (.inr (z2, z4, z5, z6, z7, z8, z9, z10, z11, z12, z13, z14, z15, z16, z17, z18, z19, z20, z21, z22, z23, z24, z25, z26))) else ((fX1_isDone (z22, x4_goodsCount, x4_workCount, x4_years, z23, x4_goods, x4_works, z24, x4_coin, z25, z26) z3).bind (fun v52 => if v52 = 0 then ((fX0_alwaysCostsMore n x0_gained (x1_left, x1_earned, x1_turnCost, x1_turnWayless) (z4, z5, z6, z7, z8, z9, x2_steps, x2_nodes, x2_stepCount, x2_open, x2_openCount, x2_seen, z10, z11) (z12, z13, z14, z15, z16, z17, z18, z19, z20, x3_knownFree, z21) (z22, x4_goodsCount, x4_workCount, x4_years, z23, x4_goods, x4_works, z24, x4_coin, z25, z26) z3).bind (u4 fun v54 G55 G64 G75 => u8 (fun g56 g57 g58 g59 g60 g61 g62 g63 => u10 (fun g65 g66 g67 g68 g69 g70 g71 g72 g73 g74 => u5 (fun g76 g77 g78 g79 g80 => if v54 = 0 then (some (.inl (z2, (z3 + 1), g56, g57, g58, g59, g60, g61, g62, g63, g65, g66, g67, g68, g69, g70, g71, g72, g73, g74, g76, g77, g78, g79, g80))) else ((some (z2 ||| ((1 : Int32) <<< (z3 &&& 31)))).bind fun t82 => some (.inl (t82, (z3 + 1), g56, g57, g58, g59, g60, g61, g62, g63, g65, g66, g67, g68, g69, g70, g71, g72, g73, g74, g76, g77, g78, g79, g80)))) G75) G64) G55)) else (some (.inl (z2, (z3 + 1), z4, z5, z6, z7, z8, z9, z10, z11, z12, z13, z14, z15, z16, z17, z18, z19, z20, z21, z22, z23, z24, z25, z26)))))
def fX0_neverOf (n : Nat) (X0 : ChT) (X1 : TrT) (X2 : WyT) (X3 : LdT) (X4 : LdT) : Option (Int32 × ((Nat → Int32) × (Nat → Int32) × (Nat → Int32) × (Nat → Int32) × (Nat → Int32) × (Nat → Int32) × Int32 × Int32) × (Int32 × Int32 × Int32 × Int32 × (Nat → Int32) × (Nat → Int32) × (Nat → Int32) × (Nat → Int32) × (Nat → Int32) × Int32) × (Int32 × (Nat → Int32) × (Nat → Int32) × (Nat → Int32) × Int32)) :=
  (fun (x0_gained : (Nat → Int32)) => u4 (fun (x1_left : (Nat → Int32)) (x1_earned : (Nat → Int32)) (x1_turnCost : Int32) (x1_turnWayless : Int32) => u14 (fun (x2_edgeA : (Nat → Int32)) (x2_edgeB : (Nat → Int32)) (x2_edgeCost : (Nat → Int32)) (x2_edgeLine : (Nat → Int32)) (x2_change : (Nat → Int32)) (x2_away : (Nat → Int32)) (x2_steps : (Nat → Int32)) (x2_nodes : (Nat → Int32)) (x2_stepCount : Int32) (x2_open : (Nat → Int32)) (x2_openCount : Int32) (x2_seen : Int64) (x2_edgeCount : Int32) (x2_aim : Int32) => u11 (fun (x3_lineCount : Int32) (x3_goodsCount : Int32) (x3_workCount : Int32) (x3_years : Int32) (x3_lines : (Nat → Int32)) (x3_goods : (Nat → Int32)) (x3_works : (Nat → Int32)) (x3_change : (Nat → Int32)) (x3_coin : (Nat → Int32)) (x3_knownFree : (Nat → Int32)) (x3_isKnown : Int32) => u11 (fun (x4_lineCount : Int32) (x4_goodsCount : Int32) (x4_workCount : Int32) (x4_years : Int32) (x4_lines : (Nat → Int32)) (x4_goods : (Nat → Int32)) (x4_works : (Nat → Int32)) (x4_change : (Nat → Int32)) (x4_coin : (Nat → Int32)) (x4_knownFree : (Nat → Int32)) (x4_isKnown : Int32) => (lp (u25 (fX0_neverOf_s4 n x0_gained x1_left x1_earned x1_turnCost x1_turnWayless x2_steps x2_nodes x2_stepCount x2_open x2_openCount x2_seen x3_knownFree x4_goodsCount x4_workCount x4_years x4_goods x4_works x4_coin)) n (0, 0, x2_edgeA, x2_edgeB, x2_edgeCost, x2_edgeLine, x2_change, x2_away, x2_edgeCount, x2_aim, x3_lineCount, x3_goodsCount, x3_workCount, x3_years, x3_lines, x3_goods, x3_works, x3_change, x3_coin, x3_isKnown, x4_lineCount, x4_lines, x4_change, x4_knownFree, x4_isKnown)).bind (u24 fun w28 w29 w30 w31 w32 w33 w34 w35 w36 w37 w38 w39 w40 w41 w42 w43 w44 w45 w46 w47 w48 w49 w50 w51 => some (w28, (w29, w30, w31, w32, w33, w34, w35, w36), (w37, w38, w39, w40, w41, w42, w43, w44, w45, w46), (w47, w48, w49, w50, w51)))) X4) X3) X2) X1) X0
set_option maxHeartbeats 4000000 in
set_option maxRecDepth 100000 in
theorem kX0_neverOf (l : Launch) (d : DT) (h0 : Nat → Nat) (a0_after : Nat) (h1 : Nat → Nat) (h2 : Nat → Nat) (h3 : Nat → Nat) (h4 : Nat → Nat) (n : Nat) (x0_gained : (Nat → Int32)) (x1_left : (Nat → Int32)) (x1_earned : (Nat → Int32)) (x1_turnCost : Int32) (x1_turnWayless : Int32) (x2_edgeA : (Nat → Int32)) (x2_edgeB : (Nat → Int32)) (x2_edgeCost : (Nat → Int32)) (x2_edgeLine : (Nat → Int32)) (x2_change : (Nat → Int32)) (x2_away : (Nat → Int32)) (x2_steps : (Nat → Int32)) (x2_nodes : (Nat → Int32)) (x2_stepCount : Int32) (x2_open : (Nat → Int32)) (x2_openCount : Int32) (x2_seen : Int64) (x2_edgeCount : Int32) (x2_aim : Int32) (x3_lineCount : Int32) (x3_goodsCount : Int32) (x3_workCount : Int32) (x3_years : Int32) (x3_lines : (Nat → Int32)) (x3_goods : (Nat → Int32)) (x3_works : (Nat → Int32)) (x3_change : (Nat → Int32)) (x3_coin : (Nat → Int32)) (x3_knownFree : (Nat → Int32)) (x3_isKnown : Int32) (x4_lineCount : Int32) (x4_goodsCount : Int32) (x4_workCount : Int32) (x4_years : Int32) (x4_lines : (Nat → Int32)) (x4_goods : (Nat → Int32)) (x4_works : (Nat → Int32)) (x4_change : (Nat → Int32)) (x4_coin : (Nat → Int32)) (x4_knownFree : (Nat → Int32)) (x4_isKnown : Int32)  {out : Int32 × ((Nat → Int32) × (Nat → Int32) × (Nat → Int32) × (Nat → Int32) × (Nat → Int32) × (Nat → Int32) × Int32 × Int32) × (Int32 × Int32 × Int32 × Int32 × (Nat → Int32) × (Nat → Int32) × (Nat → Int32) × (Nat → Int32) × (Nat → Int32) × Int32) × (Int32 × (Nat → Int32) × (Nat → Int32) × (Nat → Int32) × Int32)} (hf : fX0_neverOf n x0_gained (x1_left, x1_earned, x1_turnCost, x1_turnWayless) (x2_edgeA, x2_edgeB, x2_edgeCost, x2_edgeLine, x2_change, x2_away, x2_steps, x2_nodes, x2_stepCount, x2_open, x2_openCount, x2_seen, x2_edgeCount, x2_aim) (x3_lineCount, x3_goodsCount, x3_workCount, x3_years, x3_lines, x3_goods, x3_works, x3_change, x3_coin, x3_knownFree, x3_isKnown) (x4_lineCount, x4_goodsCount, x4_workCount, x4_years, x4_lines, x4_goods, x4_works, x4_change, x4_coin, x4_knownFree, x4_isKnown) = some out) : Ct l d yX0_neverOf cX0_neverOf 4 (some .int) { frames := 6, cells := 0, slots := 0, locals := 151 } [.ref (h0 0), .ref (h4 0)] [gCh d h0 (h1 0) a0_after (h3 0) x0_gained, gTr d h1 (h2 0) x1_left x1_earned x1_turnCost x1_turnWayless, gWy d h2 x2_edgeA x2_edgeB x2_edgeCost x2_edgeLine x2_change x2_away x2_steps x2_nodes x2_stepCount x2_open x2_openCount x2_seen x2_edgeCount x2_aim, gLd d h3 x3_lineCount x3_goodsCount x3_workCount x3_years x3_lines x3_goods x3_works x3_change x3_coin x3_knownFree x3_isKnown, gLd d h4 x4_lineCount x4_goodsCount x4_workCount x4_years x4_lines x4_goods x4_works x4_change x4_coin x4_knownFree x4_isKnown] (fun _ : Unit => (some (.int out.1), [gCh d h0 (h1 0) a0_after (h3 0) x0_gained, gTr d h1 (h2 0) x1_left x1_earned x1_turnCost x1_turnWayless, gWy d h2 (out.2.1.1) (out.2.1.2.1) (out.2.1.2.2.1) (out.2.1.2.2.2.1) (out.2.1.2.2.2.2.1) (out.2.1.2.2.2.2.2.1) x2_steps x2_nodes x2_stepCount x2_open x2_openCount x2_seen (out.2.1.2.2.2.2.2.2.1) (out.2.1.2.2.2.2.2.2.2), gLd d h3 (out.2.2.1.1) (out.2.2.1.2.1) (out.2.2.1.2.2.1) (out.2.2.1.2.2.2.1) (out.2.2.1.2.2.2.2.1) (out.2.2.1.2.2.2.2.2.1) (out.2.2.1.2.2.2.2.2.2.1) (out.2.2.1.2.2.2.2.2.2.2.1) (out.2.2.1.2.2.2.2.2.2.2.2.1) x3_knownFree (out.2.2.1.2.2.2.2.2.2.2.2.2), gLd d h4 (out.2.2.2.1) x4_goodsCount x4_workCount x4_years (out.2.2.2.2.1) x4_goods x4_works (out.2.2.2.2.2.1) x4_coin (out.2.2.2.2.2.2.1) (out.2.2.2.2.2.2.2)])) := by
  refine Ct.of (by decide) (Nat.le_of_ble_eq_true rfl) ?_
  intro Φ hl hK hR
  subst hl
  have hK : Ok d Φ RX0 "neverOf" cX0_neverOf 4 (some .int) { frames := 6, cells := 0, slots := 0, locals := 151 } := hK
  unfold fX0_neverOf at hf
  have hf := un4 hf
  have hf := un14 hf
  have hf := un11 hf
  have hf := un11 hf
  show J d Φ 4 [gCh d h0 (h1 0) a0_after (h3 0) x0_gained, gTr d h1 (h2 0) x1_left x1_earned x1_turnCost x1_turnWayless, gWy d h2 x2_edgeA x2_edgeB x2_edgeCost x2_edgeLine x2_change x2_away x2_steps x2_nodes x2_stepCount x2_open x2_openCount x2_seen x2_edgeCount x2_aim, gLd d h3 x3_lineCount x3_goodsCount x3_workCount x3_years x3_lines x3_goods x3_works x3_change x3_coin x3_knownFree x3_isKnown, gLd d h4 x4_lineCount x4_goodsCount x4_workCount x4_years x4_lines x4_goods x4_works x4_change x4_coin x4_knownFree x4_isKnown] 0 0 0 [(0, .ref (h0 0)), (1, .ref (h4 0))] []
  refine J_iconst (v := 0) hK qd0_19.1 rfl (by decide) ?_
  refine J_istore_n (L' := [(2, .int (0)), (0, .ref (h0 0)), (1, .ref (h4 0))]) hK qd0_19.2.1 rfl rfl (by decide) rfl ?_
  refine J_iconst (v := 0) hK qd0_19.2.2.1 rfl (by decide) ?_
  refine J_istore_n (L' := [(3, .int (0)), (2, .int (0)), (0, .ref (h0 0)), (1, .ref (h4 0))]) hK qd0_19.2.2.2.1 rfl rfl (by decide) rfl ?_
  obtain ⟨e27, hl1, hf⟩ := bs hf
  have hx1_41 : ∀ (w28 : Int32) (w29 : (Nat → Int32)) (w30 : (Nat → Int32)) (w31 : (Nat → Int32)) (w32 : (Nat → Int32)) (w33 : (Nat → Int32)) (w34 : (Nat → Int32)) (w35 : Int32) (w36 : Int32) (w37 : Int32) (w38 : Int32) (w39 : Int32) (w40 : Int32) (w41 : (Nat → Int32)) (w42 : (Nat → Int32)) (w43 : (Nat → Int32)) (w44 : (Nat → Int32)) (w45 : (Nat → Int32)) (w46 : Int32) (w47 : Int32) (w48 : (Nat → Int32)) (w49 : (Nat → Int32)) (w50 : (Nat → Int32)) (w51 : Int32), (w28, w29, w30, w31, w32, w33, w34, w35, w36, w37, w38, w39, w40, w41, w42, w43, w44, w45, w46, w47, w48, w49, w50, w51) = e27 → J d Φ 4 [gCh d h0 (h1 0) a0_after (h3 0) x0_gained, gTr d h1 (h2 0) x1_left x1_earned x1_turnCost x1_turnWayless, gWy d h2 w29 w30 w31 w32 w33 w34 x2_steps x2_nodes x2_stepCount x2_open x2_openCount x2_seen w35 w36, gLd d h3 w37 w38 w39 w40 w41 w42 w43 w44 w45 x3_knownFree w46, gLd d h4 w47 x4_goodsCount x4_workCount x4_years w48 x4_goods x4_works w49 x4_coin w50 w51] 0 0 41 [(2, .int w28)] [] := by
    intro w28 w29 w30 w31 w32 w33 w34 w35 w36 w37 w38 w39 w40 w41 w42 w43 w44 w45 w46 w47 w48 w49 w50 w51 he
    rw [← he] at hf
    have hf := un24 hf
    refine J_iload_n hK qd0_20.2.2.2.2.2.2.2.2.2.1 rfl 0 rfl rfl ?_
    obtain rfl := Option.some.inj hf
    exact J_iret hK hR qd0_20.2.2.2.2.2.2.2.2.2.2.1 () rfl (by decide) (by decide)
  have lo1 : ∀ (k : Nat) (z2 : Int32) (z3 : Int32) (z4 : (Nat → Int32)) (z5 : (Nat → Int32)) (z6 : (Nat → Int32)) (z7 : (Nat → Int32)) (z8 : (Nat → Int32)) (z9 : (Nat → Int32)) (z10 : Int32) (z11 : Int32) (z12 : Int32) (z13 : Int32) (z14 : Int32) (z15 : Int32) (z16 : (Nat → Int32)) (z17 : (Nat → Int32)) (z18 : (Nat → Int32)) (z19 : (Nat → Int32)) (z20 : (Nat → Int32)) (z21 : Int32) (z22 : Int32) (z23 : (Nat → Int32)) (z24 : (Nat → Int32)) (z25 : (Nat → Int32)) (z26 : Int32), lp (u25 (fX0_neverOf_s4 n x0_gained x1_left x1_earned x1_turnCost x1_turnWayless x2_steps x2_nodes x2_stepCount x2_open x2_openCount x2_seen x3_knownFree x4_goodsCount x4_workCount x4_years x4_goods x4_works x4_coin)) k (z2, z3, z4, z5, z6, z7, z8, z9, z10, z11, z12, z13, z14, z15, z16, z17, z18, z19, z20, z21, z22, z23, z24, z25, z26) = some e27 → J d Φ 4 [gCh d h0 (h1 0) a0_after (h3 0) x0_gained, gTr d h1 (h2 0) x1_left x1_earned x1_turnCost x1_turnWayless, gWy d h2 z4 z5 z6 z7 z8 z9 x2_steps x2_nodes x2_stepCount x2_open x2_openCount x2_seen z10 z11, gLd d h3 z12 z13 z14 z15 z16 z17 z18 z19 z20 x3_knownFree z21, gLd d h4 z22 x4_goodsCount x4_workCount x4_years z23 x4_goods x4_works z24 x4_coin z25 z26] 0 0 4 [(0, .ref (h0 0)), (1, .ref (h4 0)), (2, .int z2), (3, .int z3)] [] := by
    intro k
    induction k with
    | zero => intro z2 z3 z4 z5 z6 z7 z8 z9 z10 z11 z12 z13 z14 z15 z16 z17 z18 z19 z20 z21 z22 z23 z24 z25 z26 h; cases h
    | succ k ih1 =>
      intro z2 z3 z4 z5 z6 z7 z8 z9 z10 z11 z12 z13 z14 z15 z16 z17 z18 z19 z20 z21 z22 z23 z24 z25 z26 h
      obtain ⟨k2, rr1, hk2, hs1, hr1⟩ := lp_ok h
      cases hk2
      have hs1 : fX0_neverOf_s4 n x0_gained x1_left x1_earned x1_turnCost x1_turnWayless x2_steps x2_nodes x2_stepCount x2_open x2_openCount x2_seen x3_knownFree x4_goodsCount x4_workCount x4_years x4_goods x4_works x4_coin z2 z3 z4 z5 z6 z7 z8 z9 z10 z11 z12 z13 z14 z15 z16 z17 z18 z19 z20 z21 z22 z23 z24 z25 z26 = some rr1 := hs1
      unfold fX0_neverOf_s4 at hs1
      refine J_iload_n hK qd0_19.2.2.2.2.1 rfl 3 rfl rfl ?_
      refine J_aload_n hK qd0_19.2.2.2.2.2.1 rfl 1 rfl rfl ?_
      refine J_get hK fo_RX0_44 qd0_19.2.2.2.2.2.2.1 rfl 4 0 rfl rfl rfl ?_
      refine J_icmp_ge (tg := 41) hK qd0_19.2.2.2.2.2.2.2.1 rfl rfl (fun hc9 => ?_) (fun hc9 => ?_)
      · have hs1 := ip hc9 hs1
        exact J_loc [2] rfl (hx1_41 z2 z4 z5 z6 z7 z8 z9 z10 z11 z12 z13 z14 z15 z16 z17 z18 z19 z20 z21 z22 z23 z24 z25 z26 (lpx hs1 hr1))
      · have hs1 := iq hc9 hs1
        refine J_aload_n hK qd0_19.2.2.2.2.2.2.2.2.1 rfl 1 rfl rfl ?_
        refine J_iload_n hK qd0_19.2.2.2.2.2.2.2.2.2.1 rfl 3 rfl rfl ?_
        obtain ⟨v52, e53, hs1⟩ := bs hs1
        refine J_callV (m := 5) (m' := 5) (ce' := 0) (sl' := 0) (gr := [gCh d h0 (h1 0) a0_after (h3 0) x0_gained, gTr d h1 (h2 0) x1_left x1_earned x1_turnCost x1_turnWayless, gWy d h2 z4 z5 z6 z7 z8 z9 x2_steps x2_nodes x2_stepCount x2_open x2_openCount x2_seen z10 z11, gLd d h3 z12 z13 z14 z15 z16 z17 z18 z19 z20 x3_knownFree z21]) (gs' := fun _ => [gCh d h0 (h1 0) a0_after (h3 0) x0_gained, gTr d h1 (h2 0) x1_left x1_earned x1_turnCost x1_turnWayless, gWy d h2 z4 z5 z6 z7 z8 z9 x2_steps x2_nodes x2_stepCount x2_open x2_openCount x2_seen z10 z11, gLd d h3 z12 z13 z14 z15 z16 z17 z18 z19 z20 x3_knownFree z21, gLd d h4 z22 x4_goodsCount x4_workCount x4_years z23 x4_goods x4_works z24 x4_coin z25 z26]) (st' := fun _ => [.int v52]) (st := []) hK qd0_19.2.2.2.2.2.2.2.2.2.2.1 cv_RX0_69 iv_yX1_isDone (As := [.int z3]) (kX1_isDone _ d h4 z22 x4_goodsCount x4_workCount x4_years z23 x4_goods x4_works z24 x4_coin z25 z26 z3 e53) rfl rfl (Nat.le_of_ble_eq_true rfl) (by decide) 4 0 rfl rfl rfl [4] [0, 1, 2, 3] rfl (by decide +kernel) rfl rfl [0, 1, 2, 3, 4] (by decide +kernel) (fun _ => rfl) (fun _ => rfl) rfl rfl rfl (fun _ => rfl) (fun _ => ?_)
        refine J_if_ne (tg := 35) hK qd0_19.2.2.2.2.2.2.2.2.2.2.2.1 rfl rfl (fun hc17 => ?_) (fun hc17 => ?_)
        · have hs1 := iq hc17 hs1
          refine J_iinc (L' := [(3, .int (z3 + 1)), (0, .ref (h0 0)), (1, .ref (h4 0)), (2, .int z2)]) (v := (z3 + 1)) hK qd0_20.2.2.2.2.2.2.2.1 rfl 3 rfl rfl (by decide) rfl ?_
          refine J_goto hK qd0_20.2.2.2.2.2.2.2.2.1 (n := 4) rfl ?_
          exact J_loc [1, 2, 3, 0] rfl (ih1 z2 (z3 + 1) z4 z5 z6 z7 z8 z9 z10 z11 z12 z13 z14 z15 z16 z17 z18 z19 z20 z21 z22 z23 z24 z25 z26 (lpc hs1 hr1))
        · have hs1 := ip hc17 hs1
          refine J_aload_n hK qd0_19.2.2.2.2.2.2.2.2.2.2.2.2.1 rfl 0 rfl rfl ?_
          refine J_aload_n hK qd0_19.2.2.2.2.2.2.2.2.2.2.2.2.2.1 rfl 1 rfl rfl ?_
          refine J_iload_n hK qd0_19.2.2.2.2.2.2.2.2.2.2.2.2.2.2.1 rfl 3 rfl rfl ?_
          obtain ⟨⟨v54, ⟨g56, g57, g58, g59, g60, g61, g62, g63⟩, ⟨g65, g66, g67, g68, g69, g70, g71, g72, g73, g74⟩, ⟨g76, g77, g78, g79, g80⟩⟩, e81, hs1⟩ := bs hs1
          have hs1 := un4 hs1
          have hs1 := un8 hs1
          have hs1 := un10 hs1
          have hs1 := un5 hs1
          refine J_callV (m := 5) (m' := 5) (ce' := 0) (sl' := 0) (gr := []) (gs' := fun _ => [gCh d h0 (h1 0) a0_after (h3 0) x0_gained, gTr d h1 (h2 0) x1_left x1_earned x1_turnCost x1_turnWayless, gWy d h2 g56 g57 g58 g59 g60 g61 x2_steps x2_nodes x2_stepCount x2_open x2_openCount x2_seen g62 g63, gLd d h3 g65 g66 g67 g68 g69 g70 g71 g72 g73 x3_knownFree g74, gLd d h4 g76 x4_goodsCount x4_workCount x4_years g77 x4_goods x4_works g78 x4_coin g79 g80]) (st' := fun _ => [.int v54]) (st := []) hK qd0_19.2.2.2.2.2.2.2.2.2.2.2.2.2.2.2.1 cv_RX0_91 iv_yX0_alwaysCostsMore (As := [.ref (h4 0), .int z3]) (kX0_alwaysCostsMore _ d h0 a0_after h1 h2 h3 h4 n x0_gained x1_left x1_earned x1_turnCost x1_turnWayless z4 z5 z6 z7 z8 z9 x2_steps x2_nodes x2_stepCount x2_open x2_openCount x2_seen z10 z11 z12 z13 z14 z15 z16 z17 z18 z19 z20 x3_knownFree z21 z22 x4_goodsCount x4_workCount x4_years z23 x4_goods x4_works z24 x4_coin z25 z26 z3 e81) rfl rfl (Nat.le_of_ble_eq_true rfl) (by decide) 0 0 rfl rfl rfl [0, 1, 2, 3, 4] [] rfl (by decide +kernel) rfl rfl [0, 1, 2, 3, 4] (by decide +kernel) (fun _ => rfl) (fun _ => rfl) rfl rfl rfl (fun _ => rfl) (fun _ => ?_)
          refine J_if_eq (tg := 35) hK qd0_20.1 rfl rfl (fun hc26 => ?_) (fun hc26 => ?_)
          · have hs1 := ip hc26 hs1
            refine J_iinc (L' := [(3, .int (z3 + 1)), (0, .ref (h0 0)), (1, .ref (h4 0)), (2, .int z2)]) (v := (z3 + 1)) hK qd0_20.2.2.2.2.2.2.2.1 rfl 3 rfl rfl (by decide) rfl ?_
            refine J_goto hK qd0_20.2.2.2.2.2.2.2.2.1 (n := 4) rfl ?_
            exact J_loc [1, 2, 3, 0] rfl (ih1 z2 (z3 + 1) g56 g57 g58 g59 g60 g61 g62 g63 g65 g66 g67 g68 g69 g70 g71 g72 g73 g74 g76 g77 g78 g79 g80 (lpc hs1 hr1))
          · have hs1 := iq hc26 hs1
            refine J_iload_n hK qd0_20.2.1 rfl 2 rfl rfl ?_
            refine J_iconst (v := 1) hK qd0_20.2.2.1 rfl (by decide) ?_
            refine J_iload_n hK qd0_20.2.2.2.1 rfl 3 rfl rfl ?_
            refine J_ishl hK qd0_20.2.2.2.2.1 rfl ?_
            refine J_ior hK qd0_20.2.2.2.2.2.1 rfl ?_
            obtain ⟨t82, et82, hs1⟩ := bs hs1
            refine J_nmi et82 ?_
            refine J_istore_n (L' := [(2, .int t82), (0, .ref (h0 0)), (1, .ref (h4 0)), (3, .int z3)]) hK qd0_20.2.2.2.2.2.2.1 rfl rfl (by decide) rfl ?_
            refine J_iinc (L' := [(3, .int (z3 + 1)), (2, .int t82), (0, .ref (h0 0)), (1, .ref (h4 0))]) (v := (z3 + 1)) hK qd0_20.2.2.2.2.2.2.2.1 rfl 3 rfl rfl (by decide) rfl ?_
            refine J_goto hK qd0_20.2.2.2.2.2.2.2.2.1 (n := 4) rfl ?_
            exact J_loc [2, 3, 1, 0] rfl (ih1 t82 (z3 + 1) g56 g57 g58 g59 g60 g61 g62 g63 g65 g66 g67 g68 g69 g70 g71 g72 g73 g74 g76 g77 g78 g79 g80 (lpc hs1 hr1))
  exact J_loc [2, 3, 1, 0] rfl (lo1 n (0) (0) x2_edgeA x2_edgeB x2_edgeCost x2_edgeLine x2_change x2_away x2_edgeCount x2_aim x3_lineCount x3_goodsCount x3_workCount x3_years x3_lines x3_goods x3_works x3_change x3_coin x3_isKnown x4_lineCount x4_lines x4_change x4_knownFree x4_isKnown hl1)

def fX0_costOfWidth_j62 (p2 : Int32) (x3_knownFree : (Nat → Int32)) (g2 : Int32) (g3 : Int32) (g4 : Int32) (g5 : Int32) (g7 : (Nat → Int32)) (g8 : (Nat → Int32)) (g9 : (Nat → Int32)) (g10 : (Nat → Int32)) (z15 : Int32) (z16 : (Nat → Int32)) (z17 : Int32) (y39 : Int32) : Option ((Int32 × Int32 × (Nat → Int32) × Int32) ⊕ (Int32 × (Nat → Int32) × Int32)) :=
  (fX1_putWidths (g2, g3, g4, g5, z16, g7, g8, g9, g10, x3_knownFree, z17) z15 ((1 : Int32) <<< (p2 &&& 31))).bind (u2 fun g40 g41 => some (.inl (y39, (z15 + 1), g40, g41)))
def fX0_costOfWidth_s14 (p2 : Int32) (p3 : Int32) (x3_knownFree : (Nat → Int32)) (x4_lineCount : Int32) (x4_goodsCount : Int32) (x4_workCount : Int32) (x4_years : Int32) (x4_lines : (Nat → Int32)) (x4_goods : (Nat → Int32)) (x4_works : (Nat → Int32)) (x4_change : (Nat → Int32)) (x4_coin : (Nat → Int32)) (x4_knownFree : (Nat → Int32)) (x4_isKnown : Int32) (g2 : Int32) (g3 : Int32) (g4 : Int32) (g5 : Int32) (g7 : (Nat → Int32)) (g8 : (Nat → Int32)) (g9 : (Nat → Int32)) (g10 : (Nat → Int32)) (z14 : Int32) (z15 : Int32) (z16 : (Nat → Int32)) (z17 : Int32) : Option ((Int32 × Int32 × (Nat → Int32) × Int32) ⊕ (Int32 × (Nat → Int32) × Int32)) :=
  if x4_lineCount ≤ z15 then (some (.inr (z14, z16, z17))) else ((fX1_ofLine (x4_lineCount, x4_goodsCount, x4_workCount, x4_years, x4_lines, x4_goods, x4_works, x4_change, x4_coin, x4_knownFree, x4_isKnown) z15 (6)).bind (fun v35 => if v35 = 0 then ((fX1_ofLine (x4_lineCount, x4_goodsCount, x4_workCount, x4_years, x4_lines, x4_goods, x4_works, x4_change, x4_coin, x4_knownFree, x4_isKnown) z15 (2)).bind (fun v37 => if ((v37 >>> (p2 &&& 31)) &&& 1) = 0 then ((fX1_ofLine (x4_lineCount, x4_goodsCount, x4_workCount, x4_years, x4_lines, x4_goods, x4_works, x4_change, x4_coin, x4_knownFree, x4_isKnown) z15 (3)).bind (fun v43 => fX0_costOfWidth_j62 p2 x3_knownFree g2 g3 g4 g5 g7 g8 g9 g10 z15 z16 z17 (z14 + (p3 * v43)))) else (fX0_costOfWidth_j62 p2 x3_knownFree g2 g3 g4 g5 g7 g8 g9 g10 z15 z16 z17 z14))) else (some (.inl (z14, (z15 + 1), z16, z17)))))
def fX0_costOfWidth (n : Nat) (X0 : ChT) (X1 : TrT) (X2 : WyT) (X3 : LdT) (X4 : LdT) (p2 : Int32) (p3 : Int32) : Option (Int32 × ((Nat → Int32) × (Nat → Int32) × (Nat → Int32) × (Nat → Int32) × (Nat → Int32) × (Nat → Int32) × Int32 × Int32) × (Int32 × Int32 × Int32 × Int32 × (Nat → Int32) × (Nat → Int32) × (Nat → Int32) × (Nat → Int32) × (Nat → Int32) × Int32)) :=
  (fun (x0_gained : (Nat → Int32)) => u4 (fun (x1_left : (Nat → Int32)) (x1_earned : (Nat → Int32)) (x1_turnCost : Int32) (x1_turnWayless : Int32) => u14 (fun (x2_edgeA : (Nat → Int32)) (x2_edgeB : (Nat → Int32)) (x2_edgeCost : (Nat → Int32)) (x2_edgeLine : (Nat → Int32)) (x2_change : (Nat → Int32)) (x2_away : (Nat → Int32)) (x2_steps : (Nat → Int32)) (x2_nodes : (Nat → Int32)) (x2_stepCount : Int32) (x2_open : (Nat → Int32)) (x2_openCount : Int32) (x2_seen : Int64) (x2_edgeCount : Int32) (x2_aim : Int32) => u11 (fun (x3_lineCount : Int32) (x3_goodsCount : Int32) (x3_workCount : Int32) (x3_years : Int32) (x3_lines : (Nat → Int32)) (x3_goods : (Nat → Int32)) (x3_works : (Nat → Int32)) (x3_change : (Nat → Int32)) (x3_coin : (Nat → Int32)) (x3_knownFree : (Nat → Int32)) (x3_isKnown : Int32) => u11 (fun (x4_lineCount : Int32) (x4_goodsCount : Int32) (x4_workCount : Int32) (x4_years : Int32) (x4_lines : (Nat → Int32)) (x4_goods : (Nat → Int32)) (x4_works : (Nat → Int32)) (x4_change : (Nat → Int32)) (x4_coin : (Nat → Int32)) (x4_knownFree : (Nat → Int32)) (x4_isKnown : Int32) => (fX1_take (x3_lineCount, x3_goodsCount, x3_workCount, x3_years, x3_lines, x3_goods, x3_works, x3_change, x3_coin, x3_knownFree, x3_isKnown) (x4_lineCount, x4_goodsCount, x4_workCount, x4_years, x4_lines, x4_goods, x4_works, x4_change, x4_coin, x4_knownFree, x4_isKnown)).bind (fun G1 => u10 (fun g2 g3 g4 g5 g6 g7 g8 g9 g10 g11 => (lp (u4 (fX0_costOfWidth_s14 p2 p3 x3_knownFree x4_lineCount x4_goodsCount x4_workCount x4_years x4_lines x4_goods x4_works x4_change x4_coin x4_knownFree x4_isKnown g2 g3 g4 g5 g7 g8 g9 g10)) n (0, 0, g6, g11)).bind (u3 fun w19 w20 w21 => (fX1_linesThere n (g2, g3, g4, g5, w20, g7, g8, g9, g10, x3_knownFree, w21)).bind (fun v22 => (fX4_freeBy n (x1_left, x1_earned, x1_turnCost, x1_turnWayless) (x2_edgeA, x2_edgeB, x2_edgeCost, x2_edgeLine, x2_change, x2_away, x2_steps, x2_nodes, x2_stepCount, x2_open, x2_openCount, x2_seen, x2_edgeCount, x2_aim) (g2, g3, g4, g5, w20, g7, g8, g9, g10, x3_knownFree, w21) v22).bind (u2 fun v24 G25 => u8 (fun g26 g27 g28 g29 g30 g31 g32 g33 => some ((w19 + (x4_years * v24)), (g26, g27, g28, g29, g30, g31, g32, g33), (g2, g3, g4, g5, w20, g7, g8, g9, g10, w21))) G25)))) G1)) X4) X3) X2) X1) X0
set_option maxHeartbeats 4000000 in
set_option maxRecDepth 100000 in
theorem kX0_costOfWidth (l : Launch) (d : DT) (h0 : Nat → Nat) (a0_after : Nat) (h1 : Nat → Nat) (h2 : Nat → Nat) (h3 : Nat → Nat) (h4 : Nat → Nat) (n : Nat) (x0_gained : (Nat → Int32)) (x1_left : (Nat → Int32)) (x1_earned : (Nat → Int32)) (x1_turnCost : Int32) (x1_turnWayless : Int32) (x2_edgeA : (Nat → Int32)) (x2_edgeB : (Nat → Int32)) (x2_edgeCost : (Nat → Int32)) (x2_edgeLine : (Nat → Int32)) (x2_change : (Nat → Int32)) (x2_away : (Nat → Int32)) (x2_steps : (Nat → Int32)) (x2_nodes : (Nat → Int32)) (x2_stepCount : Int32) (x2_open : (Nat → Int32)) (x2_openCount : Int32) (x2_seen : Int64) (x2_edgeCount : Int32) (x2_aim : Int32) (x3_lineCount : Int32) (x3_goodsCount : Int32) (x3_workCount : Int32) (x3_years : Int32) (x3_lines : (Nat → Int32)) (x3_goods : (Nat → Int32)) (x3_works : (Nat → Int32)) (x3_change : (Nat → Int32)) (x3_coin : (Nat → Int32)) (x3_knownFree : (Nat → Int32)) (x3_isKnown : Int32) (x4_lineCount : Int32) (x4_goodsCount : Int32) (x4_workCount : Int32) (x4_years : Int32) (x4_lines : (Nat → Int32)) (x4_goods : (Nat → Int32)) (x4_works : (Nat → Int32)) (x4_change : (Nat → Int32)) (x4_coin : (Nat → Int32)) (x4_knownFree : (Nat → Int32)) (x4_isKnown : Int32) (p2 : Int32) (p3 : Int32)  {out : Int32 × ((Nat → Int32) × (Nat → Int32) × (Nat → Int32) × (Nat → Int32) × (Nat → Int32) × (Nat → Int32) × Int32 × Int32) × (Int32 × Int32 × Int32 × Int32 × (Nat → Int32) × (Nat → Int32) × (Nat → Int32) × (Nat → Int32) × (Nat → Int32) × Int32)} (hf : fX0_costOfWidth n x0_gained (x1_left, x1_earned, x1_turnCost, x1_turnWayless) (x2_edgeA, x2_edgeB, x2_edgeCost, x2_edgeLine, x2_change, x2_away, x2_steps, x2_nodes, x2_stepCount, x2_open, x2_openCount, x2_seen, x2_edgeCount, x2_aim) (x3_lineCount, x3_goodsCount, x3_workCount, x3_years, x3_lines, x3_goods, x3_works, x3_change, x3_coin, x3_knownFree, x3_isKnown) (x4_lineCount, x4_goodsCount, x4_workCount, x4_years, x4_lines, x4_goods, x4_works, x4_change, x4_coin, x4_knownFree, x4_isKnown) p2 p3 = some out) : Ct l d yX0_costOfWidth cX0_costOfWidth 6 (some .int) { frames := 3, cells := 0, slots := 0, locals := 77 } [.ref (h0 0), .ref (h4 0), .int p2, .int p3] [gCh d h0 (h1 0) a0_after (h3 0) x0_gained, gTr d h1 (h2 0) x1_left x1_earned x1_turnCost x1_turnWayless, gWy d h2 x2_edgeA x2_edgeB x2_edgeCost x2_edgeLine x2_change x2_away x2_steps x2_nodes x2_stepCount x2_open x2_openCount x2_seen x2_edgeCount x2_aim, gLd d h3 x3_lineCount x3_goodsCount x3_workCount x3_years x3_lines x3_goods x3_works x3_change x3_coin x3_knownFree x3_isKnown, gLd d h4 x4_lineCount x4_goodsCount x4_workCount x4_years x4_lines x4_goods x4_works x4_change x4_coin x4_knownFree x4_isKnown] (fun _ : Unit => (some (.int out.1), [gCh d h0 (h1 0) a0_after (h3 0) x0_gained, gTr d h1 (h2 0) x1_left x1_earned x1_turnCost x1_turnWayless, gWy d h2 (out.2.1.1) (out.2.1.2.1) (out.2.1.2.2.1) (out.2.1.2.2.2.1) (out.2.1.2.2.2.2.1) (out.2.1.2.2.2.2.2.1) x2_steps x2_nodes x2_stepCount x2_open x2_openCount x2_seen (out.2.1.2.2.2.2.2.2.1) (out.2.1.2.2.2.2.2.2.2), gLd d h3 (out.2.2.1) (out.2.2.2.1) (out.2.2.2.2.1) (out.2.2.2.2.2.1) (out.2.2.2.2.2.2.1) (out.2.2.2.2.2.2.2.1) (out.2.2.2.2.2.2.2.2.1) (out.2.2.2.2.2.2.2.2.2.1) (out.2.2.2.2.2.2.2.2.2.2.1) x3_knownFree (out.2.2.2.2.2.2.2.2.2.2.2), gLd d h4 x4_lineCount x4_goodsCount x4_workCount x4_years x4_lines x4_goods x4_works x4_change x4_coin x4_knownFree x4_isKnown])) := by
  refine Ct.of (by decide) (Nat.le_of_ble_eq_true rfl) ?_
  intro Φ hl hK hR
  subst hl
  have hK : Ok d Φ RX0 "costOfWidth" cX0_costOfWidth 6 (some .int) { frames := 3, cells := 0, slots := 0, locals := 77 } := hK
  unfold fX0_costOfWidth at hf
  have hf := un4 hf
  have hf := un14 hf
  have hf := un11 hf
  have hf := un11 hf
  show J d Φ 6 [gCh d h0 (h1 0) a0_after (h3 0) x0_gained, gTr d h1 (h2 0) x1_left x1_earned x1_turnCost x1_turnWayless, gWy d h2 x2_edgeA x2_edgeB x2_edgeCost x2_edgeLine x2_change x2_away x2_steps x2_nodes x2_stepCount x2_open x2_openCount x2_seen x2_edgeCount x2_aim, gLd d h3 x3_lineCount x3_goodsCount x3_workCount x3_years x3_lines x3_goods x3_works x3_change x3_coin x3_knownFree x3_isKnown, gLd d h4 x4_lineCount x4_goodsCount x4_workCount x4_years x4_lines x4_goods x4_works x4_change x4_coin x4_knownFree x4_isKnown] 0 0 0 [(0, .ref (h0 0)), (1, .ref (h4 0)), (2, .int p2), (3, .int p3)] []
  refine J_aload_n hK qd0_24.1 rfl 0 rfl rfl ?_
  refine J_get hK fo_RX0_29 qd0_24.2.1 rfl 0 0 rfl rfl rfl ?_
  refine J_aload_n hK qd0_24.2.2.1 rfl 1 rfl rfl ?_
  obtain ⟨⟨g2, g3, g4, g5, g6, g7, g8, g9, g10, g11⟩, e12, hf⟩ := bs hf
  have hf := un10 hf
  refine J_callV (m := 5) (m' := 5) (ce' := 0) (sl' := 0) (gr := [gCh d h0 (h1 0) a0_after (h3 0) x0_gained, gTr d h1 (h2 0) x1_left x1_earned x1_turnCost x1_turnWayless, gWy d h2 x2_edgeA x2_edgeB x2_edgeCost x2_edgeLine x2_change x2_away x2_steps x2_nodes x2_stepCount x2_open x2_openCount x2_seen x2_edgeCount x2_aim]) (gs' := fun _ => [gCh d h0 (h1 0) a0_after (h3 0) x0_gained, gTr d h1 (h2 0) x1_left x1_earned x1_turnCost x1_turnWayless, gWy d h2 x2_edgeA x2_edgeB x2_edgeCost x2_edgeLine x2_change x2_away x2_steps x2_nodes x2_stepCount x2_open x2_openCount x2_seen x2_edgeCount x2_aim, gLd d h3 g2 g3 g4 g5 g6 g7 g8 g9 g10 x3_knownFree g11, gLd d h4 x4_lineCount x4_goodsCount x4_workCount x4_years x4_lines x4_goods x4_works x4_change x4_coin x4_knownFree x4_isKnown]) (st' := fun _ => []) (st := []) hK qd0_24.2.2.2.1 cv_RX0_40 iv_yX1_take (As := [.ref (h4 0)]) (kX1_take _ d h3 h4 x3_lineCount x3_goodsCount x3_workCount x3_years x3_lines x3_goods x3_works x3_change x3_coin x3_knownFree x3_isKnown x4_lineCount x4_goodsCount x4_workCount x4_years x4_lines x4_goods x4_works x4_change x4_coin x4_knownFree x4_isKnown e12) rfl rfl (Nat.le_of_ble_eq_true rfl) (by decide) 3 0 rfl rfl rfl [3, 4] [0, 1, 2] rfl (by decide +kernel) rfl rfl [0, 1, 2, 3, 4] (by decide +kernel) (fun _ => rfl) (fun _ => rfl) rfl rfl rfl (fun _ => rfl) (fun _ => ?_)
  refine J_iconst (v := 0) hK qd0_24.2.2.2.2.1 rfl (by decide) ?_
  refine J_istore (L' := [(4, .int (0)), (0, .ref (h0 0)), (1, .ref (h4 0)), (2, .int p2), (3, .int p3)]) hK qd0_24.2.2.2.2.2.1 rfl (by decide) rfl ?_
  refine J_iconst (v := 0) hK qd0_24.2.2.2.2.2.2.1 rfl (by decide) ?_
  refine J_istore (L' := [(5, .int (0)), (4, .int (0)), (0, .ref (h0 0)), (1, .ref (h4 0)), (2, .int p2), (3, .int p3)]) hK qd0_24.2.2.2.2.2.2.2.1 rfl (by decide) rfl ?_
  obtain ⟨e18, hl13, hf⟩ := bs hf
  have hx13_80 : ∀ (w19 : Int32) (w20 : (Nat → Int32)) (w21 : Int32), (w19, w20, w21) = e18 → J d Φ 6 [gCh d h0 (h1 0) a0_after (h3 0) x0_gained, gTr d h1 (h2 0) x1_left x1_earned x1_turnCost x1_turnWayless, gWy d h2 x2_edgeA x2_edgeB x2_edgeCost x2_edgeLine x2_change x2_away x2_steps x2_nodes x2_stepCount x2_open x2_openCount x2_seen x2_edgeCount x2_aim, gLd d h3 g2 g3 g4 g5 w20 g7 g8 g9 g10 x3_knownFree w21, gLd d h4 x4_lineCount x4_goodsCount x4_workCount x4_years x4_lines x4_goods x4_works x4_change x4_coin x4_knownFree x4_isKnown] 0 0 80 [(0, .ref (h0 0)), (1, .ref (h4 0)), (4, .int w19)] [] := by
    intro w19 w20 w21 he
    rw [← he] at hf
    have hf := un3 hf
    refine J_iload hK qd0_26.2.2.2.2.2.2.2.2.2.2.2.2.1 rfl 2 rfl ?_
    refine J_aload_n hK qd0_26.2.2.2.2.2.2.2.2.2.2.2.2.2.1 rfl 1 rfl rfl ?_
    refine J_get hK fo_RX0_63 qd0_26.2.2.2.2.2.2.2.2.2.2.2.2.2.2.1 rfl 4 0 rfl rfl rfl ?_
    refine J_aload_n hK qd0_26.2.2.2.2.2.2.2.2.2.2.2.2.2.2.2.1 rfl 0 rfl rfl ?_
    refine J_get hK fo_RX0_12 qd0_27.1 rfl 0 0 rfl rfl rfl ?_
    refine J_aload_n hK qd0_27.2.1 rfl 0 rfl rfl ?_
    refine J_get hK fo_RX0_29 qd0_27.2.2.1 rfl 0 0 rfl rfl rfl ?_
    refine J_aload_n hK qd0_27.2.2.2.1 rfl 0 rfl rfl ?_
    refine J_get hK fo_RX0_29 qd0_27.2.2.2.2.1 rfl 0 0 rfl rfl rfl ?_
    obtain ⟨v22, e23, hf⟩ := bs hf
    refine J_callV (m := 5) (m' := 5) (ce' := 0) (sl' := 0) (gr := [gCh d h0 (h1 0) a0_after (h3 0) x0_gained, gTr d h1 (h2 0) x1_left x1_earned x1_turnCost x1_turnWayless, gWy d h2 x2_edgeA x2_edgeB x2_edgeCost x2_edgeLine x2_change x2_away x2_steps x2_nodes x2_stepCount x2_open x2_openCount x2_seen x2_edgeCount x2_aim, gLd d h4 x4_lineCount x4_goodsCount x4_workCount x4_years x4_lines x4_goods x4_works x4_change x4_coin x4_knownFree x4_isKnown]) (gs' := fun _ => [gCh d h0 (h1 0) a0_after (h3 0) x0_gained, gTr d h1 (h2 0) x1_left x1_earned x1_turnCost x1_turnWayless, gWy d h2 x2_edgeA x2_edgeB x2_edgeCost x2_edgeLine x2_change x2_away x2_steps x2_nodes x2_stepCount x2_open x2_openCount x2_seen x2_edgeCount x2_aim, gLd d h3 g2 g3 g4 g5 w20 g7 g8 g9 g10 x3_knownFree w21, gLd d h4 x4_lineCount x4_goodsCount x4_workCount x4_years x4_lines x4_goods x4_works x4_change x4_coin x4_knownFree x4_isKnown]) (st' := fun _ => [.int v22, .ref (h3 0), .ref (h1 0), .int x4_years, .int w19]) (st := [.ref (h3 0), .ref (h1 0), .int x4_years, .int w19]) hK qd0_27.2.2.2.2.2.1 cv_RX0_52 iv_yX1_linesThere (As := []) (kX1_linesThere _ d h3 n g2 g3 g4 g5 w20 g7 g8 g9 g10 x3_knownFree w21 e23) rfl rfl (Nat.le_of_ble_eq_true rfl) (by decide) 3 0 rfl rfl rfl [3] [0, 1, 2, 4] rfl (by decide +kernel) rfl rfl [0, 1, 2, 4, 3] (by decide +kernel) (fun _ => rfl) (fun _ => rfl) rfl rfl rfl (fun _ => rfl) (fun _ => ?_)
    obtain ⟨⟨v24, ⟨g26, g27, g28, g29, g30, g31, g32, g33⟩⟩, e34, hf⟩ := bs hf
    have hf := un2 hf
    have hf := un8 hf
    refine J_callV (m := 5) (m' := 5) (ce' := 0) (sl' := 0) (gr := [gCh d h0 (h1 0) a0_after (h3 0) x0_gained, gLd d h4 x4_lineCount x4_goodsCount x4_workCount x4_years x4_lines x4_goods x4_works x4_change x4_coin x4_knownFree x4_isKnown]) (gs' := fun _ => [gCh d h0 (h1 0) a0_after (h3 0) x0_gained, gTr d h1 (h2 0) x1_left x1_earned x1_turnCost x1_turnWayless, gWy d h2 g26 g27 g28 g29 g30 g31 x2_steps x2_nodes x2_stepCount x2_open x2_openCount x2_seen g32 g33, gLd d h3 g2 g3 g4 g5 w20 g7 g8 g9 g10 x3_knownFree w21, gLd d h4 x4_lineCount x4_goodsCount x4_workCount x4_years x4_lines x4_goods x4_works x4_change x4_coin x4_knownFree x4_isKnown]) (st' := fun _ => [.int v24, .int x4_years, .int w19]) (st := [.int x4_years, .int w19]) hK qd0_27.2.2.2.2.2.2.1 cv_RX0_55 iv_yX4_freeBy (As := [.ref (h3 0), .int v22]) (kX4_freeBy _ d h1 h2 h3 n x1_left x1_earned x1_turnCost x1_turnWayless x2_edgeA x2_edgeB x2_edgeCost x2_edgeLine x2_change x2_away x2_steps x2_nodes x2_stepCount x2_open x2_openCount x2_seen x2_edgeCount x2_aim g2 g3 g4 g5 w20 g7 g8 g9 g10 x3_knownFree w21 v22 e34) rfl rfl (Nat.le_of_ble_eq_true rfl) (by decide) 1 0 rfl rfl rfl [1, 2, 3] [0, 4] rfl (by decide +kernel) rfl rfl [0, 2, 3, 4, 1] (by decide +kernel) (fun _ => rfl) (fun _ => rfl) rfl rfl rfl (fun _ => rfl) (fun _ => ?_)
    refine J_imul hK qd0_27.2.2.2.2.2.2.2.1 rfl ?_
    refine J_iadd hK qd0_27.2.2.2.2.2.2.2.2.1 rfl ?_
    obtain rfl := Option.some.inj hf
    exact J_iret hK hR qd0_27.2.2.2.2.2.2.2.2.2.1 () rfl (by decide) (by decide)
  have lo13 : ∀ (k : Nat) (z14 : Int32) (z15 : Int32) (z16 : (Nat → Int32)) (z17 : Int32), lp (u4 (fX0_costOfWidth_s14 p2 p3 x3_knownFree x4_lineCount x4_goodsCount x4_workCount x4_years x4_lines x4_goods x4_works x4_change x4_coin x4_knownFree x4_isKnown g2 g3 g4 g5 g7 g8 g9 g10)) k (z14, z15, z16, z17) = some e18 → J d Φ 6 [gCh d h0 (h1 0) a0_after (h3 0) x0_gained, gTr d h1 (h2 0) x1_left x1_earned x1_turnCost x1_turnWayless, gWy d h2 x2_edgeA x2_edgeB x2_edgeCost x2_edgeLine x2_change x2_away x2_steps x2_nodes x2_stepCount x2_open x2_openCount x2_seen x2_edgeCount x2_aim, gLd d h3 g2 g3 g4 g5 z16 g7 g8 g9 g10 x3_knownFree z17, gLd d h4 x4_lineCount x4_goodsCount x4_workCount x4_years x4_lines x4_goods x4_works x4_change x4_coin x4_knownFree x4_isKnown] 0 0 14 [(0, .ref (h0 0)), (1, .ref (h4 0)), (2, .int p2), (3, .int p3), (4, .int z14), (5, .int z15)] [] := by
    intro k
    induction k with
    | zero => intro z14 z15 z16 z17 h; cases h
    | succ k ih13 =>
      intro z14 z15 z16 z17 h
      obtain ⟨k2, rr13, hk2, hs13, hr13⟩ := lp_ok h
      cases hk2
      have hs13 : fX0_costOfWidth_s14 p2 p3 x3_knownFree x4_lineCount x4_goodsCount x4_workCount x4_years x4_lines x4_goods x4_works x4_change x4_coin x4_knownFree x4_isKnown g2 g3 g4 g5 g7 g8 g9 g10 z14 z15 z16 z17 = some rr13 := hs13
      unfold fX0_costOfWidth_s14 at hs13
      refine J_iload hK qd0_24.2.2.2.2.2.2.2.2.1 rfl 5 rfl ?_
      refine J_aload_n hK qd0_24.2.2.2.2.2.2.2.2.2.1 rfl 1 rfl rfl ?_
      refine J_get hK fo_RX0_95 qd0_24.2.2.2.2.2.2.2.2.2.2.1 rfl 4 0 rfl rfl rfl ?_
      refine J_icmp_ge (tg := 80) hK qd0_24.2.2.2.2.2.2.2.2.2.2.2.1 rfl rfl (fun hc20 => ?_) (fun hc20 => ?_)
      · have hs13 := ip hc20 hs13
        exact J_loc [0, 1, 4] rfl (hx13_80 z14 z16 z17 (lpx hs13 hr13))
      · have hs13 := iq hc20 hs13
        refine J_aload_n hK qd0_24.2.2.2.2.2.2.2.2.2.2.2.2.1 rfl 1 rfl rfl ?_
        refine J_iload hK qd0_24.2.2.2.2.2.2.2.2.2.2.2.2.2.1 rfl 5 rfl ?_
        refine J_bipush (v := 6) hK qd0_24.2.2.2.2.2.2.2.2.2.2.2.2.2.2.1 rfl (by decide) ?_
        obtain ⟨v35, e36, hs13⟩ := bs hs13
        refine J_callV (m := 5) (m' := 5) (ce' := 0) (sl' := 0) (gr := [gCh d h0 (h1 0) a0_after (h3 0) x0_gained, gTr d h1 (h2 0) x1_left x1_earned x1_turnCost x1_turnWayless, gWy d h2 x2_edgeA x2_edgeB x2_edgeCost x2_edgeLine x2_change x2_away x2_steps x2_nodes x2_stepCount x2_open x2_openCount x2_seen x2_edgeCount x2_aim, gLd d h3 g2 g3 g4 g5 z16 g7 g8 g9 g10 x3_knownFree z17]) (gs' := fun _ => [gCh d h0 (h1 0) a0_after (h3 0) x0_gained, gTr d h1 (h2 0) x1_left x1_earned x1_turnCost x1_turnWayless, gWy d h2 x2_edgeA x2_edgeB x2_edgeCost x2_edgeLine x2_change x2_away x2_steps x2_nodes x2_stepCount x2_open x2_openCount x2_seen x2_edgeCount x2_aim, gLd d h3 g2 g3 g4 g5 z16 g7 g8 g9 g10 x3_knownFree z17, gLd d h4 x4_lineCount x4_goodsCount x4_workCount x4_years x4_lines x4_goods x4_works x4_change x4_coin x4_knownFree x4_isKnown]) (st' := fun _ => [.int v35]) (st := []) hK qd0_24.2.2.2.2.2.2.2.2.2.2.2.2.2.2.2.1 cv_RX0_98 iv_yX1_ofLine (As := [.int z15, .int (6)]) (kX1_ofLine _ d h4 x4_lineCount x4_goodsCount x4_workCount x4_years x4_lines x4_goods x4_works x4_change x4_coin x4_knownFree x4_isKnown z15 (6) e36) rfl rfl (Nat.le_of_ble_eq_true rfl) (by decide) 4 0 rfl rfl rfl [4] [0, 1, 2, 3] rfl (by decide +kernel) rfl rfl [0, 1, 2, 3, 4] (by decide +kernel) (fun _ => rfl) (fun _ => rfl) rfl rfl rfl (fun _ => rfl) (fun _ => ?_)
        refine J_if_ne (tg := 74) hK qd0_25.1 rfl rfl (fun hc31 => ?_) (fun hc31 => ?_)
        · have hs13 := iq hc31 hs13
          refine J_iinc (L' := [(5, .int (z15 + 1)), (0, .ref (h0 0)), (1, .ref (h4 0)), (2, .int p2), (3, .int p3), (4, .int z14)]) (v := (z15 + 1)) hK qd0_26.2.2.2.2.2.2.2.2.2.2.1 rfl 5 rfl rfl (by decide) rfl ?_
          refine J_goto hK qd0_26.2.2.2.2.2.2.2.2.2.2.2.1 (n := 14) rfl ?_
          exact J_loc [1, 2, 3, 4, 5, 0] rfl (ih13 z14 (z15 + 1) z16 z17 (lpc hs13 hr13))
        · have hs13 := ip hc31 hs13
          refine J_aload_n hK qd0_25.2.1 rfl 1 rfl rfl ?_
          refine J_iload hK qd0_25.2.2.1 rfl 5 rfl ?_
          refine J_iconst (v := 2) hK qd0_25.2.2.2.1 rfl (by decide) ?_
          obtain ⟨v37, e38, hs13⟩ := bs hs13
          refine J_callV (m := 5) (m' := 5) (ce' := 0) (sl' := 0) (gr := [gCh d h0 (h1 0) a0_after (h3 0) x0_gained, gTr d h1 (h2 0) x1_left x1_earned x1_turnCost x1_turnWayless, gWy d h2 x2_edgeA x2_edgeB x2_edgeCost x2_edgeLine x2_change x2_away x2_steps x2_nodes x2_stepCount x2_open x2_openCount x2_seen x2_edgeCount x2_aim, gLd d h3 g2 g3 g4 g5 z16 g7 g8 g9 g10 x3_knownFree z17]) (gs' := fun _ => [gCh d h0 (h1 0) a0_after (h3 0) x0_gained, gTr d h1 (h2 0) x1_left x1_earned x1_turnCost x1_turnWayless, gWy d h2 x2_edgeA x2_edgeB x2_edgeCost x2_edgeLine x2_change x2_away x2_steps x2_nodes x2_stepCount x2_open x2_openCount x2_seen x2_edgeCount x2_aim, gLd d h3 g2 g3 g4 g5 z16 g7 g8 g9 g10 x3_knownFree z17, gLd d h4 x4_lineCount x4_goodsCount x4_workCount x4_years x4_lines x4_goods x4_works x4_change x4_coin x4_knownFree x4_isKnown]) (st' := fun _ => [.int v37]) (st := []) hK qd0_25.2.2.2.2.1 cv_RX0_98 iv_yX1_ofLine (As := [.int z15, .int (2)]) (kX1_ofLine _ d h4 x4_lineCount x4_goodsCount x4_workCount x4_years x4_lines x4_goods x4_works x4_change x4_coin x4_knownFree x4_isKnown z15 (2) e38) rfl rfl (Nat.le_of_ble_eq_true rfl) (by decide) 4 0 rfl rfl rfl [4] [0, 1, 2, 3] rfl (by decide +kernel) rfl rfl [0, 1, 2, 3, 4] (by decide +kernel) (fun _ => rfl) (fun _ => rfl) rfl rfl rfl (fun _ => rfl) (fun _ => ?_)
          refine J_iload_n hK qd0_25.2.2.2.2.2.1 rfl 2 rfl rfl ?_
          refine J_ishr hK qd0_25.2.2.2.2.2.2.1 rfl ?_
          refine J_iconst (v := 1) hK qd0_25.2.2.2.2.2.2.2.1 rfl (by decide) ?_
          refine J_iand hK qd0_25.2.2.2.2.2.2.2.2.1 rfl ?_
          have j62 : ∀ (y39 : Int32), fX0_costOfWidth_j62 p2 x3_knownFree g2 g3 g4 g5 g7 g8 g9 g10 z15 z16 z17 y39 = some rr13 → J d Φ 6 [gCh d h0 (h1 0) a0_after (h3 0) x0_gained, gTr d h1 (h2 0) x1_left x1_earned x1_turnCost x1_turnWayless, gWy d h2 x2_edgeA x2_edgeB x2_edgeCost x2_edgeLine x2_change x2_away x2_steps x2_nodes x2_stepCount x2_open x2_openCount x2_seen x2_edgeCount x2_aim, gLd d h3 g2 g3 g4 g5 z16 g7 g8 g9 g10 x3_knownFree z17, gLd d h4 x4_lineCount x4_goodsCount x4_workCount x4_years x4_lines x4_goods x4_works x4_change x4_coin x4_knownFree x4_isKnown] 0 0 62 [(0, .ref (h0 0)), (1, .ref (h4 0)), (2, .int p2), (3, .int p3), (4, .int y39), (5, .int z15)] [] := by
            intro y39 hs13
            unfold fX0_costOfWidth_j62 at hs13
            refine J_aload_n hK qd0_26.2.2.2.1 rfl 0 rfl rfl ?_
            refine J_get hK fo_RX0_29 qd0_26.2.2.2.2.1 rfl 0 0 rfl rfl rfl ?_
            refine J_iload hK qd0_26.2.2.2.2.2.1 rfl 5 rfl ?_
            refine J_iconst (v := 1) hK qd0_26.2.2.2.2.2.2.1 rfl (by decide) ?_
            refine J_iload_n hK qd0_26.2.2.2.2.2.2.2.1 rfl 2 rfl rfl ?_
            refine J_ishl hK qd0_26.2.2.2.2.2.2.2.2.1 rfl ?_
            obtain ⟨⟨g40, g41⟩, e42, hs13⟩ := bs hs13
            have hs13 := un2 hs13
            refine J_callV (m := 5) (m' := 5) (ce' := 0) (sl' := 0) (gr := [gCh d h0 (h1 0) a0_after (h3 0) x0_gained, gTr d h1 (h2 0) x1_left x1_earned x1_turnCost x1_turnWayless, gWy d h2 x2_edgeA x2_edgeB x2_edgeCost x2_edgeLine x2_change x2_away x2_steps x2_nodes x2_stepCount x2_open x2_openCount x2_seen x2_edgeCount x2_aim, gLd d h4 x4_lineCount x4_goodsCount x4_workCount x4_years x4_lines x4_goods x4_works x4_change x4_coin x4_knownFree x4_isKnown]) (gs' := fun _ => [gCh d h0 (h1 0) a0_after (h3 0) x0_gained, gTr d h1 (h2 0) x1_left x1_earned x1_turnCost x1_turnWayless, gWy d h2 x2_edgeA x2_edgeB x2_edgeCost x2_edgeLine x2_change x2_away x2_steps x2_nodes x2_stepCount x2_open x2_openCount x2_seen x2_edgeCount x2_aim, gLd d h3 g2 g3 g4 g5 g40 g7 g8 g9 g10 x3_knownFree g41, gLd d h4 x4_lineCount x4_goodsCount x4_workCount x4_years x4_lines x4_goods x4_works x4_change x4_coin x4_knownFree x4_isKnown]) (st' := fun _ => []) (st := []) hK qd0_26.2.2.2.2.2.2.2.2.2.1 cv_RX0_101 iv_yX1_putWidths (As := [.int z15, .int ((1 : Int32) <<< (p2 &&& 31))]) (kX1_putWidths _ d h3 g2 g3 g4 g5 z16 g7 g8 g9 g10 x3_knownFree z17 z15 ((1 : Int32) <<< (p2 &&& 31)) e42) rfl rfl (Nat.le_of_ble_eq_true rfl) (by decide) 3 0 rfl rfl rfl [3] [0, 1, 2, 4] rfl (by decide +kernel) rfl rfl [0, 1, 2, 4, 3] (by decide +kernel) (fun _ => rfl) (fun _ => rfl) rfl rfl rfl (fun _ => rfl) (fun _ => ?_)
            refine J_iinc (L' := [(5, .int (z15 + 1)), (0, .ref (h0 0)), (1, .ref (h4 0)), (2, .int p2), (3, .int p3), (4, .int y39)]) (v := (z15 + 1)) hK qd0_26.2.2.2.2.2.2.2.2.2.2.1 rfl 5 rfl rfl (by decide) rfl ?_
            refine J_goto hK qd0_26.2.2.2.2.2.2.2.2.2.2.2.1 (n := 14) rfl ?_
            exact J_loc [1, 2, 3, 4, 5, 0] rfl (ih13 y39 (z15 + 1) g40 g41 (lpc hs13 hr13))
          refine J_if_ne (tg := 62) hK qd0_25.2.2.2.2.2.2.2.2.2.1 rfl rfl (fun hc45 => ?_) (fun hc45 => ?_)
          · have hs13 := iq hc45 hs13
            exact (j62 z14 hs13)
          · have hs13 := ip hc45 hs13
            refine J_iload hK qd0_25.2.2.2.2.2.2.2.2.2.2.1 rfl 4 rfl ?_
            refine J_iload_n hK qd0_25.2.2.2.2.2.2.2.2.2.2.2.1 rfl 3 rfl rfl ?_
            refine J_aload_n hK qd0_25.2.2.2.2.2.2.2.2.2.2.2.2.1 rfl 1 rfl rfl ?_
            refine J_iload hK qd0_25.2.2.2.2.2.2.2.2.2.2.2.2.2.1 rfl 5 rfl ?_
            refine J_iconst (v := 3) hK qd0_25.2.2.2.2.2.2.2.2.2.2.2.2.2.2.1 rfl (by decide) ?_
            obtain ⟨v43, e44, hs13⟩ := bs hs13
            refine J_callV (m := 5) (m' := 5) (ce' := 0) (sl' := 0) (gr := [gCh d h0 (h1 0) a0_after (h3 0) x0_gained, gTr d h1 (h2 0) x1_left x1_earned x1_turnCost x1_turnWayless, gWy d h2 x2_edgeA x2_edgeB x2_edgeCost x2_edgeLine x2_change x2_away x2_steps x2_nodes x2_stepCount x2_open x2_openCount x2_seen x2_edgeCount x2_aim, gLd d h3 g2 g3 g4 g5 z16 g7 g8 g9 g10 x3_knownFree z17]) (gs' := fun _ => [gCh d h0 (h1 0) a0_after (h3 0) x0_gained, gTr d h1 (h2 0) x1_left x1_earned x1_turnCost x1_turnWayless, gWy d h2 x2_edgeA x2_edgeB x2_edgeCost x2_edgeLine x2_change x2_away x2_steps x2_nodes x2_stepCount x2_open x2_openCount x2_seen x2_edgeCount x2_aim, gLd d h3 g2 g3 g4 g5 z16 g7 g8 g9 g10 x3_knownFree z17, gLd d h4 x4_lineCount x4_goodsCount x4_workCount x4_years x4_lines x4_goods x4_works x4_change x4_coin x4_knownFree x4_isKnown]) (st' := fun _ => [.int v43, .int p3, .int z14]) (st := [.int p3, .int z14]) hK qd0_25.2.2.2.2.2.2.2.2.2.2.2.2.2.2.2.1 cv_RX0_98 iv_yX1_ofLine (As := [.int z15, .int (3)]) (kX1_ofLine _ d h4 x4_lineCount x4_goodsCount x4_workCount x4_years x4_lines x4_goods x4_works x4_change x4_coin x4_knownFree x4_isKnown z15 (3) e44) rfl rfl (Nat.le_of_ble_eq_true rfl) (by decide) 4 0 rfl rfl rfl [4] [0, 1, 2, 3] rfl (by decide +kernel) rfl rfl [0, 1, 2, 3, 4] (by decide +kernel) (fun _ => rfl) (fun _ => rfl) rfl rfl rfl (fun _ => rfl) (fun _ => ?_)
            refine J_imul hK qd0_26.1 rfl ?_
            refine J_iadd hK qd0_26.2.1 rfl ?_
            refine J_istore (L' := [(4, .int (z14 + (p3 * v43))), (0, .ref (h0 0)), (1, .ref (h4 0)), (2, .int p2), (3, .int p3), (5, .int z15)]) hK qd0_26.2.2.1 rfl (by decide) rfl ?_
            exact J_loc [1, 2, 3, 4, 0, 5] rfl (j62 (z14 + (p3 * v43)) hs13)
  exact J_loc [2, 3, 4, 5, 1, 0] rfl (lo13 n (0) (0) g6 g11 hl13)

def fX5_note (X0 : WyT) (p1 : Int32) (p2 : Int32) : Option ((Nat → Int32) × (Nat → Int32) × Int32) :=
  u14 (fun (x0_edgeA : (Nat → Int32)) (x0_edgeB : (Nat → Int32)) (x0_edgeCost : (Nat → Int32)) (x0_edgeLine : (Nat → Int32)) (x0_change : (Nat → Int32)) (x0_away : (Nat → Int32)) (x0_steps : (Nat → Int32)) (x0_nodes : (Nat → Int32)) (x0_stepCount : Int32) (x0_open : (Nat → Int32)) (x0_openCount : Int32) (x0_seen : Int64) (x0_edgeCount : Int32) (x0_aim : Int32) => if 36 ≤ x0_stepCount then (some (x0_steps, x0_nodes, x0_stepCount)) else ((wr 36 x0_steps x0_stepCount p1).bind fun f1 => (wr 36 x0_nodes x0_stepCount p2).bind fun f2 => some (f1, f2, (x0_stepCount + 1)))) X0
set_option maxHeartbeats 4000000 in
set_option maxRecDepth 100000 in
theorem kX5_note (l : Launch) (d : DT) (h0 : Nat → Nat) (x0_edgeA : (Nat → Int32)) (x0_edgeB : (Nat → Int32)) (x0_edgeCost : (Nat → Int32)) (x0_edgeLine : (Nat → Int32)) (x0_change : (Nat → Int32)) (x0_away : (Nat → Int32)) (x0_steps : (Nat → Int32)) (x0_nodes : (Nat → Int32)) (x0_stepCount : Int32) (x0_open : (Nat → Int32)) (x0_openCount : Int32) (x0_seen : Int64) (x0_edgeCount : Int32) (x0_aim : Int32) (p1 : Int32) (p2 : Int32)  {out : (Nat → Int32) × (Nat → Int32) × Int32} (hf : fX5_note (x0_edgeA, x0_edgeB, x0_edgeCost, x0_edgeLine, x0_change, x0_away, x0_steps, x0_nodes, x0_stepCount, x0_open, x0_openCount, x0_seen, x0_edgeCount, x0_aim) p1 p2 = some out) : Ct l d yX5_note cX5_note 3 none { frames := 0, cells := 0, slots := 0, locals := 0 } [.ref (h0 0), .int p1, .int p2] [gWy d h0 x0_edgeA x0_edgeB x0_edgeCost x0_edgeLine x0_change x0_away x0_steps x0_nodes x0_stepCount x0_open x0_openCount x0_seen x0_edgeCount x0_aim] (fun _ : Unit => (none, [gWy d h0 x0_edgeA x0_edgeB x0_edgeCost x0_edgeLine x0_change x0_away (out.1) (out.2.1) (out.2.2) x0_open x0_openCount x0_seen x0_edgeCount x0_aim])) := by
  refine Ct.of (by decide) (Nat.le_of_ble_eq_true rfl) ?_
  intro Φ hl hK hR
  subst hl
  have hK : Ok d Φ RX5 "note" cX5_note 3 none { frames := 0, cells := 0, slots := 0, locals := 0 } := hK
  unfold fX5_note at hf
  have hf := un14 hf
  show J d Φ 3 [gWy d h0 x0_edgeA x0_edgeB x0_edgeCost x0_edgeLine x0_change x0_away x0_steps x0_nodes x0_stepCount x0_open x0_openCount x0_seen x0_edgeCount x0_aim] 0 0 0 [(0, .ref (h0 0)), (1, .int p1), (2, .int p2)] []
  refine J_aload_n hK qd1_84.1 rfl 0 rfl rfl ?_
  refine J_get hK fo_RX5_79 qd1_84.2.1 rfl 0 0 rfl rfl rfl ?_
  refine J_bipush (v := 36) hK qd1_84.2.2.1 rfl (by decide) ?_
  refine J_icmp_ge (tg := 39) hK qd1_84.2.2.2.1 rfl rfl (fun hc6 => ?_) (fun hc6 => ?_)
  · have hf := ip hc6 hf
    obtain rfl := Option.some.inj hf
    exact J_vret hK hR qd1_85.2.2.2.2.2.2.1 () rfl (by decide) (by decide)
  · have hf := iq hc6 hf
    refine J_aload_n hK qd1_84.2.2.2.2.1 rfl 0 rfl rfl ?_
    refine J_get hK fo_RX5_30 qd1_84.2.2.2.2.2.1 rfl 0 0 rfl rfl rfl ?_
    refine J_aload_n hK qd1_84.2.2.2.2.2.2.1 rfl 0 rfl rfl ?_
    refine J_get hK fo_RX5_79 qd1_84.2.2.2.2.2.2.2.1 rfl 0 0 rfl rfl rfl ?_
    refine J_iload_n hK qd1_84.2.2.2.2.2.2.2.2.1 rfl 1 rfl rfl ?_
    obtain ⟨f1, ef1, hf⟩ := bs hf
    refine J_iast (g' := gWy d h0 x0_edgeA x0_edgeB x0_edgeCost x0_edgeLine x0_change x0_away f1 x0_nodes x0_stepCount x0_open x0_openCount x0_seen x0_edgeCount x0_aim) (gs' := [gWy d h0 x0_edgeA x0_edgeB x0_edgeCost x0_edgeLine x0_change x0_away f1 x0_nodes x0_stepCount x0_open x0_openCount x0_seen x0_edgeCount x0_aim]) hK qd1_84.2.2.2.2.2.2.2.2.2.1 rfl 0 7 rfl rfl ef1 rfl rfl ?_
    refine J_aload_n hK qd1_84.2.2.2.2.2.2.2.2.2.2.1 rfl 0 rfl rfl ?_
    refine J_get hK fo_RX5_33 qd1_84.2.2.2.2.2.2.2.2.2.2.2.1 rfl 0 0 rfl rfl rfl ?_
    refine J_aload_n hK qd1_84.2.2.2.2.2.2.2.2.2.2.2.2.1 rfl 0 rfl rfl ?_
    refine J_get hK fo_RX5_79 qd1_84.2.2.2.2.2.2.2.2.2.2.2.2.2.1 rfl 0 0 rfl rfl rfl ?_
    refine J_iload_n hK qd1_84.2.2.2.2.2.2.2.2.2.2.2.2.2.2.1 rfl 2 rfl rfl ?_
    obtain ⟨f2, ef2, hf⟩ := bs hf
    refine J_iast (g' := gWy d h0 x0_edgeA x0_edgeB x0_edgeCost x0_edgeLine x0_change x0_away f1 f2 x0_stepCount x0_open x0_openCount x0_seen x0_edgeCount x0_aim) (gs' := [gWy d h0 x0_edgeA x0_edgeB x0_edgeCost x0_edgeLine x0_change x0_away f1 f2 x0_stepCount x0_open x0_openCount x0_seen x0_edgeCount x0_aim]) hK qd1_84.2.2.2.2.2.2.2.2.2.2.2.2.2.2.2.1 rfl 0 8 rfl rfl ef2 rfl rfl ?_
    refine J_aload_n hK qd1_85.1 rfl 0 rfl rfl ?_
    refine J_dup hK qd1_85.2.1 rfl rfl ?_
    refine J_get hK fo_RX5_79 qd1_85.2.2.1 rfl 0 0 rfl rfl rfl ?_
    refine J_iconst (v := 1) hK qd1_85.2.2.2.1 rfl (by decide) ?_
    refine J_iadd hK qd1_85.2.2.2.2.1 rfl ?_
    refine J_put (g' := gWy d h0 x0_edgeA x0_edgeB x0_edgeCost x0_edgeLine x0_change x0_away f1 f2 (x0_stepCount + 1) x0_open x0_openCount x0_seen x0_edgeCount x0_aim) (gs' := [gWy d h0 x0_edgeA x0_edgeB x0_edgeCost x0_edgeLine x0_change x0_away f1 f2 (x0_stepCount + 1) x0_open x0_openCount x0_seen x0_edgeCount x0_aim]) hK fp_RX5_79 qd1_85.2.2.2.2.2.1 rfl 0 0 rfl rfl rfl rfl (Nat.le_of_ble_eq_true rfl) rfl rfl ?_
    obtain rfl := Option.some.inj hf
    exact J_vret hK hR qd1_85.2.2.2.2.2.2.1 () rfl (by decide) (by decide)

def fX5_openIfCheapest_j27 (p1 : Int32) (p2 : Int32) (p3 : Int32) (x0_away : (Nat → Int32)) (x0_open : (Nat → Int32)) (x0_openCount : Int32) (x0_seen : Int64) (y1 : Int32) : Option ((Nat → Int32) × Int32 × Int64) :=
  if y1 = 0 then (some (x0_open, x0_openCount, x0_seen)) else ((rd 36 x0_away p1).bind fun v2 => (rd 36 x0_away p2).bind fun v3 => if v2 = (p3 + v3) then ((some (x0_seen ||| ((1 : Int64) <<< ((p2).toInt64 &&& 63)))).bind fun t4 => (wr 36 x0_open x0_openCount p2).bind fun f5 => some (f5, (x0_openCount + 1), t4)) else (some (x0_open, x0_openCount, x0_seen)))
def fX5_openIfCheapest_j26 (p1 : Int32) (p2 : Int32) (p3 : Int32) (x0_away : (Nat → Int32)) (x0_open : (Nat → Int32)) (x0_openCount : Int32) (x0_seen : Int64) : Option ((Nat → Int32) × Int32 × Int64) :=
  fX5_openIfCheapest_j27 p1 p2 p3 x0_away x0_open x0_openCount x0_seen (0)
def fX5_openIfCheapest (X0 : WyT) (p1 : Int32) (p2 : Int32) (p3 : Int32) : Option ((Nat → Int32) × Int32 × Int64) :=
  u14 (fun (x0_edgeA : (Nat → Int32)) (x0_edgeB : (Nat → Int32)) (x0_edgeCost : (Nat → Int32)) (x0_edgeLine : (Nat → Int32)) (x0_change : (Nat → Int32)) (x0_away : (Nat → Int32)) (x0_steps : (Nat → Int32)) (x0_nodes : (Nat → Int32)) (x0_stepCount : Int32) (x0_open : (Nat → Int32)) (x0_openCount : Int32) (x0_seen : Int64) (x0_edgeCount : Int32) (x0_aim : Int32) => if (lg_cmp ((x0_seen >>> ((p2).toInt64 &&& 63)) &&& (1 : Int64)) (0 : Int64)) = 0 then (if 36 ≤ x0_openCount then (fX5_openIfCheapest_j26 p1 p2 p3 x0_away x0_open x0_openCount x0_seen) else (fX5_openIfCheapest_j27 p1 p2 p3 x0_away x0_open x0_openCount x0_seen (1))) else (fX5_openIfCheapest_j26 p1 p2 p3 x0_away x0_open x0_openCount x0_seen)) X0
set_option maxHeartbeats 4000000 in
set_option maxRecDepth 100000 in
theorem kX5_openIfCheapest (l : Launch) (d : DT) (h0 : Nat → Nat) (x0_edgeA : (Nat → Int32)) (x0_edgeB : (Nat → Int32)) (x0_edgeCost : (Nat → Int32)) (x0_edgeLine : (Nat → Int32)) (x0_change : (Nat → Int32)) (x0_away : (Nat → Int32)) (x0_steps : (Nat → Int32)) (x0_nodes : (Nat → Int32)) (x0_stepCount : Int32) (x0_open : (Nat → Int32)) (x0_openCount : Int32) (x0_seen : Int64) (x0_edgeCount : Int32) (x0_aim : Int32) (p1 : Int32) (p2 : Int32) (p3 : Int32)  {out : (Nat → Int32) × Int32 × Int64} (hf : fX5_openIfCheapest (x0_edgeA, x0_edgeB, x0_edgeCost, x0_edgeLine, x0_change, x0_away, x0_steps, x0_nodes, x0_stepCount, x0_open, x0_openCount, x0_seen, x0_edgeCount, x0_aim) p1 p2 p3 = some out) : Ct l d yX5_openIfCheapest cX5_openIfCheapest 5 none { frames := 0, cells := 0, slots := 0, locals := 0 } [.ref (h0 0), .int p1, .int p2, .int p3] [gWy d h0 x0_edgeA x0_edgeB x0_edgeCost x0_edgeLine x0_change x0_away x0_steps x0_nodes x0_stepCount x0_open x0_openCount x0_seen x0_edgeCount x0_aim] (fun _ : Unit => (none, [gWy d h0 x0_edgeA x0_edgeB x0_edgeCost x0_edgeLine x0_change x0_away x0_steps x0_nodes x0_stepCount (out.1) (out.2.1) (out.2.2) x0_edgeCount x0_aim])) := by
  refine Ct.of (by decide) (Nat.le_of_ble_eq_true rfl) ?_
  intro Φ hl hK hR
  subst hl
  have hK : Ok d Φ RX5 "openIfCheapest" cX5_openIfCheapest 5 none { frames := 0, cells := 0, slots := 0, locals := 0 } := hK
  unfold fX5_openIfCheapest at hf
  have hf := un14 hf
  show J d Φ 5 [gWy d h0 x0_edgeA x0_edgeB x0_edgeCost x0_edgeLine x0_change x0_away x0_steps x0_nodes x0_stepCount x0_open x0_openCount x0_seen x0_edgeCount x0_aim] 0 0 0 [(0, .ref (h0 0)), (1, .int p1), (2, .int p2), (3, .int p3)] []
  refine J_aload_n hK qd1_101.1 rfl 0 rfl rfl ?_
  refine J_get hK fo_RX5_109 qd1_101.2.1 rfl 0 0 rfl rfl rfl ?_
  refine J_iload_n hK qd1_101.2.2.1 rfl 2 rfl rfl ?_
  refine J_lshr hK qd1_101.2.2.2.1 rfl ?_
  refine J_lconst (v := 1) hK qd1_101.2.2.2.2.1 rfl (by decide) ?_
  refine J_land hK qd1_101.2.2.2.2.2.1 rfl ?_
  refine J_lconst (v := 0) hK qd1_101.2.2.2.2.2.2.1 rfl (by decide) ?_
  refine J_lcmp hK qd1_101.2.2.2.2.2.2.2.1 rfl ?_
  have j27 : ∀ (y1 : Int32), fX5_openIfCheapest_j27 p1 p2 p3 x0_away x0_open x0_openCount x0_seen y1 = some out → J d Φ 5 [gWy d h0 x0_edgeA x0_edgeB x0_edgeCost x0_edgeLine x0_change x0_away x0_steps x0_nodes x0_stepCount x0_open x0_openCount x0_seen x0_edgeCount x0_aim] 0 0 27 [(0, .ref (h0 0)), (1, .int p1), (2, .int p2), (3, .int p3)] [.int y1] := by
    intro y1 hf
    unfold fX5_openIfCheapest_j27 at hf
    refine J_istore (L' := [(4, .int y1), (0, .ref (h0 0)), (1, .int p1), (2, .int p2), (3, .int p3)]) hK qd1_102.1 rfl (by decide) rfl ?_
    refine J_iload hK qd1_102.2.1 rfl 0 rfl ?_
    refine J_if_eq (tg := 83) hK qd1_102.2.2.1 rfl rfl (fun hc31 => ?_) (fun hc31 => ?_)
    · have hf := ip hc31 hf
      obtain rfl := Option.some.inj hf
      exact J_vret hK hR qd1_104.2.2.1 () rfl (by decide) (by decide)
    · have hf := iq hc31 hf
      refine J_aload_n hK qd1_102.2.2.2.1 rfl 1 rfl rfl ?_
      refine J_get hK fo_RX5_27 qd1_102.2.2.2.2.1 rfl 0 0 rfl rfl rfl ?_
      refine J_iload_n hK qd1_102.2.2.2.2.2.1 rfl 2 rfl rfl ?_
      obtain ⟨v2, ev2, hf⟩ := bs hf
      refine J_iald hK qd1_102.2.2.2.2.2.2.1 rfl 0 6 rfl rfl ev2 ?_
      refine J_iload_n hK qd1_102.2.2.2.2.2.2.2.1 rfl 4 rfl rfl ?_
      refine J_aload_n hK qd1_102.2.2.2.2.2.2.2.2.1 rfl 1 rfl rfl ?_
      refine J_get hK fo_RX5_27 qd1_102.2.2.2.2.2.2.2.2.2.1 rfl 0 0 rfl rfl rfl ?_
      refine J_iload_n hK qd1_102.2.2.2.2.2.2.2.2.2.2.1 rfl 3 rfl rfl ?_
      obtain ⟨v3, ev3, hf⟩ := bs hf
      refine J_iald hK qd1_102.2.2.2.2.2.2.2.2.2.2.2.1 rfl 0 6 rfl rfl ev3 ?_
      refine J_iadd hK qd1_102.2.2.2.2.2.2.2.2.2.2.2.2.1 rfl ?_
      refine J_icmp_ne (tg := 83) hK qd1_102.2.2.2.2.2.2.2.2.2.2.2.2.2.1 rfl rfl (fun hc48 => ?_) (fun hc48 => ?_)
      · have hf := iq hc48 hf
        obtain rfl := Option.some.inj hf
        exact J_vret hK hR qd1_104.2.2.1 () rfl (by decide) (by decide)
      · have hf := ip hc48 hf
        refine J_aload_n hK qd1_102.2.2.2.2.2.2.2.2.2.2.2.2.2.2.1 rfl 1 rfl rfl ?_
        refine J_dup hK qd1_102.2.2.2.2.2.2.2.2.2.2.2.2.2.2.2.1 rfl rfl ?_
        refine J_get hK fo_RX5_109 qd1_103.1 rfl 0 0 rfl rfl rfl ?_
        refine J_lconst (v := 1) hK qd1_103.2.1 rfl (by decide) ?_
        refine J_iload_n hK qd1_103.2.2.1 rfl 3 rfl rfl ?_
        refine J_lshl hK qd1_103.2.2.2.1 rfl ?_
        refine J_lor hK qd1_103.2.2.2.2.1 rfl ?_
        obtain ⟨t4, et4, hf⟩ := bs hf
        refine J_nml et4 ?_
        refine J_put (g' := gWy d h0 x0_edgeA x0_edgeB x0_edgeCost x0_edgeLine x0_change x0_away x0_steps x0_nodes x0_stepCount x0_open x0_openCount t4 x0_edgeCount x0_aim) (gs' := [gWy d h0 x0_edgeA x0_edgeB x0_edgeCost x0_edgeLine x0_change x0_away x0_steps x0_nodes x0_stepCount x0_open x0_openCount t4 x0_edgeCount x0_aim]) hK fp_RX5_109 qd1_103.2.2.2.2.2.1 rfl 0 0 rfl rfl rfl rfl (Nat.le_of_ble_eq_true rfl) rfl rfl ?_
        refine J_aload_n hK qd1_103.2.2.2.2.2.2.1 rfl 1 rfl rfl ?_
        refine J_get hK fo_RX5_36 qd1_103.2.2.2.2.2.2.2.1 rfl 0 0 rfl rfl rfl ?_
        refine J_aload_n hK qd1_103.2.2.2.2.2.2.2.2.1 rfl 1 rfl rfl ?_
        refine J_get hK fo_RX5_113 qd1_103.2.2.2.2.2.2.2.2.2.1 rfl 0 0 rfl rfl rfl ?_
        refine J_iload_n hK qd1_103.2.2.2.2.2.2.2.2.2.2.1 rfl 3 rfl rfl ?_
        obtain ⟨f5, ef5, hf⟩ := bs hf
        refine J_iast (g' := gWy d h0 x0_edgeA x0_edgeB x0_edgeCost x0_edgeLine x0_change x0_away x0_steps x0_nodes x0_stepCount f5 x0_openCount t4 x0_edgeCount x0_aim) (gs' := [gWy d h0 x0_edgeA x0_edgeB x0_edgeCost x0_edgeLine x0_change x0_away x0_steps x0_nodes x0_stepCount f5 x0_openCount t4 x0_edgeCount x0_aim]) hK qd1_103.2.2.2.2.2.2.2.2.2.2.2.1 rfl 0 9 rfl rfl ef5 rfl rfl ?_
        refine J_aload_n hK qd1_103.2.2.2.2.2.2.2.2.2.2.2.2.1 rfl 1 rfl rfl ?_
        refine J_dup hK qd1_103.2.2.2.2.2.2.2.2.2.2.2.2.2.1 rfl rfl ?_
        refine J_get hK fo_RX5_113 qd1_103.2.2.2.2.2.2.2.2.2.2.2.2.2.2.1 rfl 0 0 rfl rfl rfl ?_
        refine J_iconst (v := 1) hK qd1_103.2.2.2.2.2.2.2.2.2.2.2.2.2.2.2.1 rfl (by decide) ?_
        refine J_iadd hK qd1_104.1 rfl ?_
        refine J_put (g' := gWy d h0 x0_edgeA x0_edgeB x0_edgeCost x0_edgeLine x0_change x0_away x0_steps x0_nodes x0_stepCount f5 (x0_openCount + 1) t4 x0_edgeCount x0_aim) (gs' := [gWy d h0 x0_edgeA x0_edgeB x0_edgeCost x0_edgeLine x0_change x0_away x0_steps x0_nodes x0_stepCount f5 (x0_openCount + 1) t4 x0_edgeCount x0_aim]) hK fp_RX5_113 qd1_104.2.1 rfl 0 0 rfl rfl rfl rfl (Nat.le_of_ble_eq_true rfl) rfl rfl ?_
        obtain rfl := Option.some.inj hf
        exact J_vret hK hR qd1_104.2.2.1 () rfl (by decide) (by decide)
  have j26 : fX5_openIfCheapest_j26 p1 p2 p3 x0_away x0_open x0_openCount x0_seen = some out → J d Φ 5 [gWy d h0 x0_edgeA x0_edgeB x0_edgeCost x0_edgeLine x0_change x0_away x0_steps x0_nodes x0_stepCount x0_open x0_openCount x0_seen x0_edgeCount x0_aim] 0 0 26 [(0, .ref (h0 0)), (1, .int p1), (2, .int p2), (3, .int p3)] [] := by
    intro  hf
    unfold fX5_openIfCheapest_j26 at hf
    refine J_iconst (v := 0) hK qd1_101.2.2.2.2.2.2.2.2.2.2.2.2.2.2.2.1 rfl (by decide) ?_
    exact (j27 (0) hf)
  refine J_if_ne (tg := 26) hK qd1_101.2.2.2.2.2.2.2.2.1 rfl rfl (fun hc10 => ?_) (fun hc10 => ?_)
  · have hf := iq hc10 hf
    exact (j26  hf)
  · have hf := ip hc10 hf
    refine J_aload_n hK qd1_101.2.2.2.2.2.2.2.2.2.1 rfl 0 rfl rfl ?_
    refine J_get hK fo_RX5_113 qd1_101.2.2.2.2.2.2.2.2.2.2.1 rfl 0 0 rfl rfl rfl ?_
    refine J_bipush (v := 36) hK qd1_101.2.2.2.2.2.2.2.2.2.2.2.1 rfl (by decide) ?_
    refine J_icmp_ge (tg := 26) hK qd1_101.2.2.2.2.2.2.2.2.2.2.2.2.1 rfl rfl (fun hc19 => ?_) (fun hc19 => ?_)
    · have hf := ip hc19 hf
      exact (j26  hf)
    · have hf := iq hc19 hf
      refine J_iconst (v := 1) hK qd1_101.2.2.2.2.2.2.2.2.2.2.2.2.2.1 rfl (by decide) ?_
      refine J_goto hK qd1_101.2.2.2.2.2.2.2.2.2.2.2.2.2.2.1 (n := 27) rfl ?_
      exact (j27 (1) hf)

def fX5_otherEnd (X0 : WyT) (p1 : Int32) (p2 : Int32) : Option (Int32) :=
  u14 (fun (x0_edgeA : (Nat → Int32)) (x0_edgeB : (Nat → Int32)) (x0_edgeCost : (Nat → Int32)) (x0_edgeLine : (Nat → Int32)) (x0_change : (Nat → Int32)) (x0_away : (Nat → Int32)) (x0_steps : (Nat → Int32)) (x0_nodes : (Nat → Int32)) (x0_stepCount : Int32) (x0_open : (Nat → Int32)) (x0_openCount : Int32) (x0_seen : Int64) (x0_edgeCount : Int32) (x0_aim : Int32) => (rd 60 x0_edgeA p1).bind fun v1 => if v1 = p2 then ((rd 60 x0_edgeB p1).bind fun v4 => some v4) else ((rd 60 x0_edgeB p1).bind fun v2 => if v2 = p2 then ((rd 60 x0_edgeA p1).bind fun v3 => some v3) else (some (-1)))) X0
set_option maxHeartbeats 4000000 in
set_option maxRecDepth 100000 in
theorem kX5_otherEnd (l : Launch) (d : DT) (h0 : Nat → Nat) (x0_edgeA : (Nat → Int32)) (x0_edgeB : (Nat → Int32)) (x0_edgeCost : (Nat → Int32)) (x0_edgeLine : (Nat → Int32)) (x0_change : (Nat → Int32)) (x0_away : (Nat → Int32)) (x0_steps : (Nat → Int32)) (x0_nodes : (Nat → Int32)) (x0_stepCount : Int32) (x0_open : (Nat → Int32)) (x0_openCount : Int32) (x0_seen : Int64) (x0_edgeCount : Int32) (x0_aim : Int32) (p1 : Int32) (p2 : Int32)  {out : Int32} (hf : fX5_otherEnd (x0_edgeA, x0_edgeB, x0_edgeCost, x0_edgeLine, x0_change, x0_away, x0_steps, x0_nodes, x0_stepCount, x0_open, x0_openCount, x0_seen, x0_edgeCount, x0_aim) p1 p2 = some out) : Ct l d yX5_otherEnd cX5_otherEnd 3 (some .int) { frames := 0, cells := 0, slots := 0, locals := 0 } [.ref (h0 0), .int p1, .int p2] [gWy d h0 x0_edgeA x0_edgeB x0_edgeCost x0_edgeLine x0_change x0_away x0_steps x0_nodes x0_stepCount x0_open x0_openCount x0_seen x0_edgeCount x0_aim] (fun _ : Unit => (some (.int out), [gWy d h0 x0_edgeA x0_edgeB x0_edgeCost x0_edgeLine x0_change x0_away x0_steps x0_nodes x0_stepCount x0_open x0_openCount x0_seen x0_edgeCount x0_aim])) := by
  refine Ct.of (by decide) (Nat.le_of_ble_eq_true rfl) ?_
  intro Φ hl hK hR
  subst hl
  have hK : Ok d Φ RX5 "otherEnd" cX5_otherEnd 3 (some .int) { frames := 0, cells := 0, slots := 0, locals := 0 } := hK
  unfold fX5_otherEnd at hf
  have hf := un14 hf
  show J d Φ 3 [gWy d h0 x0_edgeA x0_edgeB x0_edgeCost x0_edgeLine x0_change x0_away x0_steps x0_nodes x0_stepCount x0_open x0_openCount x0_seen x0_edgeCount x0_aim] 0 0 0 [(0, .ref (h0 0)), (1, .int p1), (2, .int p2)] []
  refine J_aload_n hK qd1_91.1 rfl 0 rfl rfl ?_
  refine J_get hK fo_RX5_9 qd1_91.2.1 rfl 0 0 rfl rfl rfl ?_
  refine J_iload_n hK qd1_91.2.2.1 rfl 1 rfl rfl ?_
  obtain ⟨v1, ev1, hf⟩ := bs hf
  refine J_iald hK qd1_91.2.2.2.1 rfl 0 1 rfl rfl ev1 ?_
  refine J_iload_n hK qd1_91.2.2.2.2.1 rfl 2 rfl rfl ?_
  refine J_icmp_ne (tg := 17) hK qd1_91.2.2.2.2.2.1 rfl rfl (fun hc7 => ?_) (fun hc7 => ?_)
  · have hf := iq hc7 hf
    refine J_aload_n hK qd1_91.2.2.2.2.2.2.2.2.2.2.2.1 rfl 0 rfl rfl ?_
    refine J_get hK fo_RX5_15 qd1_91.2.2.2.2.2.2.2.2.2.2.2.2.1 rfl 0 0 rfl rfl rfl ?_
    refine J_iload_n hK qd1_91.2.2.2.2.2.2.2.2.2.2.2.2.2.1 rfl 1 rfl rfl ?_
    obtain ⟨v2, ev2, hf⟩ := bs hf
    refine J_iald hK qd1_91.2.2.2.2.2.2.2.2.2.2.2.2.2.2.1 rfl 0 2 rfl rfl ev2 ?_
    refine J_iload_n hK qd1_91.2.2.2.2.2.2.2.2.2.2.2.2.2.2.2.1 rfl 2 rfl rfl ?_
    refine J_icmp_ne (tg := 36) hK qd1_92.1 rfl rfl (fun hc24 => ?_) (fun hc24 => ?_)
    · have hf := iq hc24 hf
      refine J_iconst (v := (-1)) hK qd1_92.2.2.2.2.2.2.1 rfl (by decide) ?_
      obtain rfl := Option.some.inj hf
      exact J_iret hK hR qd1_92.2.2.2.2.2.2.2.1 () rfl (by decide) (by decide)
    · have hf := ip hc24 hf
      refine J_aload_n hK qd1_92.2.1 rfl 0 rfl rfl ?_
      refine J_get hK fo_RX5_9 qd1_92.2.2.1 rfl 0 0 rfl rfl rfl ?_
      refine J_iload_n hK qd1_92.2.2.2.1 rfl 1 rfl rfl ?_
      obtain ⟨v3, ev3, hf⟩ := bs hf
      refine J_iald hK qd1_92.2.2.2.2.1 rfl 0 1 rfl rfl ev3 ?_
      refine J_goto hK qd1_92.2.2.2.2.2.1 (n := 37) rfl ?_
      obtain rfl := Option.some.inj hf
      exact J_iret hK hR qd1_92.2.2.2.2.2.2.2.1 () rfl (by decide) (by decide)
  · have hf := ip hc7 hf
    refine J_aload_n hK qd1_91.2.2.2.2.2.2.1 rfl 0 rfl rfl ?_
    refine J_get hK fo_RX5_15 qd1_91.2.2.2.2.2.2.2.1 rfl 0 0 rfl rfl rfl ?_
    refine J_iload_n hK qd1_91.2.2.2.2.2.2.2.2.1 rfl 1 rfl rfl ?_
    obtain ⟨v4, ev4, hf⟩ := bs hf
    refine J_iald hK qd1_91.2.2.2.2.2.2.2.2.2.1 rfl 0 2 rfl rfl ev4 ?_
    obtain rfl := Option.some.inj hf
    exact J_iret hK hR qd1_91.2.2.2.2.2.2.2.2.2.2.1 () rfl (by decide) (by decide)

def fX5_arrives_s114 (x0_edgeA : (Nat → Int32)) (x0_edgeB : (Nat → Int32)) (x0_edgeCost : (Nat → Int32)) (x0_edgeLine : (Nat → Int32)) (x0_change : (Nat → Int32)) (x0_away : (Nat → Int32)) (x0_steps : (Nat → Int32)) (x0_nodes : (Nat → Int32)) (x0_stepCount : Int32) (x0_edgeCount : Int32) (x0_aim : Int32) (v15 : Int32) (z26 : Int32) (z27 : (Nat → Int32)) (z28 : Int32) (z29 : Int64) : Option ((Int32 × (Nat → Int32) × Int32 × Int64) ⊕ ((Nat → Int32) × Int32 × Int64)) :=
  if x0_edgeCount ≤ z26 then (some (.inr (z27, z28, z29))) else ((fX5_otherEnd (x0_edgeA, x0_edgeB, x0_edgeCost, x0_edgeLine, x0_change, x0_away, x0_steps, x0_nodes, x0_stepCount, z27, z28, z29, x0_edgeCount, x0_aim) z26 v15).bind (fun v34 => if v34 = (-1) then (some (.inl ((z26 + 1), z27, z28, z29))) else ((rd 60 x0_edgeCost z26).bind fun v36 => (fX5_openIfCheapest (x0_edgeA, x0_edgeB, x0_edgeCost, x0_edgeLine, x0_change, x0_away, x0_steps, x0_nodes, x0_stepCount, z27, z28, z29, x0_edgeCount, x0_aim) v15 v34 v36).bind (u3 fun g37 g38 g39 => some (.inl ((z26 + 1), g37, g38, g39))))))
def fX5_arrives_s79 (x0_edgeA : (Nat → Int32)) (x0_edgeB : (Nat → Int32)) (x0_edgeCost : (Nat → Int32)) (x0_edgeLine : (Nat → Int32)) (x0_change : (Nat → Int32)) (x0_away : (Nat → Int32)) (x0_steps : (Nat → Int32)) (x0_nodes : (Nat → Int32)) (x0_stepCount : Int32) (x0_edgeCount : Int32) (x0_aim : Int32) (v15 : Int32) (z17 : Int32) (z18 : (Nat → Int32)) (z19 : Int32) (z20 : Int64) : Option ((Int32 × (Nat → Int32) × Int32 × Int64) ⊕ ((Nat → Int32) × Int32 × Int64)) :=
  if 3 ≤ z17 then (some (.inr (z18, z19, z20))) else ((rd 12 x0_change (v15 / 3)).bind fun v41 => (fX5_openIfCheapest (x0_edgeA, x0_edgeB, x0_edgeCost, x0_edgeLine, x0_change, x0_away, x0_steps, x0_nodes, x0_stepCount, z18, z19, z20, x0_edgeCount, x0_aim) v15 (((v15 / 3) * 3) + z17) v41).bind (u3 fun g42 g43 g44 => some (.inl ((z17 + 1), g42, g43, g44))))
def fX5_arrives_s24 (n : Nat) (x0_edgeA : (Nat → Int32)) (x0_edgeB : (Nat → Int32)) (x0_edgeCost : (Nat → Int32)) (x0_edgeLine : (Nat → Int32)) (x0_change : (Nat → Int32)) (x0_away : (Nat → Int32)) (x0_steps : (Nat → Int32)) (x0_nodes : (Nat → Int32)) (x0_stepCount : Int32) (x0_edgeCount : Int32) (x0_aim : Int32) (z4 : Int32) (z5 : (Nat → Int32)) (z6 : Int32) (z7 : Int64) : Option ((Int32 × (Nat → Int32) × Int32 × Int64) ⊕ ((((Nat → Int32) × Int32 × Int64) ⊕ ((Nat → Int32) × Int32 × Int64)))) :=
  if 36 ≤ z4 then (some (.inr (.inr (z5, z6, z7)))) else (if z6 ≤ 0 then (some (.inr (.inr (z5, z6, z7)))) else ((rd 36 z5 (z6 - 1)).bind fun v15 => if (v15 / 3) = x0_aim then (some (.inr (.inl (z5, (z6 - 1), z7)))) else ((lp (u4 (fX5_arrives_s79 x0_edgeA x0_edgeB x0_edgeCost x0_edgeLine x0_change x0_away x0_steps x0_nodes x0_stepCount x0_edgeCount x0_aim v15)) n (0, z5, (z6 - 1), z7)).bind (u3 fun w22 w23 w24 => (lp (u4 (fX5_arrives_s114 x0_edgeA x0_edgeB x0_edgeCost x0_edgeLine x0_change x0_away x0_steps x0_nodes x0_stepCount x0_edgeCount x0_aim v15)) n (0, w22, w23, w24)).bind (u3 fun w31 w32 w33 => some (.inl ((z4 + 1), w31, w32, w33)))))))
def fX5_arrives (n : Nat) (X0 : WyT) (p1 : Int32) (p2 : Int64) : Option (Int32 × (Nat → Int32) × Int32 × Int64) :=
  u14 (fun (x0_edgeA : (Nat → Int32)) (x0_edgeB : (Nat → Int32)) (x0_edgeCost : (Nat → Int32)) (x0_edgeLine : (Nat → Int32)) (x0_change : (Nat → Int32)) (x0_away : (Nat → Int32)) (x0_steps : (Nat → Int32)) (x0_nodes : (Nat → Int32)) (x0_stepCount : Int32) (x0_open : (Nat → Int32)) (x0_openCount : Int32) (x0_seen : Int64) (x0_edgeCount : Int32) (x0_aim : Int32) => (some (p2 ||| ((1 : Int64) <<< ((p1).toInt64 &&& 63)))).bind fun t1 => (wr 36 x0_open (0) p1).bind fun f2 => (lp (u4 (fX5_arrives_s24 n x0_edgeA x0_edgeB x0_edgeCost x0_edgeLine x0_change x0_away x0_steps x0_nodes x0_stepCount x0_edgeCount x0_aim)) n (0, f2, 1, t1)).bind (Sum.elim (u3 fun w9 w10 w11 => some (1, w9, w10, w11)) (u3 fun w12 w13 w14 => some (0, w12, w13, w14)))) X0
set_option maxHeartbeats 4000000 in
set_option maxRecDepth 100000 in
theorem kX5_arrives (l : Launch) (d : DT) (h0 : Nat → Nat) (n : Nat) (x0_edgeA : (Nat → Int32)) (x0_edgeB : (Nat → Int32)) (x0_edgeCost : (Nat → Int32)) (x0_edgeLine : (Nat → Int32)) (x0_change : (Nat → Int32)) (x0_away : (Nat → Int32)) (x0_steps : (Nat → Int32)) (x0_nodes : (Nat → Int32)) (x0_stepCount : Int32) (x0_open : (Nat → Int32)) (x0_openCount : Int32) (x0_seen : Int64) (x0_edgeCount : Int32) (x0_aim : Int32) (p1 : Int32) (p2 : Int64)  {out : Int32 × (Nat → Int32) × Int32 × Int64} (hf : fX5_arrives n (x0_edgeA, x0_edgeB, x0_edgeCost, x0_edgeLine, x0_change, x0_away, x0_steps, x0_nodes, x0_stepCount, x0_open, x0_openCount, x0_seen, x0_edgeCount, x0_aim) p1 p2 = some out) : Ct l d yX5_arrives cX5_arrives 9 (some .boolean) { frames := 1, cells := 0, slots := 0, locals := 24 } [.ref (h0 0), .int p1, .long p2] [gWy d h0 x0_edgeA x0_edgeB x0_edgeCost x0_edgeLine x0_change x0_away x0_steps x0_nodes x0_stepCount x0_open x0_openCount x0_seen x0_edgeCount x0_aim] (fun _ : Unit => (some (.int out.1), [gWy d h0 x0_edgeA x0_edgeB x0_edgeCost x0_edgeLine x0_change x0_away x0_steps x0_nodes x0_stepCount (out.2.1) (out.2.2.1) (out.2.2.2) x0_edgeCount x0_aim])) := by
  refine Ct.of (by decide) (Nat.le_of_ble_eq_true rfl) ?_
  intro Φ hl hK hR
  subst hl
  have hK : Ok d Φ RX5 "arrives" cX5_arrives 9 (some .boolean) { frames := 1, cells := 0, slots := 0, locals := 24 } := hK
  unfold fX5_arrives at hf
  have hf := un14 hf
  show J d Φ 9 [gWy d h0 x0_edgeA x0_edgeB x0_edgeCost x0_edgeLine x0_change x0_away x0_steps x0_nodes x0_stepCount x0_open x0_openCount x0_seen x0_edgeCount x0_aim] 0 0 0 [(0, .ref (h0 0)), (1, .int p1), (2, .long p2)] []
  refine J_aload_n hK qd1_95.1 rfl 0 rfl rfl ?_
  refine J_lload_n hK qd1_95.2.1 rfl 2 rfl rfl ?_
  refine J_lconst (v := 1) hK qd1_95.2.2.1 rfl (by decide) ?_
  refine J_iload_n hK qd1_95.2.2.2.1 rfl 1 rfl rfl ?_
  refine J_lshl hK qd1_95.2.2.2.2.1 rfl ?_
  refine J_lor hK qd1_95.2.2.2.2.2.1 rfl ?_
  obtain ⟨t1, et1, hf⟩ := bs hf
  refine J_nml et1 ?_
  refine J_put (g' := gWy d h0 x0_edgeA x0_edgeB x0_edgeCost x0_edgeLine x0_change x0_away x0_steps x0_nodes x0_stepCount x0_open x0_openCount t1 x0_edgeCount x0_aim) (gs' := [gWy d h0 x0_edgeA x0_edgeB x0_edgeCost x0_edgeLine x0_change x0_away x0_steps x0_nodes x0_stepCount x0_open x0_openCount t1 x0_edgeCount x0_aim]) hK fp_RX5_109 qd1_95.2.2.2.2.2.2.1 rfl 0 0 rfl rfl rfl rfl (Nat.le_of_ble_eq_true rfl) rfl rfl ?_
  refine J_aload_n hK qd1_95.2.2.2.2.2.2.2.1 rfl 0 rfl rfl ?_
  refine J_get hK fo_RX5_36 qd1_95.2.2.2.2.2.2.2.2.1 rfl 0 0 rfl rfl rfl ?_
  refine J_iconst (v := 0) hK qd1_95.2.2.2.2.2.2.2.2.2.1 rfl (by decide) ?_
  refine J_iload_n hK qd1_95.2.2.2.2.2.2.2.2.2.2.1 rfl 1 rfl rfl ?_
  obtain ⟨f2, ef2, hf⟩ := bs hf
  refine J_iast (g' := gWy d h0 x0_edgeA x0_edgeB x0_edgeCost x0_edgeLine x0_change x0_away x0_steps x0_nodes x0_stepCount f2 x0_openCount t1 x0_edgeCount x0_aim) (gs' := [gWy d h0 x0_edgeA x0_edgeB x0_edgeCost x0_edgeLine x0_change x0_away x0_steps x0_nodes x0_stepCount f2 x0_openCount t1 x0_edgeCount x0_aim]) hK qd1_95.2.2.2.2.2.2.2.2.2.2.2.1 rfl 0 9 rfl rfl ef2 rfl rfl ?_
  refine J_aload_n hK qd1_95.2.2.2.2.2.2.2.2.2.2.2.2.1 rfl 0 rfl rfl ?_
  refine J_iconst (v := 1) hK qd1_95.2.2.2.2.2.2.2.2.2.2.2.2.2.1 rfl (by decide) ?_
  refine J_put (g' := gWy d h0 x0_edgeA x0_edgeB x0_edgeCost x0_edgeLine x0_change x0_away x0_steps x0_nodes x0_stepCount f2 (1) t1 x0_edgeCount x0_aim) (gs' := [gWy d h0 x0_edgeA x0_edgeB x0_edgeCost x0_edgeLine x0_change x0_away x0_steps x0_nodes x0_stepCount f2 (1) t1 x0_edgeCount x0_aim]) hK fp_RX5_113 qd1_95.2.2.2.2.2.2.2.2.2.2.2.2.2.2.1 rfl 0 0 rfl rfl rfl rfl (Nat.le_of_ble_eq_true rfl) rfl rfl ?_
  refine J_iconst (v := 0) hK qd1_95.2.2.2.2.2.2.2.2.2.2.2.2.2.2.2.1 rfl (by decide) ?_
  refine J_istore (L' := [(4, .int (0)), (0, .ref (h0 0)), (1, .int p1), (2, .long p2)]) hK qd1_96.1 rfl (by decide) rfl ?_
  obtain ⟨e8, hl3, hf⟩ := bs hf
  have hx3_74 : ∀ (w9 : (Nat → Int32)) (w10 : Int32) (w11 : Int64), (.inl (w9, w10, w11)) = e8 → J d Φ 9 [gWy d h0 x0_edgeA x0_edgeB x0_edgeCost x0_edgeLine x0_change x0_away x0_steps x0_nodes x0_stepCount w9 w10 w11 x0_edgeCount x0_aim] 0 0 74 [] [] := by
    intro w9 w10 w11 he
    rw [← he] at hf
    simp only [Sum.elim_inl, Sum.elim_inr] at hf
    have hf := un3 hf
    refine J_iconst (v := 1) hK qd1_97.2.2.2.2.2.2.2.2.2.2.2.1 rfl (by decide) ?_
    obtain rfl := Option.some.inj hf
    exact J_zret hK hR qd1_97.2.2.2.2.2.2.2.2.2.2.2.2.1 () rfl rfl (by decide) (by decide)
  have hx3_166 : ∀ (w12 : (Nat → Int32)) (w13 : Int32) (w14 : Int64), (.inr (w12, w13, w14)) = e8 → J d Φ 9 [gWy d h0 x0_edgeA x0_edgeB x0_edgeCost x0_edgeLine x0_change x0_away x0_steps x0_nodes x0_stepCount w12 w13 w14 x0_edgeCount x0_aim] 0 0 166 [] [] := by
    intro w12 w13 w14 he
    rw [← he] at hf
    simp only [Sum.elim_inl, Sum.elim_inr] at hf
    have hf := un3 hf
    refine J_iconst (v := 0) hK qd1_100.2.2.2.2.2.2.2.2.2.2.1 rfl (by decide) ?_
    obtain rfl := Option.some.inj hf
    exact J_zret hK hR qd1_100.2.2.2.2.2.2.2.2.2.2.2.1 () rfl rfl (by decide) (by decide)
  have lo3 : ∀ (k : Nat) (z4 : Int32) (z5 : (Nat → Int32)) (z6 : Int32) (z7 : Int64), lp (u4 (fX5_arrives_s24 n x0_edgeA x0_edgeB x0_edgeCost x0_edgeLine x0_change x0_away x0_steps x0_nodes x0_stepCount x0_edgeCount x0_aim)) k (z4, z5, z6, z7) = some e8 → J d Φ 9 [gWy d h0 x0_edgeA x0_edgeB x0_edgeCost x0_edgeLine x0_change x0_away x0_steps x0_nodes x0_stepCount z5 z6 z7 x0_edgeCount x0_aim] 0 0 24 [(0, .ref (h0 0)), (4, .int z4)] [] := by
    intro k
    induction k with
    | zero => intro z4 z5 z6 z7 h; cases h
    | succ k ih3 =>
      intro z4 z5 z6 z7 h
      obtain ⟨k2, rr3, hk2, hs3, hr3⟩ := lp_ok h
      cases hk2
      have hs3 : fX5_arrives_s24 n x0_edgeA x0_edgeB x0_edgeCost x0_edgeLine x0_change x0_away x0_steps x0_nodes x0_stepCount x0_edgeCount x0_aim z4 z5 z6 z7 = some rr3 := hs3
      unfold fX5_arrives_s24 at hs3
      refine J_iload hK qd1_96.2.1 rfl 1 rfl ?_
      refine J_bipush (v := 36) hK qd1_96.2.2.1 rfl (by decide) ?_
      refine J_icmp_ge (tg := 166) hK qd1_96.2.2.2.1 rfl rfl (fun hc28 => ?_) (fun hc28 => ?_)
      · have hs3 := ip hc28 hs3
        exact J_loc [] rfl (hx3_166 z5 z6 z7 (lpx hs3 hr3))
      · have hs3 := iq hc28 hs3
        refine J_aload_n hK qd1_96.2.2.2.2.1 rfl 0 rfl rfl ?_
        refine J_get hK fo_RX5_113 qd1_96.2.2.2.2.2.1 rfl 0 0 rfl rfl rfl ?_
        refine J_if_le (tg := 166) hK qd1_96.2.2.2.2.2.2.1 rfl rfl (fun hc35 => ?_) (fun hc35 => ?_)
        · have hs3 := ip hc35 hs3
          exact J_loc [] rfl (hx3_166 z5 z6 z7 (lpx hs3 hr3))
        · have hs3 := iq hc35 hs3
          refine J_aload_n hK qd1_96.2.2.2.2.2.2.2.1 rfl 0 rfl rfl ?_
          refine J_dup hK qd1_96.2.2.2.2.2.2.2.2.1 rfl rfl ?_
          refine J_get hK fo_RX5_113 qd1_96.2.2.2.2.2.2.2.2.2.1 rfl 0 0 rfl rfl rfl ?_
          refine J_iconst (v := 1) hK qd1_96.2.2.2.2.2.2.2.2.2.2.1 rfl (by decide) ?_
          refine J_isub hK qd1_96.2.2.2.2.2.2.2.2.2.2.2.1 rfl ?_
          refine J_put (g' := gWy d h0 x0_edgeA x0_edgeB x0_edgeCost x0_edgeLine x0_change x0_away x0_steps x0_nodes x0_stepCount z5 (z6 - 1) z7 x0_edgeCount x0_aim) (gs' := [gWy d h0 x0_edgeA x0_edgeB x0_edgeCost x0_edgeLine x0_change x0_away x0_steps x0_nodes x0_stepCount z5 (z6 - 1) z7 x0_edgeCount x0_aim]) hK fp_RX5_113 qd1_96.2.2.2.2.2.2.2.2.2.2.2.2.1 rfl 0 0 rfl rfl rfl rfl (Nat.le_of_ble_eq_true rfl) rfl rfl ?_
          refine J_aload_n hK qd1_96.2.2.2.2.2.2.2.2.2.2.2.2.2.1 rfl 0 rfl rfl ?_
          refine J_get hK fo_RX5_36 qd1_96.2.2.2.2.2.2.2.2.2.2.2.2.2.2.1 rfl 0 0 rfl rfl rfl ?_
          refine J_aload_n hK qd1_96.2.2.2.2.2.2.2.2.2.2.2.2.2.2.2.1 rfl 0 rfl rfl ?_
          refine J_get hK fo_RX5_113 qd1_97.1 rfl 0 0 rfl rfl rfl ?_
          obtain ⟨v15, ev15, hs3⟩ := bs hs3
          refine J_iald hK qd1_97.2.1 rfl 0 9 rfl rfl ev15 ?_
          refine J_istore (L' := [(5, .int v15), (0, .ref (h0 0)), (4, .int z4)]) hK qd1_97.2.2.1 rfl (by decide) rfl ?_
          refine J_iload hK qd1_97.2.2.2.1 rfl 0 rfl ?_
          refine J_iconst (v := 3) hK qd1_97.2.2.2.2.1 rfl (by decide) ?_
          refine J_idiv hK qd1_97.2.2.2.2.2.1 rfl (by decide) ?_
          refine J_istore (L' := [(6, .int (v15 / 3)), (5, .int v15), (0, .ref (h0 0)), (4, .int z4)]) hK qd1_97.2.2.2.2.2.2.1 rfl (by decide) rfl ?_
          refine J_iload hK qd1_97.2.2.2.2.2.2.2.1 rfl 0 rfl ?_
          refine J_aload_n hK qd1_97.2.2.2.2.2.2.2.2.1 rfl 2 rfl rfl ?_
          refine J_get hK fo_RX5_39 qd1_97.2.2.2.2.2.2.2.2.2.1 rfl 0 0 rfl rfl rfl ?_
          refine J_icmp_ne (tg := 76) hK qd1_97.2.2.2.2.2.2.2.2.2.2.1 rfl rfl (fun hc71 => ?_) (fun hc71 => ?_)
          · have hs3 := iq hc71 hs3
            refine J_iconst (v := 0) hK qd1_97.2.2.2.2.2.2.2.2.2.2.2.2.2.1 rfl (by decide) ?_
            refine J_istore (L' := [(7, .int (0)), (6, .int (v15 / 3)), (5, .int v15), (0, .ref (h0 0)), (4, .int z4)]) hK qd1_97.2.2.2.2.2.2.2.2.2.2.2.2.2.2.1 rfl (by decide) rfl ?_
            obtain ⟨e21, hl16, hs3⟩ := bs hs3
            have hx16_111 : ∀ (w22 : (Nat → Int32)) (w23 : Int32) (w24 : Int64), (w22, w23, w24) = e21 → J d Φ 9 [gWy d h0 x0_edgeA x0_edgeB x0_edgeCost x0_edgeLine x0_change x0_away x0_steps x0_nodes x0_stepCount w22 w23 w24 x0_edgeCount x0_aim] 0 0 111 [(0, .ref (h0 0)), (4, .int z4), (5, .int v15)] [] := by
              intro w22 w23 w24 he
              rw [← he] at hs3
              have hs3 := un3 hs3
              refine J_iconst (v := 0) hK qd1_99.1 rfl (by decide) ?_
              refine J_istore (L' := [(7, .int (0)), (0, .ref (h0 0)), (4, .int z4), (5, .int v15)]) hK qd1_99.2.1 rfl (by decide) rfl ?_
              obtain ⟨e30, hl25, hs3⟩ := bs hs3
              have hx25_160 : ∀ (w31 : (Nat → Int32)) (w32 : Int32) (w33 : Int64), (w31, w32, w33) = e30 → J d Φ 9 [gWy d h0 x0_edgeA x0_edgeB x0_edgeCost x0_edgeLine x0_change x0_away x0_steps x0_nodes x0_stepCount w31 w32 w33 x0_edgeCount x0_aim] 0 0 160 [(0, .ref (h0 0)), (4, .int z4)] [] := by
                intro w31 w32 w33 he
                rw [← he] at hs3
                have hs3 := un3 hs3
                refine J_iinc (L' := [(4, .int (z4 + 1)), (0, .ref (h0 0))]) (v := (z4 + 1)) hK qd1_100.2.2.2.2.2.2.2.2.1 rfl 1 rfl rfl (by decide) rfl ?_
                refine J_goto hK qd1_100.2.2.2.2.2.2.2.2.2.1 (n := 24) rfl ?_
                exact J_loc [1, 0] rfl (ih3 (z4 + 1) w31 w32 w33 (lpc hs3 hr3))
              have lo25 : ∀ (k : Nat) (z26 : Int32) (z27 : (Nat → Int32)) (z28 : Int32) (z29 : Int64), lp (u4 (fX5_arrives_s114 x0_edgeA x0_edgeB x0_edgeCost x0_edgeLine x0_change x0_away x0_steps x0_nodes x0_stepCount x0_edgeCount x0_aim v15)) k (z26, z27, z28, z29) = some e30 → J d Φ 9 [gWy d h0 x0_edgeA x0_edgeB x0_edgeCost x0_edgeLine x0_change x0_away x0_steps x0_nodes x0_stepCount z27 z28 z29 x0_edgeCount x0_aim] 0 0 114 [(0, .ref (h0 0)), (4, .int z4), (5, .int v15), (7, .int z26)] [] := by
                intro k
                induction k with
                | zero => intro z26 z27 z28 z29 h; cases h
                | succ k ih25 =>
                  intro z26 z27 z28 z29 h
                  obtain ⟨k2, rr25, hk2, hs25, hr25⟩ := lp_ok h
                  cases hk2
                  have hs25 : fX5_arrives_s114 x0_edgeA x0_edgeB x0_edgeCost x0_edgeLine x0_change x0_away x0_steps x0_nodes x0_stepCount x0_edgeCount x0_aim v15 z26 z27 z28 z29 = some rr25 := hs25
                  unfold fX5_arrives_s114 at hs25
                  refine J_iload hK qd1_99.2.2.1 rfl 3 rfl ?_
                  refine J_aload_n hK qd1_99.2.2.2.1 rfl 0 rfl rfl ?_
                  refine J_get hK fo_RX5_52 qd1_99.2.2.2.2.1 rfl 0 0 rfl rfl rfl ?_
                  refine J_icmp_ge (tg := 160) hK qd1_99.2.2.2.2.2.1 rfl rfl (fun hc120 => ?_) (fun hc120 => ?_)
                  · have hs25 := ip hc120 hs25
                    exact J_loc [0, 1] rfl (hx25_160 z27 z28 z29 (lpx hs25 hr25))
                  · have hs25 := iq hc120 hs25
                    refine J_aload_n hK qd1_99.2.2.2.2.2.2.1 rfl 0 rfl rfl ?_
                    refine J_iload hK qd1_99.2.2.2.2.2.2.2.1 rfl 3 rfl ?_
                    refine J_iload hK qd1_99.2.2.2.2.2.2.2.2.1 rfl 2 rfl ?_
                    obtain ⟨v34, e35, hs25⟩ := bs hs25
                    refine J_callV (m := 1) (m' := 1) (ce' := 0) (sl' := 0) (gr := []) (gs' := fun _ => [gWy d h0 x0_edgeA x0_edgeB x0_edgeCost x0_edgeLine x0_change x0_away x0_steps x0_nodes x0_stepCount z27 z28 z29 x0_edgeCount x0_aim]) (st' := fun _ => [.int v34]) (st := []) hK qd1_99.2.2.2.2.2.2.2.2.2.1 cv_RX5_102 iv_yX5_otherEnd (As := [.int z26, .int v15]) (kX5_otherEnd _ d h0 x0_edgeA x0_edgeB x0_edgeCost x0_edgeLine x0_change x0_away x0_steps x0_nodes x0_stepCount z27 z28 z29 x0_edgeCount x0_aim z26 v15 e35) rfl rfl (Nat.le_of_ble_eq_true rfl) (by decide) 0 0 rfl rfl rfl [0] [] rfl (by decide +kernel) rfl rfl [0] (by decide +kernel) (fun _ => rfl) (fun _ => rfl) rfl rfl rfl (fun _ => rfl) (fun _ => ?_)
                    refine J_istore (L' := [(8, .int v34), (0, .ref (h0 0)), (4, .int z4), (5, .int v15), (7, .int z26)]) hK qd1_99.2.2.2.2.2.2.2.2.2.2.1 rfl (by decide) rfl ?_
                    refine J_iload hK qd1_99.2.2.2.2.2.2.2.2.2.2.2.1 rfl 0 rfl ?_
                    refine J_iconst (v := (-1)) hK qd1_99.2.2.2.2.2.2.2.2.2.2.2.2.1 rfl (by decide) ?_
                    refine J_icmp_eq (tg := 154) hK qd1_99.2.2.2.2.2.2.2.2.2.2.2.2.2.1 rfl rfl (fun hc136 => ?_) (fun hc136 => ?_)
                    · have hs25 := ip hc136 hs25
                      refine J_iinc (L' := [(7, .int (z26 + 1)), (8, .int v34), (0, .ref (h0 0)), (4, .int z4), (5, .int v15)]) (v := (z26 + 1)) hK qd1_100.2.2.2.2.2.2.1 rfl 4 rfl rfl (by decide) rfl ?_
                      refine J_goto hK qd1_100.2.2.2.2.2.2.2.1 (n := 114) rfl ?_
                      exact J_loc [2, 3, 4, 0] rfl (ih25 (z26 + 1) z27 z28 z29 (lpc hs25 hr25))
                    · have hs25 := iq hc136 hs25
                      refine J_aload_n hK qd1_99.2.2.2.2.2.2.2.2.2.2.2.2.2.2.1 rfl 1 rfl rfl ?_
                      refine J_iload hK qd1_99.2.2.2.2.2.2.2.2.2.2.2.2.2.2.2.1 rfl 3 rfl ?_
                      refine J_iload hK qd1_100.1 rfl 0 rfl ?_
                      refine J_aload_n hK qd1_100.2.1 rfl 1 rfl rfl ?_
                      refine J_get hK fo_RX5_18 qd1_100.2.2.1 rfl 0 0 rfl rfl rfl ?_
                      refine J_iload hK qd1_100.2.2.2.1 rfl 4 rfl ?_
                      obtain ⟨v36, ev36, hs25⟩ := bs hs25
                      refine J_iald hK qd1_100.2.2.2.2.1 rfl 0 3 rfl rfl ev36 ?_
                      obtain ⟨⟨g37, g38, g39⟩, e40, hs25⟩ := bs hs25
                      have hs25 := un3 hs25
                      refine J_callV (m := 1) (m' := 1) (ce' := 0) (sl' := 0) (gr := []) (gs' := fun _ => [gWy d h0 x0_edgeA x0_edgeB x0_edgeCost x0_edgeLine x0_change x0_away x0_steps x0_nodes x0_stepCount g37 g38 g39 x0_edgeCount x0_aim]) (st' := fun _ => []) (st := []) hK qd1_100.2.2.2.2.2.1 cv_RX5_116 iv_yX5_openIfCheapest (As := [.int v15, .int v34, .int v36]) (kX5_openIfCheapest _ d h0 x0_edgeA x0_edgeB x0_edgeCost x0_edgeLine x0_change x0_away x0_steps x0_nodes x0_stepCount z27 z28 z29 x0_edgeCount x0_aim v15 v34 v36 e40) rfl rfl (Nat.le_of_ble_eq_true rfl) (by decide) 0 0 rfl rfl rfl [0] [] rfl (by decide +kernel) rfl rfl [0] (by decide +kernel) (fun _ => rfl) (fun _ => rfl) rfl rfl rfl (fun _ => rfl) (fun _ => ?_)
                      refine J_iinc (L' := [(7, .int (z26 + 1)), (8, .int v34), (0, .ref (h0 0)), (4, .int z4), (5, .int v15)]) (v := (z26 + 1)) hK qd1_100.2.2.2.2.2.2.1 rfl 4 rfl rfl (by decide) rfl ?_
                      refine J_goto hK qd1_100.2.2.2.2.2.2.2.1 (n := 114) rfl ?_
                      exact J_loc [2, 3, 4, 0] rfl (ih25 (z26 + 1) g37 g38 g39 (lpc hs25 hr25))
              exact J_loc [1, 2, 3, 0] rfl (lo25 n (0) w22 w23 w24 hl25)
            have lo16 : ∀ (k : Nat) (z17 : Int32) (z18 : (Nat → Int32)) (z19 : Int32) (z20 : Int64), lp (u4 (fX5_arrives_s79 x0_edgeA x0_edgeB x0_edgeCost x0_edgeLine x0_change x0_away x0_steps x0_nodes x0_stepCount x0_edgeCount x0_aim v15)) k (z17, z18, z19, z20) = some e21 → J d Φ 9 [gWy d h0 x0_edgeA x0_edgeB x0_edgeCost x0_edgeLine x0_change x0_away x0_steps x0_nodes x0_stepCount z18 z19 z20 x0_edgeCount x0_aim] 0 0 79 [(0, .ref (h0 0)), (4, .int z4), (5, .int v15), (6, .int (v15 / 3)), (7, .int z17)] [] := by
              intro k
              induction k with
              | zero => intro z17 z18 z19 z20 h; cases h
              | succ k ih16 =>
                intro z17 z18 z19 z20 h
                obtain ⟨k2, rr16, hk2, hs16, hr16⟩ := lp_ok h
                cases hk2
                have hs16 : fX5_arrives_s79 x0_edgeA x0_edgeB x0_edgeCost x0_edgeLine x0_change x0_away x0_steps x0_nodes x0_stepCount x0_edgeCount x0_aim v15 z17 z18 z19 z20 = some rr16 := hs16
                unfold fX5_arrives_s79 at hs16
                refine J_iload hK qd1_97.2.2.2.2.2.2.2.2.2.2.2.2.2.2.2.1 rfl 4 rfl ?_
                refine J_iconst (v := 3) hK qd1_98.1 rfl (by decide) ?_
                refine J_icmp_ge (tg := 111) hK qd1_98.2.1 rfl rfl (fun hc82 => ?_) (fun hc82 => ?_)
                · have hs16 := ip hc82 hs16
                  exact J_loc [0, 1, 2] rfl (hx16_111 z18 z19 z20 (lpx hs16 hr16))
                · have hs16 := iq hc82 hs16
                  refine J_aload_n hK qd1_98.2.2.1 rfl 0 rfl rfl ?_
                  refine J_iload hK qd1_98.2.2.2.1 rfl 2 rfl ?_
                  refine J_iload hK qd1_98.2.2.2.2.1 rfl 3 rfl ?_
                  refine J_iconst (v := 3) hK qd1_98.2.2.2.2.2.1 rfl (by decide) ?_
                  refine J_imul hK qd1_98.2.2.2.2.2.2.1 rfl ?_
                  refine J_iload hK qd1_98.2.2.2.2.2.2.2.1 rfl 4 rfl ?_
                  refine J_iadd hK qd1_98.2.2.2.2.2.2.2.2.1 rfl ?_
                  refine J_aload_n hK qd1_98.2.2.2.2.2.2.2.2.2.1 rfl 0 rfl rfl ?_
                  refine J_get hK fo_RX5_24 qd1_98.2.2.2.2.2.2.2.2.2.2.1 rfl 0 0 rfl rfl rfl ?_
                  refine J_iload hK qd1_98.2.2.2.2.2.2.2.2.2.2.2.1 rfl 3 rfl ?_
                  obtain ⟨v41, ev41, hs16⟩ := bs hs16
                  refine J_iald hK qd1_98.2.2.2.2.2.2.2.2.2.2.2.2.1 rfl 0 5 rfl rfl ev41 ?_
                  obtain ⟨⟨g42, g43, g44⟩, e45, hs16⟩ := bs hs16
                  have hs16 := un3 hs16
                  refine J_callV (m := 1) (m' := 1) (ce' := 0) (sl' := 0) (gr := []) (gs' := fun _ => [gWy d h0 x0_edgeA x0_edgeB x0_edgeCost x0_edgeLine x0_change x0_away x0_steps x0_nodes x0_stepCount g42 g43 g44 x0_edgeCount x0_aim]) (st' := fun _ => []) (st := []) hK qd1_98.2.2.2.2.2.2.2.2.2.2.2.2.2.1 cv_RX5_116 iv_yX5_openIfCheapest (As := [.int v15, .int (((v15 / 3) * 3) + z17), .int v41]) (kX5_openIfCheapest _ d h0 x0_edgeA x0_edgeB x0_edgeCost x0_edgeLine x0_change x0_away x0_steps x0_nodes x0_stepCount z18 z19 z20 x0_edgeCount x0_aim v15 (((v15 / 3) * 3) + z17) v41 e45) rfl rfl (Nat.le_of_ble_eq_true rfl) (by decide) 0 0 rfl rfl rfl [0] [] rfl (by decide +kernel) rfl rfl [0] (by decide +kernel) (fun _ => rfl) (fun _ => rfl) rfl rfl rfl (fun _ => rfl) (fun _ => ?_)
                  refine J_iinc (L' := [(7, .int (z17 + 1)), (0, .ref (h0 0)), (4, .int z4), (5, .int v15), (6, .int (v15 / 3))]) (v := (z17 + 1)) hK qd1_98.2.2.2.2.2.2.2.2.2.2.2.2.2.2.1 rfl 4 rfl rfl (by decide) rfl ?_
                  refine J_goto hK qd1_98.2.2.2.2.2.2.2.2.2.2.2.2.2.2.2.1 (n := 79) rfl ?_
                  exact J_loc [1, 2, 3, 4, 0] rfl (ih16 (z17 + 1) g42 g43 g44 (lpc hs16 hr16))
            exact J_loc [3, 4, 2, 1, 0] rfl (lo16 n (0) z5 (z6 - 1) z7 hl16)
          · have hs3 := ip hc71 hs3
            exact J_loc [] rfl (hx3_74 z5 (z6 - 1) z7 (lpx hs3 hr3))
  exact J_loc [1, 0] rfl (lo3 n (0) f2 (1) t1 hl3)
end
section
def fX5_leads (n : Nat) (X0 : WyT) (p1 : Int32) (p2 : Int32) (p3 : Int32) (p4 : Int64) : Option (Int32 × (Nat → Int32) × Int32 × Int64) :=
  u14 (fun (x0_edgeA : (Nat → Int32)) (x0_edgeB : (Nat → Int32)) (x0_edgeCost : (Nat → Int32)) (x0_edgeLine : (Nat → Int32)) (x0_change : (Nat → Int32)) (x0_away : (Nat → Int32)) (x0_steps : (Nat → Int32)) (x0_nodes : (Nat → Int32)) (x0_stepCount : Int32) (x0_open : (Nat → Int32)) (x0_openCount : Int32) (x0_seen : Int64) (x0_edgeCount : Int32) (x0_aim : Int32) => if (lg_cmp ((p4 >>> ((p2).toInt64 &&& 63)) &&& (1 : Int64)) (0 : Int64)) = 0 then ((rd 36 x0_away p1).bind fun v1 => (rd 36 x0_away p2).bind fun v2 => if v1 = (p3 + v2) then (if 0 < p3 then (some (1, x0_open, x0_openCount, x0_seen)) else ((fX5_arrives n (x0_edgeA, x0_edgeB, x0_edgeCost, x0_edgeLine, x0_change, x0_away, x0_steps, x0_nodes, x0_stepCount, x0_open, x0_openCount, x0_seen, x0_edgeCount, x0_aim) p2 p4).bind (u4 fun v3 g4 g5 g6 => if v3 = 0 then (some (0, g4, g5, g6)) else (some (1, g4, g5, g6))))) else (some (0, x0_open, x0_openCount, x0_seen))) else (some (0, x0_open, x0_openCount, x0_seen))) X0
set_option maxHeartbeats 4000000 in
set_option maxRecDepth 100000 in
theorem kX5_leads (l : Launch) (d : DT) (h0 : Nat → Nat) (n : Nat) (x0_edgeA : (Nat → Int32)) (x0_edgeB : (Nat → Int32)) (x0_edgeCost : (Nat → Int32)) (x0_edgeLine : (Nat → Int32)) (x0_change : (Nat → Int32)) (x0_away : (Nat → Int32)) (x0_steps : (Nat → Int32)) (x0_nodes : (Nat → Int32)) (x0_stepCount : Int32) (x0_open : (Nat → Int32)) (x0_openCount : Int32) (x0_seen : Int64) (x0_edgeCount : Int32) (x0_aim : Int32) (p1 : Int32) (p2 : Int32) (p3 : Int32) (p4 : Int64)  {out : Int32 × (Nat → Int32) × Int32 × Int64} (hf : fX5_leads n (x0_edgeA, x0_edgeB, x0_edgeCost, x0_edgeLine, x0_change, x0_away, x0_steps, x0_nodes, x0_stepCount, x0_open, x0_openCount, x0_seen, x0_edgeCount, x0_aim) p1 p2 p3 p4 = some out) : Ct l d yX5_leads cX5_leads 6 (some .boolean) { frames := 2, cells := 0, slots := 0, locals := 52 } [.ref (h0 0), .int p1, .int p2, .int p3, .long p4] [gWy d h0 x0_edgeA x0_edgeB x0_edgeCost x0_edgeLine x0_change x0_away x0_steps x0_nodes x0_stepCount x0_open x0_openCount x0_seen x0_edgeCount x0_aim] (fun _ : Unit => (some (.int out.1), [gWy d h0 x0_edgeA x0_edgeB x0_edgeCost x0_edgeLine x0_change x0_away x0_steps x0_nodes x0_stepCount (out.2.1) (out.2.2.1) (out.2.2.2) x0_edgeCount x0_aim])) := by
  refine Ct.of (by decide) (Nat.le_of_ble_eq_true rfl) ?_
  intro Φ hl hK hR
  subst hl
  have hK : Ok d Φ RX5 "leads" cX5_leads 6 (some .boolean) { frames := 2, cells := 0, slots := 0, locals := 52 } := hK
  unfold fX5_leads at hf
  have hf := un14 hf
  show J d Φ 6 [gWy d h0 x0_edgeA x0_edgeB x0_edgeCost x0_edgeLine x0_change x0_away x0_steps x0_nodes x0_stepCount x0_open x0_openCount x0_seen x0_edgeCount x0_aim] 0 0 0 [(0, .ref (h0 0)), (1, .int p1), (2, .int p2), (3, .int p3), (4, .long p4)] []
  refine J_lload hK qd1_93.1 rfl 4 rfl ?_
  refine J_iload_n hK qd1_93.2.1 rfl 2 rfl rfl ?_
  refine J_lshr hK qd1_93.2.2.1 rfl ?_
  refine J_lconst (v := 1) hK qd1_93.2.2.2.1 rfl (by decide) ?_
  refine J_land hK qd1_93.2.2.2.2.1 rfl ?_
  refine J_lconst (v := 0) hK qd1_93.2.2.2.2.2.1 rfl (by decide) ?_
  refine J_lcmp hK qd1_93.2.2.2.2.2.2.1 rfl ?_
  refine J_if_ne (tg := 28) hK qd1_93.2.2.2.2.2.2.2.1 rfl rfl (fun hc8 => ?_) (fun hc8 => ?_)
  · have hf := iq hc8 hf
    refine J_iconst (v := 0) hK qd1_94.2.2.2.1 rfl (by decide) ?_
    obtain rfl := Option.some.inj hf
    exact J_zret hK hR qd1_94.2.2.2.2.1 () rfl rfl (by decide) (by decide)
  · have hf := ip hc8 hf
    refine J_aload_n hK qd1_93.2.2.2.2.2.2.2.2.1 rfl 0 rfl rfl ?_
    refine J_get hK fo_RX5_27 qd1_93.2.2.2.2.2.2.2.2.2.1 rfl 0 0 rfl rfl rfl ?_
    refine J_iload_n hK qd1_93.2.2.2.2.2.2.2.2.2.2.1 rfl 1 rfl rfl ?_
    obtain ⟨v1, ev1, hf⟩ := bs hf
    refine J_iald hK qd1_93.2.2.2.2.2.2.2.2.2.2.2.1 rfl 0 6 rfl rfl ev1 ?_
    refine J_iload_n hK qd1_93.2.2.2.2.2.2.2.2.2.2.2.2.1 rfl 3 rfl rfl ?_
    refine J_aload_n hK qd1_93.2.2.2.2.2.2.2.2.2.2.2.2.2.1 rfl 0 rfl rfl ?_
    refine J_get hK fo_RX5_27 qd1_93.2.2.2.2.2.2.2.2.2.2.2.2.2.2.1 rfl 0 0 rfl rfl rfl ?_
    refine J_iload_n hK qd1_93.2.2.2.2.2.2.2.2.2.2.2.2.2.2.2.1 rfl 2 rfl rfl ?_
    obtain ⟨v2, ev2, hf⟩ := bs hf
    refine J_iald hK qd1_94.1 rfl 0 6 rfl rfl ev2 ?_
    refine J_iadd hK qd1_94.2.1 rfl ?_
    refine J_icmp_eq (tg := 30) hK qd1_94.2.2.1 rfl rfl (fun hc25 => ?_) (fun hc25 => ?_)
    · have hf := ip hc25 hf
      refine J_iload_n hK qd1_94.2.2.2.2.2.1 rfl 3 rfl rfl ?_
      refine J_if_gt (tg := 44) hK qd1_94.2.2.2.2.2.2.1 rfl rfl (fun hc31 => ?_) (fun hc31 => ?_)
      · have hf := ip hc31 hf
        refine J_iconst (v := 1) hK qd1_94.2.2.2.2.2.2.2.2.2.2.2.2.1 rfl (by decide) ?_
        refine J_goto hK qd1_94.2.2.2.2.2.2.2.2.2.2.2.2.2.1 (n := 49) rfl ?_
        obtain rfl := Option.some.inj hf
        exact J_zret hK hR qd1_94.2.2.2.2.2.2.2.2.2.2.2.2.2.2.2.1 () rfl rfl (by decide) (by decide)
      · have hf := iq hc31 hf
        refine J_aload_n hK qd1_94.2.2.2.2.2.2.2.1 rfl 0 rfl rfl ?_
        refine J_iload_n hK qd1_94.2.2.2.2.2.2.2.2.1 rfl 2 rfl rfl ?_
        refine J_lload hK qd1_94.2.2.2.2.2.2.2.2.2.1 rfl 4 rfl ?_
        obtain ⟨⟨v3, g4, g5, g6⟩, e7, hf⟩ := bs hf
        have hf := un4 hf
        refine J_callV (m := 1) (m' := 1) (ce' := 0) (sl' := 0) (gr := []) (gs' := fun _ => [gWy d h0 x0_edgeA x0_edgeB x0_edgeCost x0_edgeLine x0_change x0_away x0_steps x0_nodes x0_stepCount g4 g5 g6 x0_edgeCount x0_aim]) (st' := fun _ => [.int v3]) (st := []) hK qd1_94.2.2.2.2.2.2.2.2.2.2.1 cv_RX5_105 iv_yX5_arrives (As := [.int p2, .long p4]) (kX5_arrives _ d h0 n x0_edgeA x0_edgeB x0_edgeCost x0_edgeLine x0_change x0_away x0_steps x0_nodes x0_stepCount x0_open x0_openCount x0_seen x0_edgeCount x0_aim p2 p4 e7) rfl rfl (Nat.le_of_ble_eq_true rfl) (by decide) 0 0 rfl rfl rfl [0] [] rfl (by decide +kernel) rfl rfl [0] (by decide +kernel) (fun _ => rfl) (fun _ => rfl) rfl rfl rfl (fun _ => rfl) (fun _ => ?_)
        refine J_if_eq (tg := 48) hK qd1_94.2.2.2.2.2.2.2.2.2.2.2.1 rfl rfl (fun hc41 => ?_) (fun hc41 => ?_)
        · have hf := ip hc41 hf
          refine J_iconst (v := 0) hK qd1_94.2.2.2.2.2.2.2.2.2.2.2.2.2.2.1 rfl (by decide) ?_
          obtain rfl := Option.some.inj hf
          exact J_zret hK hR qd1_94.2.2.2.2.2.2.2.2.2.2.2.2.2.2.2.1 () rfl rfl (by decide) (by decide)
        · have hf := iq hc41 hf
          refine J_iconst (v := 1) hK qd1_94.2.2.2.2.2.2.2.2.2.2.2.2.1 rfl (by decide) ?_
          refine J_goto hK qd1_94.2.2.2.2.2.2.2.2.2.2.2.2.2.1 (n := 49) rfl ?_
          obtain rfl := Option.some.inj hf
          exact J_zret hK hR qd1_94.2.2.2.2.2.2.2.2.2.2.2.2.2.2.2.1 () rfl rfl (by decide) (by decide)
    · have hf := iq hc25 hf
      refine J_iconst (v := 0) hK qd1_94.2.2.2.1 rfl (by decide) ?_
      obtain rfl := Option.some.inj hf
      exact J_zret hK hR qd1_94.2.2.2.2.1 () rfl rfl (by decide) (by decide)

def fX5_stepOn_s61 (n : Nat) (p1 : Int32) (p2 : Int64) (x0_edgeA : (Nat → Int32)) (x0_edgeB : (Nat → Int32)) (x0_edgeCost : (Nat → Int32)) (x0_edgeLine : (Nat → Int32)) (x0_change : (Nat → Int32)) (x0_away : (Nat → Int32)) (x0_steps : (Nat → Int32)) (x0_nodes : (Nat → Int32)) (x0_stepCount : Int32) (x0_edgeCount : Int32) (x0_aim : Int32) (z20 : Int32) (z21 : (Nat → Int32)) (z22 : Int32) (z23 : Int64) : Option ((Int32 × (Nat → Int32) × Int32 × Int64) ⊕ (((Int32 × Int32 × (Nat → Int32) × Int32 × Int64) ⊕ ((Nat → Int32) × Int32 × Int64)))) :=
  if x0_edgeCount ≤ z20 then (some (.inr (.inr (z21, z22, z23)))) else ((fX5_otherEnd (x0_edgeA, x0_edgeB, x0_edgeCost, x0_edgeLine, x0_change, x0_away, x0_steps, x0_nodes, x0_stepCount, z21, z22, z23, x0_edgeCount, x0_aim) z20 p1).bind (fun v38 => if v38 = (-1) then (some (.inl ((z20 + 1), z21, z22, z23))) else ((rd 60 x0_edgeCost z20).bind fun v40 => (fX5_leads n (x0_edgeA, x0_edgeB, x0_edgeCost, x0_edgeLine, x0_change, x0_away, x0_steps, x0_nodes, x0_stepCount, z21, z22, z23, x0_edgeCount, x0_aim) p1 v38 v40 p2).bind (u4 fun v41 g42 g43 g44 => if v41 = 0 then (some (.inl ((z20 + 1), g42, g43, g44))) else (some (.inr (.inl (z20, v38, g42, g43, g44))))))))
def fX5_stepOn_s8 (n : Nat) (p1 : Int32) (p2 : Int64) (x0_edgeA : (Nat → Int32)) (x0_edgeB : (Nat → Int32)) (x0_edgeCost : (Nat → Int32)) (x0_edgeLine : (Nat → Int32)) (x0_change : (Nat → Int32)) (x0_away : (Nat → Int32)) (x0_steps : (Nat → Int32)) (x0_nodes : (Nat → Int32)) (x0_stepCount : Int32) (x0_edgeCount : Int32) (x0_aim : Int32) (z2 : Int32) (z3 : (Nat → Int32)) (z4 : Int32) (z5 : Int64) : Option ((Int32 × (Nat → Int32) × Int32 × Int64) ⊕ (((Int32 × Int32 × (Nat → Int32) × Int32 × Int64) ⊕ ((Nat → Int32) × Int32 × Int64)))) :=
  if 3 ≤ z2 then (some (.inr (.inr (z3, z4, z5)))) else ((rd 12 x0_change (p1 / 3)).bind fun v46 => (fX5_leads n (x0_edgeA, x0_edgeB, x0_edgeCost, x0_edgeLine, x0_change, x0_away, x0_steps, x0_nodes, x0_stepCount, z3, z4, z5, x0_edgeCount, x0_aim) p1 (((p1 / 3) * 3) + z2) v46 p2).bind (u4 fun v47 g48 g49 g50 => if v47 = 0 then (some (.inl ((z2 + 1), g48, g49, g50))) else (some (.inr (.inl (z2, (((p1 / 3) * 3) + z2), g48, g49, g50))))))
def fX5_stepOn (n : Nat) (X0 : WyT) (p1 : Int32) (p2 : Int64) : Option (Int32 × ((Nat → Int32) × (Nat → Int32) × Int32 × (Nat → Int32) × Int32 × Int64)) :=
  u14 (fun (x0_edgeA : (Nat → Int32)) (x0_edgeB : (Nat → Int32)) (x0_edgeCost : (Nat → Int32)) (x0_edgeLine : (Nat → Int32)) (x0_change : (Nat → Int32)) (x0_away : (Nat → Int32)) (x0_steps : (Nat → Int32)) (x0_nodes : (Nat → Int32)) (x0_stepCount : Int32) (x0_open : (Nat → Int32)) (x0_openCount : Int32) (x0_seen : Int64) (x0_edgeCount : Int32) (x0_aim : Int32) => (lp (u4 (fX5_stepOn_s8 n p1 p2 x0_edgeA x0_edgeB x0_edgeCost x0_edgeLine x0_change x0_away x0_steps x0_nodes x0_stepCount x0_edgeCount x0_aim)) n (0, x0_open, x0_openCount, x0_seen)).bind (Sum.elim (u5 fun w7 w8 w9 w10 w11 => (fX5_note (x0_edgeA, x0_edgeB, x0_edgeCost, x0_edgeLine, x0_change, x0_away, x0_steps, x0_nodes, x0_stepCount, w9, w10, w11, x0_edgeCount, x0_aim) w7 w8).bind (u3 fun g12 g13 g14 => some (w8, (g12, g13, g14, w9, w10, w11)))) (u3 fun w16 w17 w18 => (lp (u4 (fX5_stepOn_s61 n p1 p2 x0_edgeA x0_edgeB x0_edgeCost x0_edgeLine x0_change x0_away x0_steps x0_nodes x0_stepCount x0_edgeCount x0_aim)) n (0, w16, w17, w18)).bind (Sum.elim (u5 fun w25 w26 w27 w28 w29 => (rd 60 x0_edgeLine w25).bind fun v30 => (fX5_note (x0_edgeA, x0_edgeB, x0_edgeCost, x0_edgeLine, x0_change, x0_away, x0_steps, x0_nodes, x0_stepCount, w27, w28, w29, x0_edgeCount, x0_aim) (3 + v30) w26).bind (u3 fun g31 g32 g33 => some (w26, (g31, g32, g33, w27, w28, w29)))) (u3 fun w35 w36 w37 => some ((-1), (x0_steps, x0_nodes, x0_stepCount, w35, w36, w37))))))) X0
set_option maxHeartbeats 4000000 in
set_option maxRecDepth 100000 in
theorem kX5_stepOn (l : Launch) (d : DT) (h0 : Nat → Nat) (n : Nat) (x0_edgeA : (Nat → Int32)) (x0_edgeB : (Nat → Int32)) (x0_edgeCost : (Nat → Int32)) (x0_edgeLine : (Nat → Int32)) (x0_change : (Nat → Int32)) (x0_away : (Nat → Int32)) (x0_steps : (Nat → Int32)) (x0_nodes : (Nat → Int32)) (x0_stepCount : Int32) (x0_open : (Nat → Int32)) (x0_openCount : Int32) (x0_seen : Int64) (x0_edgeCount : Int32) (x0_aim : Int32) (p1 : Int32) (p2 : Int64)  {out : Int32 × ((Nat → Int32) × (Nat → Int32) × Int32 × (Nat → Int32) × Int32 × Int64)} (hf : fX5_stepOn n (x0_edgeA, x0_edgeB, x0_edgeCost, x0_edgeLine, x0_change, x0_away, x0_steps, x0_nodes, x0_stepCount, x0_open, x0_openCount, x0_seen, x0_edgeCount, x0_aim) p1 p2 = some out) : Ct l d yX5_stepOn cX5_stepOn 7 (some .int) { frames := 3, cells := 0, slots := 0, locals := 77 } [.ref (h0 0), .int p1, .long p2] [gWy d h0 x0_edgeA x0_edgeB x0_edgeCost x0_edgeLine x0_change x0_away x0_steps x0_nodes x0_stepCount x0_open x0_openCount x0_seen x0_edgeCount x0_aim] (fun _ : Unit => (some (.int out.1), [gWy d h0 x0_edgeA x0_edgeB x0_edgeCost x0_edgeLine x0_change x0_away (out.2.1) (out.2.2.1) (out.2.2.2.1) (out.2.2.2.2.1) (out.2.2.2.2.2.1) (out.2.2.2.2.2.2) x0_edgeCount x0_aim])) := by
  refine Ct.of (by decide) (Nat.le_of_ble_eq_true rfl) ?_
  intro Φ hl hK hR
  subst hl
  have hK : Ok d Φ RX5 "stepOn" cX5_stepOn 7 (some .int) { frames := 3, cells := 0, slots := 0, locals := 77 } := hK
  unfold fX5_stepOn at hf
  have hf := un14 hf
  show J d Φ 7 [gWy d h0 x0_edgeA x0_edgeB x0_edgeCost x0_edgeLine x0_change x0_away x0_steps x0_nodes x0_stepCount x0_open x0_openCount x0_seen x0_edgeCount x0_aim] 0 0 0 [(0, .ref (h0 0)), (1, .int p1), (2, .long p2)] []
  refine J_iload_n hK qd1_86.1 rfl 1 rfl rfl ?_
  refine J_iconst (v := 3) hK qd1_86.2.1 rfl (by decide) ?_
  refine J_idiv hK qd1_86.2.2.1 rfl (by decide) ?_
  refine J_istore (L' := [(4, .int (p1 / 3)), (0, .ref (h0 0)), (1, .int p1), (2, .long p2)]) hK qd1_86.2.2.2.1 rfl (by decide) rfl ?_
  refine J_iconst (v := 0) hK qd1_86.2.2.2.2.1 rfl (by decide) ?_
  refine J_istore (L' := [(5, .int (0)), (4, .int (p1 / 3)), (0, .ref (h0 0)), (1, .int p1), (2, .long p2)]) hK qd1_86.2.2.2.2.2.1 rfl (by decide) rfl ?_
  obtain ⟨e6, hl1, hf⟩ := bs hf
  have hx1_41 : ∀ (w7 : Int32) (w8 : Int32) (w9 : (Nat → Int32)) (w10 : Int32) (w11 : Int64), (.inl (w7, w8, w9, w10, w11)) = e6 → J d Φ 7 [gWy d h0 x0_edgeA x0_edgeB x0_edgeCost x0_edgeLine x0_change x0_away x0_steps x0_nodes x0_stepCount w9 w10 w11 x0_edgeCount x0_aim] 0 0 41 [(0, .ref (h0 0)), (5, .int w7), (6, .int w8)] [] := by
    intro w7 w8 w9 w10 w11 he
    rw [← he] at hf
    simp only [Sum.elim_inl, Sum.elim_inr] at hf
    have hf := un5 hf
    refine J_aload_n hK qd1_87.2.2.2.2.2.2.2.2.2.1 rfl 0 rfl rfl ?_
    refine J_iload hK qd1_87.2.2.2.2.2.2.2.2.2.2.1 rfl 1 rfl ?_
    refine J_iload hK qd1_87.2.2.2.2.2.2.2.2.2.2.2.1 rfl 2 rfl ?_
    obtain ⟨⟨g12, g13, g14⟩, e15, hf⟩ := bs hf
    have hf := un3 hf
    refine J_callV (m := 1) (m' := 1) (ce' := 0) (sl' := 0) (gr := []) (gs' := fun _ => [gWy d h0 x0_edgeA x0_edgeB x0_edgeCost x0_edgeLine x0_change x0_away g12 g13 g14 w9 w10 w11 x0_edgeCount x0_aim]) (st' := fun _ => []) (st := []) hK qd1_87.2.2.2.2.2.2.2.2.2.2.2.2.1 cv_RX5_90 iv_yX5_note (As := [.int w7, .int w8]) (kX5_note _ d h0 x0_edgeA x0_edgeB x0_edgeCost x0_edgeLine x0_change x0_away x0_steps x0_nodes x0_stepCount w9 w10 w11 x0_edgeCount x0_aim w7 w8 e15) rfl rfl (Nat.le_of_ble_eq_true rfl) (by decide) 0 0 rfl rfl rfl [0] [] rfl (by decide +kernel) rfl rfl [0] (by decide +kernel) (fun _ => rfl) (fun _ => rfl) rfl rfl rfl (fun _ => rfl) (fun _ => ?_)
    refine J_iload hK qd1_87.2.2.2.2.2.2.2.2.2.2.2.2.2.1 rfl 2 rfl ?_
    obtain rfl := Option.some.inj hf
    exact J_iret hK hR qd1_87.2.2.2.2.2.2.2.2.2.2.2.2.2.2.1 () rfl (by decide) (by decide)
  have hx1_58 : ∀ (w16 : (Nat → Int32)) (w17 : Int32) (w18 : Int64), (.inr (w16, w17, w18)) = e6 → J d Φ 7 [gWy d h0 x0_edgeA x0_edgeB x0_edgeCost x0_edgeLine x0_change x0_away x0_steps x0_nodes x0_stepCount w16 w17 w18 x0_edgeCount x0_aim] 0 0 58 [(0, .ref (h0 0)), (1, .int p1), (2, .long p2)] [] := by
    intro w16 w17 w18 he
    rw [← he] at hf
    simp only [Sum.elim_inl, Sum.elim_inr] at hf
    have hf := un3 hf
    refine J_iconst (v := 0) hK qd1_88.2.1 rfl (by decide) ?_
    refine J_istore (L' := [(5, .int (0)), (0, .ref (h0 0)), (1, .int p1), (2, .long p2)]) hK qd1_88.2.2.1 rfl (by decide) rfl ?_
    obtain ⟨e24, hl19, hf⟩ := bs hf
    have hx19_103 : ∀ (w25 : Int32) (w26 : Int32) (w27 : (Nat → Int32)) (w28 : Int32) (w29 : Int64), (.inl (w25, w26, w27, w28, w29)) = e24 → J d Φ 7 [gWy d h0 x0_edgeA x0_edgeB x0_edgeCost x0_edgeLine x0_change x0_away x0_steps x0_nodes x0_stepCount w27 w28 w29 x0_edgeCount x0_aim] 0 0 103 [(0, .ref (h0 0)), (5, .int w25), (6, .int w26)] [] := by
      intro w25 w26 w27 w28 w29 he
      rw [← he] at hf
      simp only [Sum.elim_inl, Sum.elim_inr] at hf
      have hf := un5 hf
      refine J_aload_n hK qd1_89.2.2.2.2.2.2.2.2.2.1 rfl 0 rfl rfl ?_
      refine J_iconst (v := 3) hK qd1_89.2.2.2.2.2.2.2.2.2.2.1 rfl (by decide) ?_
      refine J_aload_n hK qd1_89.2.2.2.2.2.2.2.2.2.2.2.1 rfl 0 rfl rfl ?_
      refine J_get hK fo_RX5_21 qd1_89.2.2.2.2.2.2.2.2.2.2.2.2.1 rfl 0 0 rfl rfl rfl ?_
      refine J_iload hK qd1_89.2.2.2.2.2.2.2.2.2.2.2.2.2.1 rfl 1 rfl ?_
      obtain ⟨v30, ev30, hf⟩ := bs hf
      refine J_iald hK qd1_89.2.2.2.2.2.2.2.2.2.2.2.2.2.2.1 rfl 0 4 rfl rfl ev30 ?_
      refine J_iadd hK qd1_89.2.2.2.2.2.2.2.2.2.2.2.2.2.2.2.1 rfl ?_
      refine J_iload hK qd1_90.1 rfl 2 rfl ?_
      obtain ⟨⟨g31, g32, g33⟩, e34, hf⟩ := bs hf
      have hf := un3 hf
      refine J_callV (m := 1) (m' := 1) (ce' := 0) (sl' := 0) (gr := []) (gs' := fun _ => [gWy d h0 x0_edgeA x0_edgeB x0_edgeCost x0_edgeLine x0_change x0_away g31 g32 g33 w27 w28 w29 x0_edgeCount x0_aim]) (st' := fun _ => []) (st := []) hK qd1_90.2.1 cv_RX5_90 iv_yX5_note (As := [.int (3 + v30), .int w26]) (kX5_note _ d h0 x0_edgeA x0_edgeB x0_edgeCost x0_edgeLine x0_change x0_away x0_steps x0_nodes x0_stepCount w27 w28 w29 x0_edgeCount x0_aim (3 + v30) w26 e34) rfl rfl (Nat.le_of_ble_eq_true rfl) (by decide) 0 0 rfl rfl rfl [0] [] rfl (by decide +kernel) rfl rfl [0] (by decide +kernel) (fun _ => rfl) (fun _ => rfl) rfl rfl rfl (fun _ => rfl) (fun _ => ?_)
      refine J_iload hK qd1_90.2.2.1 rfl 2 rfl ?_
      obtain rfl := Option.some.inj hf
      exact J_iret hK hR qd1_90.2.2.2.1 () rfl (by decide) (by decide)
    have hx19_127 : ∀ (w35 : (Nat → Int32)) (w36 : Int32) (w37 : Int64), (.inr (w35, w36, w37)) = e24 → J d Φ 7 [gWy d h0 x0_edgeA x0_edgeB x0_edgeCost x0_edgeLine x0_change x0_away x0_steps x0_nodes x0_stepCount w35 w36 w37 x0_edgeCount x0_aim] 0 0 127 [] [] := by
      intro w35 w36 w37 he
      rw [← he] at hf
      simp only [Sum.elim_inl, Sum.elim_inr] at hf
      have hf := un3 hf
      refine J_iconst (v := (-1)) hK qd1_90.2.2.2.2.2.2.1 rfl (by decide) ?_
      obtain rfl := Option.some.inj hf
      exact J_iret hK hR qd1_90.2.2.2.2.2.2.2.1 () rfl (by decide) (by decide)
    have lo19 : ∀ (k : Nat) (z20 : Int32) (z21 : (Nat → Int32)) (z22 : Int32) (z23 : Int64), lp (u4 (fX5_stepOn_s61 n p1 p2 x0_edgeA x0_edgeB x0_edgeCost x0_edgeLine x0_change x0_away x0_steps x0_nodes x0_stepCount x0_edgeCount x0_aim)) k (z20, z21, z22, z23) = some e24 → J d Φ 7 [gWy d h0 x0_edgeA x0_edgeB x0_edgeCost x0_edgeLine x0_change x0_away x0_steps x0_nodes x0_stepCount z21 z22 z23 x0_edgeCount x0_aim] 0 0 61 [(0, .ref (h0 0)), (1, .int p1), (2, .long p2), (5, .int z20)] [] := by
      intro k
      induction k with
      | zero => intro z20 z21 z22 z23 h; cases h
      | succ k ih19 =>
        intro z20 z21 z22 z23 h
        obtain ⟨k2, rr19, hk2, hs19, hr19⟩ := lp_ok h
        cases hk2
        have hs19 : fX5_stepOn_s61 n p1 p2 x0_edgeA x0_edgeB x0_edgeCost x0_edgeLine x0_change x0_away x0_steps x0_nodes x0_stepCount x0_edgeCount x0_aim z20 z21 z22 z23 = some rr19 := hs19
        unfold fX5_stepOn_s61 at hs19
        refine J_iload hK qd1_88.2.2.2.1 rfl 3 rfl ?_
        refine J_aload_n hK qd1_88.2.2.2.2.1 rfl 0 rfl rfl ?_
        refine J_get hK fo_RX5_52 qd1_88.2.2.2.2.2.1 rfl 0 0 rfl rfl rfl ?_
        refine J_icmp_ge (tg := 127) hK qd1_88.2.2.2.2.2.2.1 rfl rfl (fun hc67 => ?_) (fun hc67 => ?_)
        · have hs19 := ip hc67 hs19
          exact J_loc [] rfl (hx19_127 z21 z22 z23 (lpx hs19 hr19))
        · have hs19 := iq hc67 hs19
          refine J_aload_n hK qd1_88.2.2.2.2.2.2.2.1 rfl 0 rfl rfl ?_
          refine J_iload hK qd1_88.2.2.2.2.2.2.2.2.1 rfl 3 rfl ?_
          refine J_iload_n hK qd1_88.2.2.2.2.2.2.2.2.2.1 rfl 1 rfl rfl ?_
          obtain ⟨v38, e39, hs19⟩ := bs hs19
          refine J_callV (m := 1) (m' := 1) (ce' := 0) (sl' := 0) (gr := []) (gs' := fun _ => [gWy d h0 x0_edgeA x0_edgeB x0_edgeCost x0_edgeLine x0_change x0_away x0_steps x0_nodes x0_stepCount z21 z22 z23 x0_edgeCount x0_aim]) (st' := fun _ => [.int v38]) (st := []) hK qd1_88.2.2.2.2.2.2.2.2.2.2.1 cv_RX5_102 iv_yX5_otherEnd (As := [.int z20, .int p1]) (kX5_otherEnd _ d h0 x0_edgeA x0_edgeB x0_edgeCost x0_edgeLine x0_change x0_away x0_steps x0_nodes x0_stepCount z21 z22 z23 x0_edgeCount x0_aim z20 p1 e39) rfl rfl (Nat.le_of_ble_eq_true rfl) (by decide) 0 0 rfl rfl rfl [0] [] rfl (by decide +kernel) rfl rfl [0] (by decide +kernel) (fun _ => rfl) (fun _ => rfl) rfl rfl rfl (fun _ => rfl) (fun _ => ?_)
          refine J_istore (L' := [(6, .int v38), (0, .ref (h0 0)), (1, .int p1), (2, .long p2), (5, .int z20)]) hK qd1_88.2.2.2.2.2.2.2.2.2.2.2.1 rfl (by decide) rfl ?_
          refine J_iload hK qd1_88.2.2.2.2.2.2.2.2.2.2.2.2.1 rfl 0 rfl ?_
          refine J_iconst (v := (-1)) hK qd1_88.2.2.2.2.2.2.2.2.2.2.2.2.2.1 rfl (by decide) ?_
          refine J_icmp_eq (tg := 121) hK qd1_88.2.2.2.2.2.2.2.2.2.2.2.2.2.2.1 rfl rfl (fun hc82 => ?_) (fun hc82 => ?_)
          · have hs19 := ip hc82 hs19
            refine J_iinc (L' := [(5, .int (z20 + 1)), (6, .int v38), (0, .ref (h0 0)), (1, .int p1), (2, .long p2)]) (v := (z20 + 1)) hK qd1_90.2.2.2.2.1 rfl 4 rfl rfl (by decide) rfl ?_
            refine J_goto hK qd1_90.2.2.2.2.2.1 (n := 61) rfl ?_
            exact J_loc [2, 3, 4, 0] rfl (ih19 (z20 + 1) z21 z22 z23 (lpc hs19 hr19))
          · have hs19 := iq hc82 hs19
            refine J_aload_n hK qd1_88.2.2.2.2.2.2.2.2.2.2.2.2.2.2.2.1 rfl 1 rfl rfl ?_
            refine J_iload_n hK qd1_89.1 rfl 2 rfl rfl ?_
            refine J_iload hK qd1_89.2.1 rfl 0 rfl ?_
            refine J_aload_n hK qd1_89.2.2.1 rfl 1 rfl rfl ?_
            refine J_get hK fo_RX5_18 qd1_89.2.2.2.1 rfl 0 0 rfl rfl rfl ?_
            refine J_iload hK qd1_89.2.2.2.2.1 rfl 4 rfl ?_
            obtain ⟨v40, ev40, hs19⟩ := bs hs19
            refine J_iald hK qd1_89.2.2.2.2.2.1 rfl 0 3 rfl rfl ev40 ?_
            refine J_lload_n hK qd1_89.2.2.2.2.2.2.1 rfl 3 rfl rfl ?_
            obtain ⟨⟨v41, g42, g43, g44⟩, e45, hs19⟩ := bs hs19
            have hs19 := un4 hs19
            refine J_callV (m := 1) (m' := 1) (ce' := 0) (sl' := 0) (gr := []) (gs' := fun _ => [gWy d h0 x0_edgeA x0_edgeB x0_edgeCost x0_edgeLine x0_change x0_away x0_steps x0_nodes x0_stepCount g42 g43 g44 x0_edgeCount x0_aim]) (st' := fun _ => [.int v41]) (st := []) hK qd1_89.2.2.2.2.2.2.2.1 cv_RX5_98 iv_yX5_leads (As := [.int p1, .int v38, .int v40, .long p2]) (kX5_leads _ d h0 n x0_edgeA x0_edgeB x0_edgeCost x0_edgeLine x0_change x0_away x0_steps x0_nodes x0_stepCount z21 z22 z23 x0_edgeCount x0_aim p1 v38 v40 p2 e45) rfl rfl (Nat.le_of_ble_eq_true rfl) (by decide) 0 0 rfl rfl rfl [0] [] rfl (by decide +kernel) rfl rfl [0] (by decide +kernel) (fun _ => rfl) (fun _ => rfl) rfl rfl rfl (fun _ => rfl) (fun _ => ?_)
            refine J_if_eq (tg := 121) hK qd1_89.2.2.2.2.2.2.2.2.1 rfl rfl (fun hc100 => ?_) (fun hc100 => ?_)
            · have hs19 := ip hc100 hs19
              refine J_iinc (L' := [(5, .int (z20 + 1)), (6, .int v38), (0, .ref (h0 0)), (1, .int p1), (2, .long p2)]) (v := (z20 + 1)) hK qd1_90.2.2.2.2.1 rfl 4 rfl rfl (by decide) rfl ?_
              refine J_goto hK qd1_90.2.2.2.2.2.1 (n := 61) rfl ?_
              exact J_loc [2, 3, 4, 0] rfl (ih19 (z20 + 1) g42 g43 g44 (lpc hs19 hr19))
            · have hs19 := iq hc100 hs19
              exact J_loc [1, 4, 0] rfl (hx19_103 z20 v38 g42 g43 g44 (lpx hs19 hr19))
    exact J_loc [1, 2, 3, 0] rfl (lo19 n (0) w16 w17 w18 hl19)
  have lo1 : ∀ (k : Nat) (z2 : Int32) (z3 : (Nat → Int32)) (z4 : Int32) (z5 : Int64), lp (u4 (fX5_stepOn_s8 n p1 p2 x0_edgeA x0_edgeB x0_edgeCost x0_edgeLine x0_change x0_away x0_steps x0_nodes x0_stepCount x0_edgeCount x0_aim)) k (z2, z3, z4, z5) = some e6 → J d Φ 7 [gWy d h0 x0_edgeA x0_edgeB x0_edgeCost x0_edgeLine x0_change x0_away x0_steps x0_nodes x0_stepCount z3 z4 z5 x0_edgeCount x0_aim] 0 0 8 [(0, .ref (h0 0)), (1, .int p1), (2, .long p2), (4, .int (p1 / 3)), (5, .int z2)] [] := by
    intro k
    induction k with
    | zero => intro z2 z3 z4 z5 h; cases h
    | succ k ih1 =>
      intro z2 z3 z4 z5 h
      obtain ⟨k2, rr1, hk2, hs1, hr1⟩ := lp_ok h
      cases hk2
      have hs1 : fX5_stepOn_s8 n p1 p2 x0_edgeA x0_edgeB x0_edgeCost x0_edgeLine x0_change x0_away x0_steps x0_nodes x0_stepCount x0_edgeCount x0_aim z2 z3 z4 z5 = some rr1 := hs1
      unfold fX5_stepOn_s8 at hs1
      refine J_iload hK qd1_86.2.2.2.2.2.2.1 rfl 4 rfl ?_
      refine J_iconst (v := 3) hK qd1_86.2.2.2.2.2.2.2.1 rfl (by decide) ?_
      refine J_icmp_ge (tg := 58) hK qd1_86.2.2.2.2.2.2.2.2.1 rfl rfl (fun hc11 => ?_) (fun hc11 => ?_)
      · have hs1 := ip hc11 hs1
        exact J_loc [0, 1, 2] rfl (hx1_58 z3 z4 z5 (lpx hs1 hr1))
      · have hs1 := iq hc11 hs1
        refine J_iload hK qd1_86.2.2.2.2.2.2.2.2.2.1 rfl 3 rfl ?_
        refine J_iconst (v := 3) hK qd1_86.2.2.2.2.2.2.2.2.2.2.1 rfl (by decide) ?_
        refine J_imul hK qd1_86.2.2.2.2.2.2.2.2.2.2.2.1 rfl ?_
        refine J_iload hK qd1_86.2.2.2.2.2.2.2.2.2.2.2.2.1 rfl 4 rfl ?_
        refine J_iadd hK qd1_86.2.2.2.2.2.2.2.2.2.2.2.2.2.1 rfl ?_
        refine J_istore (L' := [(6, .int (((p1 / 3) * 3) + z2)), (0, .ref (h0 0)), (1, .int p1), (2, .long p2), (4, .int (p1 / 3)), (5, .int z2)]) hK qd1_86.2.2.2.2.2.2.2.2.2.2.2.2.2.2.1 rfl (by decide) rfl ?_
        refine J_aload_n hK qd1_86.2.2.2.2.2.2.2.2.2.2.2.2.2.2.2.1 rfl 1 rfl rfl ?_
        refine J_iload_n hK qd1_87.1 rfl 2 rfl rfl ?_
        refine J_iload hK qd1_87.2.1 rfl 0 rfl ?_
        refine J_aload_n hK qd1_87.2.2.1 rfl 1 rfl rfl ?_
        refine J_get hK fo_RX5_24 qd1_87.2.2.2.1 rfl 0 0 rfl rfl rfl ?_
        refine J_iload hK qd1_87.2.2.2.2.1 rfl 4 rfl ?_
        obtain ⟨v46, ev46, hs1⟩ := bs hs1
        refine J_iald hK qd1_87.2.2.2.2.2.1 rfl 0 5 rfl rfl ev46 ?_
        refine J_lload_n hK qd1_87.2.2.2.2.2.2.1 rfl 3 rfl rfl ?_
        obtain ⟨⟨v47, g48, g49, g50⟩, e51, hs1⟩ := bs hs1
        have hs1 := un4 hs1
        refine J_callV (m := 1) (m' := 1) (ce' := 0) (sl' := 0) (gr := []) (gs' := fun _ => [gWy d h0 x0_edgeA x0_edgeB x0_edgeCost x0_edgeLine x0_change x0_away x0_steps x0_nodes x0_stepCount g48 g49 g50 x0_edgeCount x0_aim]) (st' := fun _ => [.int v47]) (st := []) hK qd1_87.2.2.2.2.2.2.2.1 cv_RX5_98 iv_yX5_leads (As := [.int p1, .int (((p1 / 3) * 3) + z2), .int v46, .long p2]) (kX5_leads _ d h0 n x0_edgeA x0_edgeB x0_edgeCost x0_edgeLine x0_change x0_away x0_steps x0_nodes x0_stepCount z3 z4 z5 x0_edgeCount x0_aim p1 (((p1 / 3) * 3) + z2) v46 p2 e51) rfl rfl (Nat.le_of_ble_eq_true rfl) (by decide) 0 0 rfl rfl rfl [0] [] rfl (by decide +kernel) rfl rfl [0] (by decide +kernel) (fun _ => rfl) (fun _ => rfl) rfl rfl rfl (fun _ => rfl) (fun _ => ?_)
        refine J_if_eq (tg := 52) hK qd1_87.2.2.2.2.2.2.2.2.1 rfl rfl (fun hc38 => ?_) (fun hc38 => ?_)
        · have hs1 := ip hc38 hs1
          refine J_iinc (L' := [(5, .int (z2 + 1)), (6, .int (((p1 / 3) * 3) + z2)), (0, .ref (h0 0)), (1, .int p1), (2, .long p2), (4, .int (p1 / 3))]) (v := (z2 + 1)) hK qd1_87.2.2.2.2.2.2.2.2.2.2.2.2.2.2.2.1 rfl 5 rfl rfl (by decide) rfl ?_
          refine J_goto hK qd1_88.1 (n := 8) rfl ?_
          exact J_loc [2, 3, 4, 5, 0] rfl (ih1 (z2 + 1) g48 g49 g50 (lpc hs1 hr1))
        · have hs1 := iq hc38 hs1
          exact J_loc [1, 5, 0] rfl (hx1_41 z2 (((p1 / 3) * 3) + z2) g48 g49 g50 (lpx hs1 hr1))
  exact J_loc [2, 3, 4, 1, 0] rfl (lo1 n (0) x0_open x0_openCount x0_seen hl1)

def fX5_trace_s78 (n : Nat) (p2 : Int32) (x0_edgeA : (Nat → Int32)) (x0_edgeB : (Nat → Int32)) (x0_edgeCost : (Nat → Int32)) (x0_edgeLine : (Nat → Int32)) (x0_change : (Nat → Int32)) (x0_edgeCount : Int32) (g1 : (Nat → Int32)) (g2 : Int32) (z16 : Int32) (z17 : Int64) (z18 : Int32) (z19 : (Nat → Int32)) (z20 : (Nat → Int32)) (z21 : Int32) (z22 : (Nat → Int32)) (z23 : Int32) (z24 : Int64) : Option ((Int32 × Int64 × Int32 × (Nat → Int32) × (Nat → Int32) × Int32 × (Nat → Int32) × Int32 × Int64) ⊕ ((((Nat → Int32) × (Nat → Int32) × Int32 × (Nat → Int32) × Int32 × Int64) ⊕ (Int32 × (Nat → Int32) × (Nat → Int32) × Int32 × (Nat → Int32) × Int32 × Int64)))) :=
  if 36 ≤ z18 then (some (.inr (.inr (z16, z19, z20, z21, z22, z23, z24)))) else (if (z16 / 3) = p2 then (some (.inr (.inr (z16, z19, z20, z21, z22, z23, z24)))) else ((fX5_stepOn n (x0_edgeA, x0_edgeB, x0_edgeCost, x0_edgeLine, x0_change, g1, z19, z20, z21, z22, z23, z24, x0_edgeCount, g2) z16 z17).bind (u2 fun v39 G40 => u6 (fun g41 g42 g43 g44 g45 g46 => if v39 = (-1) then (some (.inr (.inl (g41, g42, g43, g44, g45, g46)))) else ((some (z17 ||| ((1 : Int64) <<< ((v39).toInt64 &&& 63)))).bind fun t48 => some (.inl (v39, t48, (z18 + 1), g41, g42, g43, g44, g45, g46)))) G40)))
def fX5_trace_s26 (p1 : Int32) (g1 : (Nat → Int32)) (v4 : Int32) (z7 : Int32) : Option ((Int32) ⊕ (Int32)) :=
  if 2 ≤ z7 then (some (.inr z7)) else ((rd 36 g1 ((p1 * 3) + z7)).bind fun v49 => if v49 = v4 then (some (.inr z7)) else (some (.inl (z7 + 1))))
def fX5_trace (n : Nat) (X0 : WyT) (p1 : Int32) (p2 : Int32) : Option (Int32 × ((Nat → Int32) × (Nat → Int32) × (Nat → Int32) × Int32 × (Nat → Int32) × Int32 × Int64 × Int32)) :=
  u14 (fun (x0_edgeA : (Nat → Int32)) (x0_edgeB : (Nat → Int32)) (x0_edgeCost : (Nat → Int32)) (x0_edgeLine : (Nat → Int32)) (x0_change : (Nat → Int32)) (x0_away : (Nat → Int32)) (x0_steps : (Nat → Int32)) (x0_nodes : (Nat → Int32)) (x0_stepCount : Int32) (x0_open : (Nat → Int32)) (x0_openCount : Int32) (x0_seen : Int64) (x0_edgeCount : Int32) (x0_aim : Int32) => (fX5_aimAt n (x0_edgeA, x0_edgeB, x0_edgeCost, x0_edgeLine, x0_change, x0_away, x0_steps, x0_nodes, 0, x0_open, x0_openCount, x0_seen, x0_edgeCount, x0_aim) p2).bind (u2 fun g1 g2 => (fX5_costFrom n (x0_edgeA, x0_edgeB, x0_edgeCost, x0_edgeLine, x0_change, g1, x0_steps, x0_nodes, 0, x0_open, x0_openCount, x0_seen, x0_edgeCount, g2) p1).bind (fun v4 => if v4 = (-1) then (some (0, (g1, x0_steps, x0_nodes, 0, x0_open, x0_openCount, x0_seen, g2))) else ((lp (fX5_trace_s26 p1 g1 v4) n (0)).bind (fun w9 => (fX5_note (x0_edgeA, x0_edgeB, x0_edgeCost, x0_edgeLine, x0_change, g1, x0_steps, x0_nodes, 0, x0_open, x0_openCount, x0_seen, x0_edgeCount, g2) w9 ((p1 * 3) + w9)).bind (u3 fun g10 g11 g12 => (some ((1 : Int64) <<< ((((p1 * 3) + w9)).toInt64 &&& 63))).bind fun t14 => (lp (u9 (fX5_trace_s78 n p2 x0_edgeA x0_edgeB x0_edgeCost x0_edgeLine x0_change x0_edgeCount g1 g2)) n (((p1 * 3) + w9), t14, 1, g10, g11, g12, x0_open, x0_openCount, x0_seen)).bind (Sum.elim (u6 fun w26 w27 w28 w29 w30 w31 => some (0, (g1, w26, w27, w28, w29, w30, w31, g2))) (u7 fun w32 w33 w34 w35 w36 w37 w38 => if (w32 / 3) = p2 then (some (1, (g1, w33, w34, w35, w36, w37, w38, g2))) else (some (0, (g1, w33, w34, w35, w36, w37, w38, g2))))))))))) X0
set_option maxHeartbeats 4000000 in
set_option maxRecDepth 100000 in
theorem kX5_trace (l : Launch) (d : DT) (h0 : Nat → Nat) (n : Nat) (x0_edgeA : (Nat → Int32)) (x0_edgeB : (Nat → Int32)) (x0_edgeCost : (Nat → Int32)) (x0_edgeLine : (Nat → Int32)) (x0_change : (Nat → Int32)) (x0_away : (Nat → Int32)) (x0_steps : (Nat → Int32)) (x0_nodes : (Nat → Int32)) (x0_stepCount : Int32) (x0_open : (Nat → Int32)) (x0_openCount : Int32) (x0_seen : Int64) (x0_edgeCount : Int32) (x0_aim : Int32) (p1 : Int32) (p2 : Int32)  {out : Int32 × ((Nat → Int32) × (Nat → Int32) × (Nat → Int32) × Int32 × (Nat → Int32) × Int32 × Int64 × Int32)} (hf : fX5_trace n (x0_edgeA, x0_edgeB, x0_edgeCost, x0_edgeLine, x0_change, x0_away, x0_steps, x0_nodes, x0_stepCount, x0_open, x0_openCount, x0_seen, x0_edgeCount, x0_aim) p1 p2 = some out) : Ct l d yX5_trace cX5_trace 9 (some .boolean) { frames := 4, cells := 0, slots := 0, locals := 103 } [.ref (h0 0), .int p1, .int p2] [gWy d h0 x0_edgeA x0_edgeB x0_edgeCost x0_edgeLine x0_change x0_away x0_steps x0_nodes x0_stepCount x0_open x0_openCount x0_seen x0_edgeCount x0_aim] (fun _ : Unit => (some (.int out.1), [gWy d h0 x0_edgeA x0_edgeB x0_edgeCost x0_edgeLine x0_change (out.2.1) (out.2.2.1) (out.2.2.2.1) (out.2.2.2.2.1) (out.2.2.2.2.2.1) (out.2.2.2.2.2.2.1) (out.2.2.2.2.2.2.2.1) x0_edgeCount (out.2.2.2.2.2.2.2.2)])) := by
  refine Ct.of (by decide) (Nat.le_of_ble_eq_true rfl) ?_
  intro Φ hl hK hR
  subst hl
  have hK : Ok d Φ RX5 "trace" cX5_trace 9 (some .boolean) { frames := 4, cells := 0, slots := 0, locals := 103 } := hK
  unfold fX5_trace at hf
  have hf := un14 hf
  show J d Φ 9 [gWy d h0 x0_edgeA x0_edgeB x0_edgeCost x0_edgeLine x0_change x0_away x0_steps x0_nodes x0_stepCount x0_open x0_openCount x0_seen x0_edgeCount x0_aim] 0 0 0 [(0, .ref (h0 0)), (1, .int p1), (2, .int p2)] []
  refine J_aload_n hK qd1_78.1 rfl 0 rfl rfl ?_
  refine J_iconst (v := 0) hK qd1_78.2.1 rfl (by decide) ?_
  refine J_put (g' := gWy d h0 x0_edgeA x0_edgeB x0_edgeCost x0_edgeLine x0_change x0_away x0_steps x0_nodes (0) x0_open x0_openCount x0_seen x0_edgeCount x0_aim) (gs' := [gWy d h0 x0_edgeA x0_edgeB x0_edgeCost x0_edgeLine x0_change x0_away x0_steps x0_nodes (0) x0_open x0_openCount x0_seen x0_edgeCount x0_aim]) hK fp_RX5_79 qd1_78.2.2.1 rfl 0 0 rfl rfl rfl rfl (Nat.le_of_ble_eq_true rfl) rfl rfl ?_
  refine J_aload_n hK qd1_78.2.2.2.1 rfl 0 rfl rfl ?_
  refine J_iload_n hK qd1_78.2.2.2.2.1 rfl 2 rfl rfl ?_
  obtain ⟨⟨g1, g2⟩, e3, hf⟩ := bs hf
  have hf := un2 hf
  refine J_callV (m := 1) (m' := 1) (ce' := 0) (sl' := 0) (gr := []) (gs' := fun _ => [gWy d h0 x0_edgeA x0_edgeB x0_edgeCost x0_edgeLine x0_change g1 x0_steps x0_nodes (0) x0_open x0_openCount x0_seen x0_edgeCount g2]) (st' := fun _ => []) (st := []) hK qd1_78.2.2.2.2.2.1 cv_RX5_82 iv_yX5_aimAt (As := [.int p2]) (kX5_aimAt _ d h0 n x0_edgeA x0_edgeB x0_edgeCost x0_edgeLine x0_change x0_away x0_steps x0_nodes (0) x0_open x0_openCount x0_seen x0_edgeCount x0_aim p2 e3) rfl rfl (Nat.le_of_ble_eq_true rfl) (by decide) 0 0 rfl rfl rfl [0] [] rfl (by decide +kernel) rfl rfl [0] (by decide +kernel) (fun _ => rfl) (fun _ => rfl) rfl rfl rfl (fun _ => rfl) (fun _ => ?_)
  refine J_aload_n hK qd1_78.2.2.2.2.2.2.1 rfl 0 rfl rfl ?_
  refine J_iload_n hK qd1_78.2.2.2.2.2.2.2.1 rfl 1 rfl rfl ?_
  obtain ⟨v4, e5, hf⟩ := bs hf
  refine J_callV (m := 1) (m' := 1) (ce' := 0) (sl' := 0) (gr := []) (gs' := fun _ => [gWy d h0 x0_edgeA x0_edgeB x0_edgeCost x0_edgeLine x0_change g1 x0_steps x0_nodes (0) x0_open x0_openCount x0_seen x0_edgeCount g2]) (st' := fun _ => [.int v4]) (st := []) hK qd1_78.2.2.2.2.2.2.2.2.1 cv_RX5_86 iv_yX5_costFrom (As := [.int p1]) (kX5_costFrom _ d h0 n x0_edgeA x0_edgeB x0_edgeCost x0_edgeLine x0_change g1 x0_steps x0_nodes (0) x0_open x0_openCount x0_seen x0_edgeCount g2 p1 e5) rfl rfl (Nat.le_of_ble_eq_true rfl) (by decide) 0 0 rfl rfl rfl [0] [] rfl (by decide +kernel) rfl rfl [0] (by decide +kernel) (fun _ => rfl) (fun _ => rfl) rfl rfl rfl (fun _ => rfl) (fun _ => ?_)
  refine J_istore_n (L' := [(3, .int v4), (0, .ref (h0 0)), (1, .int p1), (2, .int p2)]) hK qd1_78.2.2.2.2.2.2.2.2.2.1 rfl rfl (by decide) rfl ?_
  refine J_iload_n hK qd1_78.2.2.2.2.2.2.2.2.2.2.1 rfl 0 rfl rfl ?_
  refine J_iconst (v := (-1)) hK qd1_78.2.2.2.2.2.2.2.2.2.2.2.1 rfl (by decide) ?_
  refine J_icmp_ne (tg := 23) hK qd1_78.2.2.2.2.2.2.2.2.2.2.2.2.1 rfl rfl (fun hc18 => ?_) (fun hc18 => ?_)
  · have hf := iq hc18 hf
    refine J_iconst (v := 0) hK qd1_78.2.2.2.2.2.2.2.2.2.2.2.2.2.2.2.1 rfl (by decide) ?_
    refine J_istore (L' := [(4, .int (0)), (3, .int v4), (0, .ref (h0 0)), (1, .int p1), (2, .int p2)]) hK qd1_79.1 rfl (by decide) rfl ?_
    obtain ⟨e8, hl6, hf⟩ := bs hf
    have hx6_53 : ∀ (w9 : Int32), w9 = e8 → J d Φ 9 [gWy d h0 x0_edgeA x0_edgeB x0_edgeCost x0_edgeLine x0_change g1 x0_steps x0_nodes (0) x0_open x0_openCount x0_seen x0_edgeCount g2] 0 0 53 [(0, .ref (h0 0)), (1, .int p1), (2, .int p2), (4, .int w9)] [] := by
      intro w9 he
      rw [← he] at hf
      refine J_iload_n hK qd1_80.1 rfl 1 rfl rfl ?_
      refine J_iconst (v := 3) hK qd1_80.2.1 rfl (by decide) ?_
      refine J_imul hK qd1_80.2.2.1 rfl ?_
      refine J_iload hK qd1_80.2.2.2.1 rfl 3 rfl ?_
      refine J_iadd hK qd1_80.2.2.2.2.1 rfl ?_
      refine J_istore (L' := [(5, .int ((p1 * 3) + w9)), (0, .ref (h0 0)), (1, .int p1), (2, .int p2), (4, .int w9)]) hK qd1_80.2.2.2.2.2.1 rfl (by decide) rfl ?_
      refine J_aload_n hK qd1_80.2.2.2.2.2.2.1 rfl 1 rfl rfl ?_
      refine J_iload hK qd1_80.2.2.2.2.2.2.2.1 rfl 4 rfl ?_
      refine J_iload hK qd1_80.2.2.2.2.2.2.2.2.1 rfl 0 rfl ?_
      obtain ⟨⟨g10, g11, g12⟩, e13, hf⟩ := bs hf
      have hf := un3 hf
      refine J_callV (m := 1) (m' := 1) (ce' := 0) (sl' := 0) (gr := []) (gs' := fun _ => [gWy d h0 x0_edgeA x0_edgeB x0_edgeCost x0_edgeLine x0_change g1 g10 g11 g12 x0_open x0_openCount x0_seen x0_edgeCount g2]) (st' := fun _ => []) (st := []) hK qd1_80.2.2.2.2.2.2.2.2.2.1 cv_RX5_90 iv_yX5_note (As := [.int w9, .int ((p1 * 3) + w9)]) (kX5_note _ d h0 x0_edgeA x0_edgeB x0_edgeCost x0_edgeLine x0_change g1 x0_steps x0_nodes (0) x0_open x0_openCount x0_seen x0_edgeCount g2 w9 ((p1 * 3) + w9) e13) rfl rfl (Nat.le_of_ble_eq_true rfl) (by decide) 0 0 rfl rfl rfl [0] [] rfl (by decide +kernel) rfl rfl [0] (by decide +kernel) (fun _ => rfl) (fun _ => rfl) rfl rfl rfl (fun _ => rfl) (fun _ => ?_)
      refine J_lconst (v := 1) hK qd1_80.2.2.2.2.2.2.2.2.2.2.1 rfl (by decide) ?_
      refine J_iload hK qd1_80.2.2.2.2.2.2.2.2.2.2.2.1 rfl 0 rfl ?_
      refine J_lshl hK qd1_80.2.2.2.2.2.2.2.2.2.2.2.2.1 rfl ?_
      obtain ⟨t14, et14, hf⟩ := bs hf
      refine J_nml et14 ?_
      refine J_lstore (L' := [(6, .long t14), (5, .int ((p1 * 3) + w9)), (0, .ref (h0 0)), (1, .int p1), (2, .int p2), (4, .int w9)]) hK qd1_80.2.2.2.2.2.2.2.2.2.2.2.2.2.1 rfl (by decide) rfl ?_
      refine J_iconst (v := 1) hK qd1_80.2.2.2.2.2.2.2.2.2.2.2.2.2.2.1 rfl (by decide) ?_
      refine J_istore (L' := [(8, .int (1)), (6, .long t14), (5, .int ((p1 * 3) + w9)), (0, .ref (h0 0)), (1, .int p1), (2, .int p2), (4, .int w9)]) hK qd1_80.2.2.2.2.2.2.2.2.2.2.2.2.2.2.2.1 rfl (by decide) rfl ?_
      obtain ⟨e25, hl15, hf⟩ := bs hf
      have hx15_109 : ∀ (w26 : (Nat → Int32)) (w27 : (Nat → Int32)) (w28 : Int32) (w29 : (Nat → Int32)) (w30 : Int32) (w31 : Int64), (.inl (w26, w27, w28, w29, w30, w31)) = e25 → J d Φ 9 [gWy d h0 x0_edgeA x0_edgeB x0_edgeCost x0_edgeLine x0_change g1 w26 w27 w28 w29 w30 w31 x0_edgeCount g2] 0 0 109 [] [] := by
        intro w26 w27 w28 w29 w30 w31 he
        rw [← he] at hf
        simp only [Sum.elim_inl, Sum.elim_inr] at hf
        have hf := un6 hf
        refine J_iconst (v := 0) hK qd1_82.1 rfl (by decide) ?_
        obtain rfl := Option.some.inj hf
        exact J_zret hK hR qd1_82.2.1 () rfl rfl (by decide) (by decide)
      have hx15_126 : ∀ (w32 : Int32) (w33 : (Nat → Int32)) (w34 : (Nat → Int32)) (w35 : Int32) (w36 : (Nat → Int32)) (w37 : Int32) (w38 : Int64), (.inr (w32, w33, w34, w35, w36, w37, w38)) = e25 → J d Φ 9 [gWy d h0 x0_edgeA x0_edgeB x0_edgeCost x0_edgeLine x0_change g1 w33 w34 w35 w36 w37 w38 x0_edgeCount g2] 0 0 126 [(2, .int p2), (5, .int w32)] [] := by
        intro w32 w33 w34 w35 w36 w37 w38 he
        rw [← he] at hf
        simp only [Sum.elim_inl, Sum.elim_inr] at hf
        have hf := un7 hf
        refine J_iload hK qd1_82.2.2.2.2.2.2.2.2.2.2.1 rfl 1 rfl ?_
        refine J_iconst (v := 3) hK qd1_82.2.2.2.2.2.2.2.2.2.2.2.1 rfl (by decide) ?_
        refine J_idiv hK qd1_82.2.2.2.2.2.2.2.2.2.2.2.2.1 rfl (by decide) ?_
        refine J_iload_n hK qd1_82.2.2.2.2.2.2.2.2.2.2.2.2.2.1 rfl 0 rfl rfl ?_
        refine J_icmp_ne (tg := 138) hK qd1_82.2.2.2.2.2.2.2.2.2.2.2.2.2.2.1 rfl rfl (fun hc131 => ?_) (fun hc131 => ?_)
        · have hf := iq hc131 hf
          refine J_iconst (v := 0) hK qd1_83.2.1 rfl (by decide) ?_
          obtain rfl := Option.some.inj hf
          exact J_zret hK hR qd1_83.2.2.1 () rfl rfl (by decide) (by decide)
        · have hf := ip hc131 hf
          refine J_iconst (v := 1) hK qd1_82.2.2.2.2.2.2.2.2.2.2.2.2.2.2.2.1 rfl (by decide) ?_
          refine J_goto hK qd1_83.1 (n := 139) rfl ?_
          obtain rfl := Option.some.inj hf
          exact J_zret hK hR qd1_83.2.2.1 () rfl rfl (by decide) (by decide)
      have lo15 : ∀ (k : Nat) (z16 : Int32) (z17 : Int64) (z18 : Int32) (z19 : (Nat → Int32)) (z20 : (Nat → Int32)) (z21 : Int32) (z22 : (Nat → Int32)) (z23 : Int32) (z24 : Int64), lp (u9 (fX5_trace_s78 n p2 x0_edgeA x0_edgeB x0_edgeCost x0_edgeLine x0_change x0_edgeCount g1 g2)) k (z16, z17, z18, z19, z20, z21, z22, z23, z24) = some e25 → J d Φ 9 [gWy d h0 x0_edgeA x0_edgeB x0_edgeCost x0_edgeLine x0_change g1 z19 z20 z21 z22 z23 z24 x0_edgeCount g2] 0 0 78 [(0, .ref (h0 0)), (2, .int p2), (5, .int z16), (6, .long z17), (8, .int z18)] [] := by
        intro k
        induction k with
        | zero => intro z16 z17 z18 z19 z20 z21 z22 z23 z24 h; cases h
        | succ k ih15 =>
          intro z16 z17 z18 z19 z20 z21 z22 z23 z24 h
          obtain ⟨k2, rr15, hk2, hs15, hr15⟩ := lp_ok h
          cases hk2
          have hs15 : fX5_trace_s78 n p2 x0_edgeA x0_edgeB x0_edgeCost x0_edgeLine x0_change x0_edgeCount g1 g2 z16 z17 z18 z19 z20 z21 z22 z23 z24 = some rr15 := hs15
          unfold fX5_trace_s78 at hs15
          refine J_iload hK qd1_81.1 rfl 4 rfl ?_
          refine J_bipush (v := 36) hK qd1_81.2.1 rfl (by decide) ?_
          refine J_icmp_ge (tg := 126) hK qd1_81.2.2.1 rfl rfl (fun hc82 => ?_) (fun hc82 => ?_)
          · have hs15 := ip hc82 hs15
            exact J_loc [1, 2] rfl (hx15_126 z16 z19 z20 z21 z22 z23 z24 (lpx hs15 hr15))
          · have hs15 := iq hc82 hs15
            refine J_iload hK qd1_81.2.2.2.1 rfl 2 rfl ?_
            refine J_iconst (v := 3) hK qd1_81.2.2.2.2.1 rfl (by decide) ?_
            refine J_idiv hK qd1_81.2.2.2.2.2.1 rfl (by decide) ?_
            refine J_iload_n hK qd1_81.2.2.2.2.2.2.1 rfl 1 rfl rfl ?_
            refine J_icmp_eq (tg := 126) hK qd1_81.2.2.2.2.2.2.2.1 rfl rfl (fun hc90 => ?_) (fun hc90 => ?_)
            · have hs15 := ip hc90 hs15
              exact J_loc [1, 2] rfl (hx15_126 z16 z19 z20 z21 z22 z23 z24 (lpx hs15 hr15))
            · have hs15 := iq hc90 hs15
              refine J_aload_n hK qd1_81.2.2.2.2.2.2.2.2.1 rfl 0 rfl rfl ?_
              refine J_iload hK qd1_81.2.2.2.2.2.2.2.2.2.1 rfl 2 rfl ?_
              refine J_lload hK qd1_81.2.2.2.2.2.2.2.2.2.2.1 rfl 3 rfl ?_
              obtain ⟨⟨v39, ⟨g41, g42, g43, g44, g45, g46⟩⟩, e47, hs15⟩ := bs hs15
              have hs15 := un2 hs15
              have hs15 := un6 hs15
              refine J_callV (m := 1) (m' := 1) (ce' := 0) (sl' := 0) (gr := []) (gs' := fun _ => [gWy d h0 x0_edgeA x0_edgeB x0_edgeCost x0_edgeLine x0_change g1 g41 g42 g43 g44 g45 g46 x0_edgeCount g2]) (st' := fun _ => [.int v39]) (st := []) hK qd1_81.2.2.2.2.2.2.2.2.2.2.2.1 cv_RX5_94 iv_yX5_stepOn (As := [.int z16, .long z17]) (kX5_stepOn _ d h0 n x0_edgeA x0_edgeB x0_edgeCost x0_edgeLine x0_change g1 z19 z20 z21 z22 z23 z24 x0_edgeCount g2 z16 z17 e47) rfl rfl (Nat.le_of_ble_eq_true rfl) (by decide) 0 0 rfl rfl rfl [0] [] rfl (by decide +kernel) rfl rfl [0] (by decide +kernel) (fun _ => rfl) (fun _ => rfl) rfl rfl rfl (fun _ => rfl) (fun _ => ?_)
              refine J_istore (L' := [(5, .int v39), (0, .ref (h0 0)), (2, .int p2), (6, .long z17), (8, .int z18)]) hK qd1_81.2.2.2.2.2.2.2.2.2.2.2.2.1 rfl (by decide) rfl ?_
              refine J_iload hK qd1_81.2.2.2.2.2.2.2.2.2.2.2.2.2.1 rfl 0 rfl ?_
              refine J_iconst (v := (-1)) hK qd1_81.2.2.2.2.2.2.2.2.2.2.2.2.2.2.1 rfl (by decide) ?_
              refine J_icmp_ne (tg := 111) hK qd1_81.2.2.2.2.2.2.2.2.2.2.2.2.2.2.2.1 rfl rfl (fun hc106 => ?_) (fun hc106 => ?_)
              · have hs15 := iq hc106 hs15
                refine J_lload hK qd1_82.2.2.1 rfl 3 rfl ?_
                refine J_lconst (v := 1) hK qd1_82.2.2.2.1 rfl (by decide) ?_
                refine J_iload hK qd1_82.2.2.2.2.1 rfl 0 rfl ?_
                refine J_lshl hK qd1_82.2.2.2.2.2.1 rfl ?_
                refine J_lor hK qd1_82.2.2.2.2.2.2.1 rfl ?_
                obtain ⟨t48, et48, hs15⟩ := bs hs15
                refine J_nml et48 ?_
                refine J_lstore (L' := [(6, .long t48), (5, .int v39), (0, .ref (h0 0)), (2, .int p2), (8, .int z18)]) hK qd1_82.2.2.2.2.2.2.2.1 rfl (by decide) rfl ?_
                refine J_iinc (L' := [(8, .int (z18 + 1)), (6, .long t48), (5, .int v39), (0, .ref (h0 0)), (2, .int p2)]) (v := (z18 + 1)) hK qd1_82.2.2.2.2.2.2.2.2.1 rfl 4 rfl rfl (by decide) rfl ?_
                refine J_goto hK qd1_82.2.2.2.2.2.2.2.2.2.1 (n := 78) rfl ?_
                exact J_loc [3, 4, 2, 1, 0] rfl (ih15 v39 t48 (z18 + 1) g41 g42 g43 g44 g45 g46 (lpc hs15 hr15))
              · have hs15 := ip hc106 hs15
                exact J_loc [] rfl (hx15_109 g41 g42 g43 g44 g45 g46 (lpx hs15 hr15))
      exact J_loc [3, 5, 2, 1, 0] rfl (lo15 n ((p1 * 3) + w9) t14 (1) g10 g11 g12 x0_open x0_openCount x0_seen hl15)
    have lo6 : ∀ (k : Nat) (z7 : Int32), lp (fX5_trace_s26 p1 g1 v4) k z7 = some e8 → J d Φ 9 [gWy d h0 x0_edgeA x0_edgeB x0_edgeCost x0_edgeLine x0_change g1 x0_steps x0_nodes (0) x0_open x0_openCount x0_seen x0_edgeCount g2] 0 0 26 [(0, .ref (h0 0)), (1, .int p1), (2, .int p2), (3, .int v4), (4, .int z7)] [] := by
      intro k
      induction k with
      | zero => intro z7 h; cases h
      | succ k ih6 =>
        intro z7 h
        obtain ⟨k2, rr6, hk2, hs6, hr6⟩ := lp_ok h
        cases hk2
        have hs6 : fX5_trace_s26 p1 g1 v4 z7 = some rr6 := hs6
        unfold fX5_trace_s26 at hs6
        refine J_iload hK qd1_79.2.1 rfl 4 rfl ?_
        refine J_iconst (v := 2) hK qd1_79.2.2.1 rfl (by decide) ?_
        refine J_icmp_ge (tg := 53) hK qd1_79.2.2.2.1 rfl rfl (fun hc29 => ?_) (fun hc29 => ?_)
        · have hs6 := ip hc29 hs6
          exact J_loc [0, 1, 2, 4] rfl (hx6_53 z7 (lpx hs6 hr6))
        · have hs6 := iq hc29 hs6
          refine J_aload_n hK qd1_79.2.2.2.2.1 rfl 0 rfl rfl ?_
          refine J_get hK fo_RX5_27 qd1_79.2.2.2.2.2.1 rfl 0 0 rfl rfl rfl ?_
          refine J_iload_n hK qd1_79.2.2.2.2.2.2.1 rfl 1 rfl rfl ?_
          refine J_iconst (v := 3) hK qd1_79.2.2.2.2.2.2.2.1 rfl (by decide) ?_
          refine J_imul hK qd1_79.2.2.2.2.2.2.2.2.1 rfl ?_
          refine J_iload hK qd1_79.2.2.2.2.2.2.2.2.2.1 rfl 4 rfl ?_
          refine J_iadd hK qd1_79.2.2.2.2.2.2.2.2.2.2.1 rfl ?_
          obtain ⟨v49, ev49, hs6⟩ := bs hs6
          refine J_iald hK qd1_79.2.2.2.2.2.2.2.2.2.2.2.1 rfl 0 6 rfl rfl ev49 ?_
          refine J_iload_n hK qd1_79.2.2.2.2.2.2.2.2.2.2.2.2.1 rfl 3 rfl rfl ?_
          refine J_icmp_eq (tg := 53) hK qd1_79.2.2.2.2.2.2.2.2.2.2.2.2.2.1 rfl rfl (fun hc44 => ?_) (fun hc44 => ?_)
          · have hs6 := ip hc44 hs6
            exact J_loc [0, 1, 2, 4] rfl (hx6_53 z7 (lpx hs6 hr6))
          · have hs6 := iq hc44 hs6
            refine J_iinc (L' := [(4, .int (z7 + 1)), (0, .ref (h0 0)), (1, .int p1), (2, .int p2), (3, .int v4)]) (v := (z7 + 1)) hK qd1_79.2.2.2.2.2.2.2.2.2.2.2.2.2.2.1 rfl 4 rfl rfl (by decide) rfl ?_
            refine J_goto hK qd1_79.2.2.2.2.2.2.2.2.2.2.2.2.2.2.2.1 (n := 26) rfl ?_
            exact J_loc [1, 2, 3, 4, 0] rfl (ih6 (z7 + 1) (lpc hs6 hr6))
    exact J_loc [2, 3, 4, 1, 0] rfl (lo6 n (0) hl6)
  · have hf := ip hc18 hf
    refine J_iconst (v := 0) hK qd1_78.2.2.2.2.2.2.2.2.2.2.2.2.2.1 rfl (by decide) ?_
    obtain rfl := Option.some.inj hf
    exact J_zret hK hR qd1_78.2.2.2.2.2.2.2.2.2.2.2.2.2.2.1 () rfl rfl (by decide) (by decide)

def fX5_lineOn (X0 : WyT) (p1 : Int32) : Option (Int32) :=
  u14 (fun (x0_edgeA : (Nat → Int32)) (x0_edgeB : (Nat → Int32)) (x0_edgeCost : (Nat → Int32)) (x0_edgeLine : (Nat → Int32)) (x0_change : (Nat → Int32)) (x0_away : (Nat → Int32)) (x0_steps : (Nat → Int32)) (x0_nodes : (Nat → Int32)) (x0_stepCount : Int32) (x0_open : (Nat → Int32)) (x0_openCount : Int32) (x0_seen : Int64) (x0_edgeCount : Int32) (x0_aim : Int32) => (fX6_within p1 (1) (x0_stepCount - 1)).bind (fun v1 => if v1 = 0 then (some (-1)) else ((rd 36 x0_steps p1).bind fun v3 => if v3 < 3 then (some (-1)) else ((rd 36 x0_steps p1).bind fun v4 => some (v4 - 3))))) X0
set_option maxHeartbeats 4000000 in
set_option maxRecDepth 100000 in
theorem kX5_lineOn (l : Launch) (d : DT) (h0 : Nat → Nat) (x0_edgeA : (Nat → Int32)) (x0_edgeB : (Nat → Int32)) (x0_edgeCost : (Nat → Int32)) (x0_edgeLine : (Nat → Int32)) (x0_change : (Nat → Int32)) (x0_away : (Nat → Int32)) (x0_steps : (Nat → Int32)) (x0_nodes : (Nat → Int32)) (x0_stepCount : Int32) (x0_open : (Nat → Int32)) (x0_openCount : Int32) (x0_seen : Int64) (x0_edgeCount : Int32) (x0_aim : Int32) (p1 : Int32)  {out : Int32} (hf : fX5_lineOn (x0_edgeA, x0_edgeB, x0_edgeCost, x0_edgeLine, x0_change, x0_away, x0_steps, x0_nodes, x0_stepCount, x0_open, x0_openCount, x0_seen, x0_edgeCount, x0_aim) p1 = some out) : Ct l d yX5_lineOn cX5_lineOn 2 (some .int) { frames := 1, cells := 0, slots := 0, locals := 22 } [.ref (h0 0), .int p1] [gWy d h0 x0_edgeA x0_edgeB x0_edgeCost x0_edgeLine x0_change x0_away x0_steps x0_nodes x0_stepCount x0_open x0_openCount x0_seen x0_edgeCount x0_aim] (fun _ : Unit => (some (.int out), [gWy d h0 x0_edgeA x0_edgeB x0_edgeCost x0_edgeLine x0_change x0_away x0_steps x0_nodes x0_stepCount x0_open x0_openCount x0_seen x0_edgeCount x0_aim])) := by
  refine Ct.of (by decide) (Nat.le_of_ble_eq_true rfl) ?_
  intro Φ hl hK hR
  subst hl
  have hK : Ok d Φ RX5 "lineOn" cX5_lineOn 2 (some .int) { frames := 1, cells := 0, slots := 0, locals := 22 } := hK
  unfold fX5_lineOn at hf
  have hf := un14 hf
  show J d Φ 2 [gWy d h0 x0_edgeA x0_edgeB x0_edgeCost x0_edgeLine x0_change x0_away x0_steps x0_nodes x0_stepCount x0_open x0_openCount x0_seen x0_edgeCount x0_aim] 0 0 0 [(0, .ref (h0 0)), (1, .int p1)] []
  refine J_iload_n hK qd1_107.1 rfl 1 rfl rfl ?_
  refine J_iconst (v := 1) hK qd1_107.2.1 rfl (by decide) ?_
  refine J_aload_n hK qd1_107.2.2.1 rfl 0 rfl rfl ?_
  refine J_get hK fo_RX5_79 qd1_107.2.2.2.1 rfl 0 0 rfl rfl rfl ?_
  refine J_iconst (v := 1) hK qd1_107.2.2.2.2.1 rfl (by decide) ?_
  refine J_isub hK qd1_107.2.2.2.2.2.1 rfl ?_
  obtain ⟨v1, e2, hf⟩ := bs hf
  refine J_callN (m := 1) (m' := 1) (ce' := 0) (sl' := 0) (gr := [gWy d h0 x0_edgeA x0_edgeB x0_edgeCost x0_edgeLine x0_change x0_away x0_steps x0_nodes x0_stepCount x0_open x0_openCount x0_seen x0_edgeCount x0_aim]) (gs' := fun _ => [gWy d h0 x0_edgeA x0_edgeB x0_edgeCost x0_edgeLine x0_change x0_away x0_steps x0_nodes x0_stepCount x0_open x0_openCount x0_seen x0_edgeCount x0_aim]) (st' := fun _ => [.int v1]) (st := []) hK qd1_107.2.2.2.2.2.2.1 cn_RX5_120 (As := [.int p1, .int (1), .int (x0_stepCount - 1)]) (kX6_within _ d p1 (1) (x0_stepCount - 1) e2) rfl rfl (Nat.le_of_ble_eq_true rfl) (by decide) [] [0] rfl (by decide +kernel) rfl rfl [0] (by decide +kernel) (fun _ => rfl) (fun _ => rfl) rfl rfl rfl (fun _ => rfl) (fun _ => ?_)
  refine J_if_eq (tg := 35) hK qd1_107.2.2.2.2.2.2.2.1 rfl rfl (fun hc11 => ?_) (fun hc11 => ?_)
  · have hf := ip hc11 hf
    refine J_iconst (v := (-1)) hK qd1_108.2.2.2.2.2.1 rfl (by decide) ?_
    obtain rfl := Option.some.inj hf
    exact J_iret hK hR qd1_108.2.2.2.2.2.2.1 () rfl (by decide) (by decide)
  · have hf := iq hc11 hf
    refine J_aload_n hK qd1_107.2.2.2.2.2.2.2.2.1 rfl 0 rfl rfl ?_
    refine J_get hK fo_RX5_30 qd1_107.2.2.2.2.2.2.2.2.2.1 rfl 0 0 rfl rfl rfl ?_
    refine J_iload_n hK qd1_107.2.2.2.2.2.2.2.2.2.2.1 rfl 1 rfl rfl ?_
    obtain ⟨v3, ev3, hf⟩ := bs hf
    refine J_iald hK qd1_107.2.2.2.2.2.2.2.2.2.2.2.1 rfl 0 7 rfl rfl ev3 ?_
    refine J_iconst (v := 3) hK qd1_107.2.2.2.2.2.2.2.2.2.2.2.2.1 rfl (by decide) ?_
    refine J_icmp_lt (tg := 35) hK qd1_107.2.2.2.2.2.2.2.2.2.2.2.2.2.1 rfl rfl (fun hc21 => ?_) (fun hc21 => ?_)
    · have hf := ip hc21 hf
      refine J_iconst (v := (-1)) hK qd1_108.2.2.2.2.2.1 rfl (by decide) ?_
      obtain rfl := Option.some.inj hf
      exact J_iret hK hR qd1_108.2.2.2.2.2.2.1 () rfl (by decide) (by decide)
    · have hf := iq hc21 hf
      refine J_aload_n hK qd1_107.2.2.2.2.2.2.2.2.2.2.2.2.2.2.1 rfl 0 rfl rfl ?_
      refine J_get hK fo_RX5_30 qd1_107.2.2.2.2.2.2.2.2.2.2.2.2.2.2.2.1 rfl 0 0 rfl rfl rfl ?_
      refine J_iload_n hK qd1_108.1 rfl 1 rfl rfl ?_
      obtain ⟨v4, ev4, hf⟩ := bs hf
      refine J_iald hK qd1_108.2.1 rfl 0 7 rfl rfl ev4 ?_
      refine J_iconst (v := 3) hK qd1_108.2.2.1 rfl (by decide) ?_
      refine J_isub hK qd1_108.2.2.2.1 rfl ?_
      refine J_goto hK qd1_108.2.2.2.2.1 (n := 36) rfl ?_
      obtain rfl := Option.some.inj hf
      exact J_iret hK hR qd1_108.2.2.2.2.2.2.1 () rfl (by decide) (by decide)

def fX4_payOwners_s3 (p2 : Int32) (m3 : Nat) (x1_edgeA : (Nat → Int32)) (x1_edgeB : (Nat → Int32)) (x1_edgeCost : (Nat → Int32)) (x1_edgeLine : (Nat → Int32)) (x1_change : (Nat → Int32)) (x1_away : (Nat → Int32)) (x1_steps : (Nat → Int32)) (x1_nodes : (Nat → Int32)) (x1_stepCount : Int32) (x1_open : (Nat → Int32)) (x1_openCount : Int32) (x1_seen : Int64) (x1_edgeCount : Int32) (x1_aim : Int32) (x2_lineCount : Int32) (x2_goodsCount : Int32) (x2_workCount : Int32) (x2_years : Int32) (x2_lines : (Nat → Int32)) (x2_goods : (Nat → Int32)) (x2_works : (Nat → Int32)) (x2_change : (Nat → Int32)) (x2_coin : (Nat → Int32)) (x2_knownFree : (Nat → Int32)) (x2_isKnown : Int32) (z2 : Int32) (z3 : (Nat → Int32)) : Option ((Int32 × (Nat → Int32)) ⊕ ((Nat → Int32))) :=
  if x1_stepCount ≤ z2 then (some (.inr z3)) else ((fX5_lineOn (x1_edgeA, x1_edgeB, x1_edgeCost, x1_edgeLine, x1_change, x1_away, x1_steps, x1_nodes, x1_stepCount, x1_open, x1_openCount, x1_seen, x1_edgeCount, x1_aim) z2).bind (fun v6 => (fX1_hasLine (x2_lineCount, x2_goodsCount, x2_workCount, x2_years, x2_lines, x2_goods, x2_works, x2_change, x2_coin, x2_knownFree, x2_isKnown) v6).bind (fun v8 => if v8 = 0 then (some (.inl ((z2 + 1), z3))) else ((fX1_ofLine (x2_lineCount, x2_goodsCount, x2_workCount, x2_years, x2_lines, x2_goods, x2_works, x2_change, x2_coin, x2_knownFree, x2_isKnown) v6 (5)).bind (fun v10 => (rd m3 z3 v10).bind fun v12 => (fX1_ofLine (x2_lineCount, x2_goodsCount, x2_workCount, x2_years, x2_lines, x2_goods, x2_works, x2_change, x2_coin, x2_knownFree, x2_isKnown) v6 (3)).bind (fun v13 => (wr m3 z3 v10 (v12 + (p2 * v13))).bind fun f15 => some (.inl ((z2 + 1), f15))))))))
def fX4_payOwners (n : Nat) (X0 : TrT) (X1 : WyT) (X2 : LdT) (p2 : Int32) (m3 : Nat) (p3 : (Nat → Int32)) : Option ((Nat → Int32)) :=
  u4 (fun (x0_left : (Nat → Int32)) (x0_earned : (Nat → Int32)) (x0_turnCost : Int32) (x0_turnWayless : Int32) => u14 (fun (x1_edgeA : (Nat → Int32)) (x1_edgeB : (Nat → Int32)) (x1_edgeCost : (Nat → Int32)) (x1_edgeLine : (Nat → Int32)) (x1_change : (Nat → Int32)) (x1_away : (Nat → Int32)) (x1_steps : (Nat → Int32)) (x1_nodes : (Nat → Int32)) (x1_stepCount : Int32) (x1_open : (Nat → Int32)) (x1_openCount : Int32) (x1_seen : Int64) (x1_edgeCount : Int32) (x1_aim : Int32) => u11 (fun (x2_lineCount : Int32) (x2_goodsCount : Int32) (x2_workCount : Int32) (x2_years : Int32) (x2_lines : (Nat → Int32)) (x2_goods : (Nat → Int32)) (x2_works : (Nat → Int32)) (x2_change : (Nat → Int32)) (x2_coin : (Nat → Int32)) (x2_knownFree : (Nat → Int32)) (x2_isKnown : Int32) => (lp (u2 (fX4_payOwners_s3 p2 m3 x1_edgeA x1_edgeB x1_edgeCost x1_edgeLine x1_change x1_away x1_steps x1_nodes x1_stepCount x1_open x1_openCount x1_seen x1_edgeCount x1_aim x2_lineCount x2_goodsCount x2_workCount x2_years x2_lines x2_goods x2_works x2_change x2_coin x2_knownFree x2_isKnown)) n (1, p3)).bind (fun w5 => some w5)) X2) X1) X0
set_option maxHeartbeats 4000000 in
set_option maxRecDepth 100000 in
theorem kX4_payOwners (l : Launch) (d : DT) (h0 : Nat → Nat) (h1 : Nat → Nat) (h2 : Nat → Nat) (b3 : Nat) (n : Nat) (x0_left : (Nat → Int32)) (x0_earned : (Nat → Int32)) (x0_turnCost : Int32) (x0_turnWayless : Int32) (x1_edgeA : (Nat → Int32)) (x1_edgeB : (Nat → Int32)) (x1_edgeCost : (Nat → Int32)) (x1_edgeLine : (Nat → Int32)) (x1_change : (Nat → Int32)) (x1_away : (Nat → Int32)) (x1_steps : (Nat → Int32)) (x1_nodes : (Nat → Int32)) (x1_stepCount : Int32) (x1_open : (Nat → Int32)) (x1_openCount : Int32) (x1_seen : Int64) (x1_edgeCount : Int32) (x1_aim : Int32) (x2_lineCount : Int32) (x2_goodsCount : Int32) (x2_workCount : Int32) (x2_years : Int32) (x2_lines : (Nat → Int32)) (x2_goods : (Nat → Int32)) (x2_works : (Nat → Int32)) (x2_change : (Nat → Int32)) (x2_coin : (Nat → Int32)) (x2_knownFree : (Nat → Int32)) (x2_isKnown : Int32) (p2 : Int32) (m3 : Nat) (p3 : (Nat → Int32))  {out : (Nat → Int32)} (hf : fX4_payOwners n (x0_left, x0_earned, x0_turnCost, x0_turnWayless) (x1_edgeA, x1_edgeB, x1_edgeCost, x1_edgeLine, x1_change, x1_away, x1_steps, x1_nodes, x1_stepCount, x1_open, x1_openCount, x1_seen, x1_edgeCount, x1_aim) (x2_lineCount, x2_goodsCount, x2_workCount, x2_years, x2_lines, x2_goods, x2_works, x2_change, x2_coin, x2_knownFree, x2_isKnown) p2 m3 p3 = some out) : Ct l d yX4_payOwners cX4_payOwners 6 none { frames := 2, cells := 0, slots := 0, locals := 43 } [.ref (h0 0), .ref (h2 0), .int p2, .ref b3] [gTr d h0 (h1 0) x0_left x0_earned x0_turnCost x0_turnWayless, gWy d h1 x1_edgeA x1_edgeB x1_edgeCost x1_edgeLine x1_change x1_away x1_steps x1_nodes x1_stepCount x1_open x1_openCount x1_seen x1_edgeCount x1_aim, gLd d h2 x2_lineCount x2_goodsCount x2_workCount x2_years x2_lines x2_goods x2_works x2_change x2_coin x2_knownFree x2_isKnown, [cI d b3 m3 p3]] (fun _ : Unit => (none, [gTr d h0 (h1 0) x0_left x0_earned x0_turnCost x0_turnWayless, gWy d h1 x1_edgeA x1_edgeB x1_edgeCost x1_edgeLine x1_change x1_away x1_steps x1_nodes x1_stepCount x1_open x1_openCount x1_seen x1_edgeCount x1_aim, gLd d h2 x2_lineCount x2_goodsCount x2_workCount x2_years x2_lines x2_goods x2_works x2_change x2_coin x2_knownFree x2_isKnown, [cI d b3 m3 out]])) := by
  refine Ct.of (by decide) (Nat.le_of_ble_eq_true rfl) ?_
  intro Φ hl hK hR
  subst hl
  have hK : Ok d Φ RX4 "payOwners" cX4_payOwners 6 none { frames := 2, cells := 0, slots := 0, locals := 43 } := hK
  unfold fX4_payOwners at hf
  have hf := un4 hf
  have hf := un14 hf
  have hf := un11 hf
  show J d Φ 6 [gTr d h0 (h1 0) x0_left x0_earned x0_turnCost x0_turnWayless, gWy d h1 x1_edgeA x1_edgeB x1_edgeCost x1_edgeLine x1_change x1_away x1_steps x1_nodes x1_stepCount x1_open x1_openCount x1_seen x1_edgeCount x1_aim, gLd d h2 x2_lineCount x2_goodsCount x2_workCount x2_years x2_lines x2_goods x2_works x2_change x2_coin x2_knownFree x2_isKnown, [cI d b3 m3 p3]] 0 0 0 [(0, .ref (h0 0)), (1, .ref (h2 0)), (2, .int p2), (3, .ref b3)] []
  refine J_iconst (v := 1) hK qd1_31.1 rfl (by decide) ?_
  refine J_istore (L' := [(4, .int (1)), (0, .ref (h0 0)), (1, .ref (h2 0)), (2, .int p2), (3, .ref b3)]) hK qd1_31.2.1 rfl (by decide) rfl ?_
  obtain ⟨e4, hl1, hf⟩ := bs hf
  have hx1_62 : ∀ (w5 : (Nat → Int32)), w5 = e4 → J d Φ 6 [gTr d h0 (h1 0) x0_left x0_earned x0_turnCost x0_turnWayless, gWy d h1 x1_edgeA x1_edgeB x1_edgeCost x1_edgeLine x1_change x1_away x1_steps x1_nodes x1_stepCount x1_open x1_openCount x1_seen x1_edgeCount x1_aim, gLd d h2 x2_lineCount x2_goodsCount x2_workCount x2_years x2_lines x2_goods x2_works x2_change x2_coin x2_knownFree x2_isKnown, [cI d b3 m3 w5]] 0 0 62 [] [] := by
    intro w5 he
    rw [← he] at hf
    obtain rfl := Option.some.inj hf
    exact J_vret hK hR qd1_33.2.1 () rfl (by decide) (by decide)
  have lo1 : ∀ (k : Nat) (z2 : Int32) (z3 : (Nat → Int32)), lp (u2 (fX4_payOwners_s3 p2 m3 x1_edgeA x1_edgeB x1_edgeCost x1_edgeLine x1_change x1_away x1_steps x1_nodes x1_stepCount x1_open x1_openCount x1_seen x1_edgeCount x1_aim x2_lineCount x2_goodsCount x2_workCount x2_years x2_lines x2_goods x2_works x2_change x2_coin x2_knownFree x2_isKnown)) k (z2, z3) = some e4 → J d Φ 6 [gTr d h0 (h1 0) x0_left x0_earned x0_turnCost x0_turnWayless, gWy d h1 x1_edgeA x1_edgeB x1_edgeCost x1_edgeLine x1_change x1_away x1_steps x1_nodes x1_stepCount x1_open x1_openCount x1_seen x1_edgeCount x1_aim, gLd d h2 x2_lineCount x2_goodsCount x2_workCount x2_years x2_lines x2_goods x2_works x2_change x2_coin x2_knownFree x2_isKnown, [cI d b3 m3 z3]] 0 0 3 [(0, .ref (h0 0)), (1, .ref (h2 0)), (2, .int p2), (3, .ref b3), (4, .int z2)] [] := by
    intro k
    induction k with
    | zero => intro z2 z3 h; cases h
    | succ k ih1 =>
      intro z2 z3 h
      obtain ⟨k2, rr1, hk2, hs1, hr1⟩ := lp_ok h
      cases hk2
      have hs1 : fX4_payOwners_s3 p2 m3 x1_edgeA x1_edgeB x1_edgeCost x1_edgeLine x1_change x1_away x1_steps x1_nodes x1_stepCount x1_open x1_openCount x1_seen x1_edgeCount x1_aim x2_lineCount x2_goodsCount x2_workCount x2_years x2_lines x2_goods x2_works x2_change x2_coin x2_knownFree x2_isKnown z2 z3 = some rr1 := hs1
      unfold fX4_payOwners_s3 at hs1
      refine J_iload hK qd1_31.2.2.1 rfl 4 rfl ?_
      refine J_aload_n hK qd1_31.2.2.2.1 rfl 0 rfl rfl ?_
      refine J_get hK fo_RX4_12 qd1_31.2.2.2.2.1 rfl 0 0 rfl rfl rfl ?_
      refine J_get hK fo_RX4_74 qd1_31.2.2.2.2.2.1 rfl 1 0 rfl rfl rfl ?_
      refine J_icmp_ge (tg := 62) hK qd1_31.2.2.2.2.2.2.1 rfl rfl (fun hc12 => ?_) (fun hc12 => ?_)
      · have hs1 := ip hc12 hs1
        exact J_loc [] rfl (hx1_62 z3 (lpx hs1 hr1))
      · have hs1 := iq hc12 hs1
        refine J_aload_n hK qd1_31.2.2.2.2.2.2.2.1 rfl 0 rfl rfl ?_
        refine J_get hK fo_RX4_12 qd1_31.2.2.2.2.2.2.2.2.1 rfl 0 0 rfl rfl rfl ?_
        refine J_iload hK qd1_31.2.2.2.2.2.2.2.2.2.1 rfl 4 rfl ?_
        obtain ⟨v6, e7, hs1⟩ := bs hs1
        refine J_callV (m := 4) (m' := 4) (ce' := 0) (sl' := 0) (gr := [gTr d h0 (h1 0) x0_left x0_earned x0_turnCost x0_turnWayless, gLd d h2 x2_lineCount x2_goodsCount x2_workCount x2_years x2_lines x2_goods x2_works x2_change x2_coin x2_knownFree x2_isKnown, [cI d b3 m3 z3]]) (gs' := fun _ => [gTr d h0 (h1 0) x0_left x0_earned x0_turnCost x0_turnWayless, gWy d h1 x1_edgeA x1_edgeB x1_edgeCost x1_edgeLine x1_change x1_away x1_steps x1_nodes x1_stepCount x1_open x1_openCount x1_seen x1_edgeCount x1_aim, gLd d h2 x2_lineCount x2_goodsCount x2_workCount x2_years x2_lines x2_goods x2_works x2_change x2_coin x2_knownFree x2_isKnown, [cI d b3 m3 z3]]) (st' := fun _ => [.int v6]) (st := []) hK qd1_31.2.2.2.2.2.2.2.2.2.2.1 cv_RX4_77 iv_yX5_lineOn (As := [.int z2]) (kX5_lineOn _ d h1 x1_edgeA x1_edgeB x1_edgeCost x1_edgeLine x1_change x1_away x1_steps x1_nodes x1_stepCount x1_open x1_openCount x1_seen x1_edgeCount x1_aim z2 e7) rfl rfl (Nat.le_of_ble_eq_true rfl) (by decide) 1 0 rfl rfl rfl [1] [0, 2, 3] rfl (by decide +kernel) rfl rfl [0, 3, 1, 2] (by decide +kernel) (fun _ => rfl) (fun _ => rfl) rfl rfl rfl (fun _ => rfl) (fun _ => ?_)
        refine J_istore (L' := [(5, .int v6), (0, .ref (h0 0)), (1, .ref (h2 0)), (2, .int p2), (3, .ref b3), (4, .int z2)]) hK qd1_31.2.2.2.2.2.2.2.2.2.2.2.1 rfl (by decide) rfl ?_
        refine J_aload_n hK qd1_31.2.2.2.2.2.2.2.2.2.2.2.2.1 rfl 2 rfl rfl ?_
        refine J_iload hK qd1_31.2.2.2.2.2.2.2.2.2.2.2.2.2.1 rfl 0 rfl ?_
        obtain ⟨v8, e9, hs1⟩ := bs hs1
        refine J_callV (m := 4) (m' := 4) (ce' := 0) (sl' := 0) (gr := [gTr d h0 (h1 0) x0_left x0_earned x0_turnCost x0_turnWayless, gWy d h1 x1_edgeA x1_edgeB x1_edgeCost x1_edgeLine x1_change x1_away x1_steps x1_nodes x1_stepCount x1_open x1_openCount x1_seen x1_edgeCount x1_aim, [cI d b3 m3 z3]]) (gs' := fun _ => [gTr d h0 (h1 0) x0_left x0_earned x0_turnCost x0_turnWayless, gWy d h1 x1_edgeA x1_edgeB x1_edgeCost x1_edgeLine x1_change x1_away x1_steps x1_nodes x1_stepCount x1_open x1_openCount x1_seen x1_edgeCount x1_aim, gLd d h2 x2_lineCount x2_goodsCount x2_workCount x2_years x2_lines x2_goods x2_works x2_change x2_coin x2_knownFree x2_isKnown, [cI d b3 m3 z3]]) (st' := fun _ => [.int v8]) (st := []) hK qd1_31.2.2.2.2.2.2.2.2.2.2.2.2.2.2.1 cv_RX4_95 iv_yX1_hasLine (As := [.int v6]) (kX1_hasLine _ d h2 x2_lineCount x2_goodsCount x2_workCount x2_years x2_lines x2_goods x2_works x2_change x2_coin x2_knownFree x2_isKnown v6 e9) rfl rfl (Nat.le_of_ble_eq_true rfl) (by decide) 2 0 rfl rfl rfl [2] [0, 1, 3] rfl (by decide +kernel) rfl rfl [0, 1, 3, 2] (by decide +kernel) (fun _ => rfl) (fun _ => rfl) rfl rfl rfl (fun _ => rfl) (fun _ => ?_)
        refine J_if_eq (tg := 56) hK qd1_31.2.2.2.2.2.2.2.2.2.2.2.2.2.2.2.1 rfl rfl (fun hc32 => ?_) (fun hc32 => ?_)
        · have hs1 := ip hc32 hs1
          refine J_iinc (L' := [(4, .int (z2 + 1)), (5, .int v6), (0, .ref (h0 0)), (1, .ref (h2 0)), (2, .int p2), (3, .ref b3)]) (v := (z2 + 1)) hK qd1_32.2.2.2.2.2.2.2.2.2.2.2.2.2.2.2.1 rfl 5 rfl rfl (by decide) rfl ?_
          refine J_goto hK qd1_33.1 (n := 3) rfl ?_
          exact J_loc [2, 3, 4, 5, 0] rfl (ih1 (z2 + 1) z3 (lpc hs1 hr1))
        · have hs1 := iq hc32 hs1
          refine J_aload_n hK qd1_32.1 rfl 4 rfl rfl ?_
          refine J_aload_n hK qd1_32.2.1 rfl 2 rfl rfl ?_
          refine J_iload hK qd1_32.2.2.1 rfl 0 rfl ?_
          refine J_iconst (v := 5) hK qd1_32.2.2.2.1 rfl (by decide) ?_
          obtain ⟨v10, e11, hs1⟩ := bs hs1
          refine J_callV (m := 4) (m' := 4) (ce' := 0) (sl' := 0) (gr := [gTr d h0 (h1 0) x0_left x0_earned x0_turnCost x0_turnWayless, gWy d h1 x1_edgeA x1_edgeB x1_edgeCost x1_edgeLine x1_change x1_away x1_steps x1_nodes x1_stepCount x1_open x1_openCount x1_seen x1_edgeCount x1_aim, [cI d b3 m3 z3]]) (gs' := fun _ => [gTr d h0 (h1 0) x0_left x0_earned x0_turnCost x0_turnWayless, gWy d h1 x1_edgeA x1_edgeB x1_edgeCost x1_edgeLine x1_change x1_away x1_steps x1_nodes x1_stepCount x1_open x1_openCount x1_seen x1_edgeCount x1_aim, gLd d h2 x2_lineCount x2_goodsCount x2_workCount x2_years x2_lines x2_goods x2_works x2_change x2_coin x2_knownFree x2_isKnown, [cI d b3 m3 z3]]) (st' := fun _ => [.int v10, .ref b3]) (st := [.ref b3]) hK qd1_32.2.2.2.2.1 cv_RX4_60 iv_yX1_ofLine (As := [.int v6, .int (5)]) (kX1_ofLine _ d h2 x2_lineCount x2_goodsCount x2_workCount x2_years x2_lines x2_goods x2_works x2_change x2_coin x2_knownFree x2_isKnown v6 (5) e11) rfl rfl (Nat.le_of_ble_eq_true rfl) (by decide) 2 0 rfl rfl rfl [2] [0, 1, 3] rfl (by decide +kernel) rfl rfl [0, 1, 3, 2] (by decide +kernel) (fun _ => rfl) (fun _ => rfl) rfl rfl rfl (fun _ => rfl) (fun _ => ?_)
          refine J_dup2 hK qd1_32.2.2.2.2.2.1 rfl rfl rfl ?_
          obtain ⟨v12, ev12, hs1⟩ := bs hs1
          refine J_iald hK qd1_32.2.2.2.2.2.2.1 rfl 3 0 rfl rfl ev12 ?_
          refine J_iload_n hK qd1_32.2.2.2.2.2.2.2.1 rfl 3 rfl rfl ?_
          refine J_aload_n hK qd1_32.2.2.2.2.2.2.2.2.1 rfl 2 rfl rfl ?_
          refine J_iload hK qd1_32.2.2.2.2.2.2.2.2.2.1 rfl 0 rfl ?_
          refine J_iconst (v := 3) hK qd1_32.2.2.2.2.2.2.2.2.2.2.1 rfl (by decide) ?_
          obtain ⟨v13, e14, hs1⟩ := bs hs1
          refine J_callV (m := 4) (m' := 4) (ce' := 0) (sl' := 0) (gr := [gTr d h0 (h1 0) x0_left x0_earned x0_turnCost x0_turnWayless, gWy d h1 x1_edgeA x1_edgeB x1_edgeCost x1_edgeLine x1_change x1_away x1_steps x1_nodes x1_stepCount x1_open x1_openCount x1_seen x1_edgeCount x1_aim, [cI d b3 m3 z3]]) (gs' := fun _ => [gTr d h0 (h1 0) x0_left x0_earned x0_turnCost x0_turnWayless, gWy d h1 x1_edgeA x1_edgeB x1_edgeCost x1_edgeLine x1_change x1_away x1_steps x1_nodes x1_stepCount x1_open x1_openCount x1_seen x1_edgeCount x1_aim, gLd d h2 x2_lineCount x2_goodsCount x2_workCount x2_years x2_lines x2_goods x2_works x2_change x2_coin x2_knownFree x2_isKnown, [cI d b3 m3 z3]]) (st' := fun _ => [.int v13, .int p2, .int v12, .int v10, .ref b3]) (st := [.int p2, .int v12, .int v10, .ref b3]) hK qd1_32.2.2.2.2.2.2.2.2.2.2.2.1 cv_RX4_60 iv_yX1_ofLine (As := [.int v6, .int (3)]) (kX1_ofLine _ d h2 x2_lineCount x2_goodsCount x2_workCount x2_years x2_lines x2_goods x2_works x2_change x2_coin x2_knownFree x2_isKnown v6 (3) e14) rfl rfl (Nat.le_of_ble_eq_true rfl) (by decide) 2 0 rfl rfl rfl [2] [0, 1, 3] rfl (by decide +kernel) rfl rfl [0, 1, 3, 2] (by decide +kernel) (fun _ => rfl) (fun _ => rfl) rfl rfl rfl (fun _ => rfl) (fun _ => ?_)
          refine J_imul hK qd1_32.2.2.2.2.2.2.2.2.2.2.2.2.1 rfl ?_
          refine J_iadd hK qd1_32.2.2.2.2.2.2.2.2.2.2.2.2.2.1 rfl ?_
          obtain ⟨f15, ef15, hs1⟩ := bs hs1
          refine J_iast (g' := [cI d b3 m3 f15]) (gs' := [gTr d h0 (h1 0) x0_left x0_earned x0_turnCost x0_turnWayless, gWy d h1 x1_edgeA x1_edgeB x1_edgeCost x1_edgeLine x1_change x1_away x1_steps x1_nodes x1_stepCount x1_open x1_openCount x1_seen x1_edgeCount x1_aim, gLd d h2 x2_lineCount x2_goodsCount x2_workCount x2_years x2_lines x2_goods x2_works x2_change x2_coin x2_knownFree x2_isKnown, [cI d b3 m3 f15]]) hK qd1_32.2.2.2.2.2.2.2.2.2.2.2.2.2.2.1 rfl 3 0 rfl rfl ef15 rfl rfl ?_
          refine J_iinc (L' := [(4, .int (z2 + 1)), (5, .int v6), (0, .ref (h0 0)), (1, .ref (h2 0)), (2, .int p2), (3, .ref b3)]) (v := (z2 + 1)) hK qd1_32.2.2.2.2.2.2.2.2.2.2.2.2.2.2.2.1 rfl 5 rfl rfl (by decide) rfl ?_
          refine J_goto hK qd1_33.1 (n := 3) rfl ?_
          exact J_loc [2, 3, 4, 5, 0] rfl (ih1 (z2 + 1) f15 (lpc hs1 hr1))
  exact J_loc [1, 2, 3, 4, 0] rfl (lo1 n (1) p3 hl1)

def fX4_earn_s19 (n : Nat) (m2 : Nat) (x0_left : (Nat → Int32)) (x0_earned : (Nat → Int32)) (x0_turnCost : Int32) (x0_turnWayless : Int32) (x2_lineCount : Int32) (x2_goodsCount : Int32) (x2_workCount : Int32) (x2_years : Int32) (x2_lines : (Nat → Int32)) (x2_goods : (Nat → Int32)) (x2_works : (Nat → Int32)) (x2_change : (Nat → Int32)) (x2_coin : (Nat → Int32)) (x2_knownFree : (Nat → Int32)) (x2_isKnown : Int32) (g6 : (Nat → Int32)) (g7 : (Nat → Int32)) (g8 : (Nat → Int32)) (g9 : (Nat → Int32)) (g10 : (Nat → Int32)) (g11 : Int32) (z15 : Int32) (z16 : (Nat → Int32)) (z17 : (Nat → Int32)) (z18 : (Nat → Int32)) (z19 : Int32) (z20 : (Nat → Int32)) (z21 : Int32) (z22 : Int64) (z23 : Int32) (z24 : (Nat → Int32)) : Option ((Int32 × (Nat → Int32) × (Nat → Int32) × (Nat → Int32) × Int32 × (Nat → Int32) × Int32 × Int64 × Int32 × (Nat → Int32)) ⊕ ((Nat → Int32) × (Nat → Int32) × (Nat → Int32) × Int32 × (Nat → Int32) × Int32 × Int64 × Int32 × (Nat → Int32))) :=
  if x2_goodsCount ≤ z15 then (some (.inr (z16, z17, z18, z19, z20, z21, z22, z23, z24))) else ((fX1_ofGoods (x2_lineCount, x2_goodsCount, x2_workCount, x2_years, x2_lines, x2_goods, x2_works, x2_change, x2_coin, x2_knownFree, x2_isKnown) z15 (0)).bind (fun v35 => (fX1_ofGoods (x2_lineCount, x2_goodsCount, x2_workCount, x2_years, x2_lines, x2_goods, x2_works, x2_change, x2_coin, x2_knownFree, x2_isKnown) z15 (1)).bind (fun v37 => (fX5_trace n (g6, g7, g8, g9, g10, z16, z17, z18, z19, z20, z21, z22, g11, z23) v35 v37).bind (u2 fun v39 G40 => u8 (fun g41 g42 g43 g44 g45 g46 g47 g48 => if v39 = 0 then (some (.inl ((z15 + 1), g41, g42, g43, g44, g45, g46, g47, g48, z24))) else ((fX1_ofGoods (x2_lineCount, x2_goodsCount, x2_workCount, x2_years, x2_lines, x2_goods, x2_works, x2_change, x2_coin, x2_knownFree, x2_isKnown) z15 (2)).bind (fun v50 => (fX4_payOwners n (x0_left, x0_earned, x0_turnCost, x0_turnWayless) (g6, g7, g8, g9, g10, g41, g42, g43, g44, g45, g46, g47, g11, g48) (x2_lineCount, x2_goodsCount, x2_workCount, x2_years, x2_lines, x2_goods, x2_works, x2_change, x2_coin, x2_knownFree, x2_isKnown) v50 m2 z24).bind (fun g52 => some (.inl ((z15 + 1), g41, g42, g43, g44, g45, g46, g47, g48, g52)))))) G40))))
def fX4_earn (n : Nat) (X0 : TrT) (X1 : WyT) (X2 : LdT) (m2 : Nat) (p2 : (Nat → Int32)) : Option (((Nat → Int32) × (Nat → Int32) × (Nat → Int32) × (Nat → Int32) × (Nat → Int32) × (Nat → Int32) × (Nat → Int32) × (Nat → Int32) × Int32 × (Nat → Int32) × Int32 × Int64 × Int32 × Int32) × (Nat → Int32)) :=
  u4 (fun (x0_left : (Nat → Int32)) (x0_earned : (Nat → Int32)) (x0_turnCost : Int32) (x0_turnWayless : Int32) => u14 (fun (x1_edgeA : (Nat → Int32)) (x1_edgeB : (Nat → Int32)) (x1_edgeCost : (Nat → Int32)) (x1_edgeLine : (Nat → Int32)) (x1_change : (Nat → Int32)) (x1_away : (Nat → Int32)) (x1_steps : (Nat → Int32)) (x1_nodes : (Nat → Int32)) (x1_stepCount : Int32) (x1_open : (Nat → Int32)) (x1_openCount : Int32) (x1_seen : Int64) (x1_edgeCount : Int32) (x1_aim : Int32) => u11 (fun (x2_lineCount : Int32) (x2_goodsCount : Int32) (x2_workCount : Int32) (x2_years : Int32) (x2_lines : (Nat → Int32)) (x2_goods : (Nat → Int32)) (x2_works : (Nat → Int32)) (x2_change : (Nat → Int32)) (x2_coin : (Nat → Int32)) (x2_knownFree : (Nat → Int32)) (x2_isKnown : Int32) => (fJ7_fill_53178 n m2 p2 (0)).bind (fun g1 => (fX1_linesThere n (x2_lineCount, x2_goodsCount, x2_workCount, x2_years, x2_lines, x2_goods, x2_works, x2_change, x2_coin, x2_knownFree, x2_isKnown)).bind (fun v3 => (fX5_prepare n (x1_edgeA, x1_edgeB, x1_edgeCost, x1_edgeLine, x1_change, x1_away, x1_steps, x1_nodes, x1_stepCount, x1_open, x1_openCount, x1_seen, x1_edgeCount, x1_aim) (x2_lineCount, x2_goodsCount, x2_workCount, x2_years, x2_lines, x2_goods, x2_works, x2_change, x2_coin, x2_knownFree, x2_isKnown) v3).bind (fun G5 => u7 (fun g6 g7 g8 g9 g10 g11 g12 => (lp (u10 (fX4_earn_s19 n m2 x0_left x0_earned x0_turnCost x0_turnWayless x2_lineCount x2_goodsCount x2_workCount x2_years x2_lines x2_goods x2_works x2_change x2_coin x2_knownFree x2_isKnown g6 g7 g8 g9 g10 g11)) n (0, x1_away, x1_steps, x1_nodes, x1_stepCount, x1_open, x1_openCount, x1_seen, g12, g1)).bind (u9 fun w26 w27 w28 w29 w30 w31 w32 w33 w34 => some ((g6, g7, g8, g9, g10, w26, w27, w28, w29, w30, w31, w32, g11, w33), w34))) G5)))) X2) X1) X0
set_option maxHeartbeats 4000000 in
set_option maxRecDepth 100000 in
theorem kX4_earn (l : Launch) (d : DT) (h0 : Nat → Nat) (h1 : Nat → Nat) (h2 : Nat → Nat) (b2 : Nat) (n : Nat) (x0_left : (Nat → Int32)) (x0_earned : (Nat → Int32)) (x0_turnCost : Int32) (x0_turnWayless : Int32) (x1_edgeA : (Nat → Int32)) (x1_edgeB : (Nat → Int32)) (x1_edgeCost : (Nat → Int32)) (x1_edgeLine : (Nat → Int32)) (x1_change : (Nat → Int32)) (x1_away : (Nat → Int32)) (x1_steps : (Nat → Int32)) (x1_nodes : (Nat → Int32)) (x1_stepCount : Int32) (x1_open : (Nat → Int32)) (x1_openCount : Int32) (x1_seen : Int64) (x1_edgeCount : Int32) (x1_aim : Int32) (x2_lineCount : Int32) (x2_goodsCount : Int32) (x2_workCount : Int32) (x2_years : Int32) (x2_lines : (Nat → Int32)) (x2_goods : (Nat → Int32)) (x2_works : (Nat → Int32)) (x2_change : (Nat → Int32)) (x2_coin : (Nat → Int32)) (x2_knownFree : (Nat → Int32)) (x2_isKnown : Int32) (m2 : Nat) (p2 : (Nat → Int32))  {out : ((Nat → Int32) × (Nat → Int32) × (Nat → Int32) × (Nat → Int32) × (Nat → Int32) × (Nat → Int32) × (Nat → Int32) × (Nat → Int32) × Int32 × (Nat → Int32) × Int32 × Int64 × Int32 × Int32) × (Nat → Int32)} (hf : fX4_earn n (x0_left, x0_earned, x0_turnCost, x0_turnWayless) (x1_edgeA, x1_edgeB, x1_edgeCost, x1_edgeLine, x1_change, x1_away, x1_steps, x1_nodes, x1_stepCount, x1_open, x1_openCount, x1_seen, x1_edgeCount, x1_aim) (x2_lineCount, x2_goodsCount, x2_workCount, x2_years, x2_lines, x2_goods, x2_works, x2_change, x2_coin, x2_knownFree, x2_isKnown) m2 p2 = some out) : Ct l d yX4_earn cX4_earn 4 none { frames := 5, cells := 0, slots := 0, locals := 131 } [.ref (h0 0), .ref (h2 0), .ref b2] [gTr d h0 (h1 0) x0_left x0_earned x0_turnCost x0_turnWayless, gWy d h1 x1_edgeA x1_edgeB x1_edgeCost x1_edgeLine x1_change x1_away x1_steps x1_nodes x1_stepCount x1_open x1_openCount x1_seen x1_edgeCount x1_aim, gLd d h2 x2_lineCount x2_goodsCount x2_workCount x2_years x2_lines x2_goods x2_works x2_change x2_coin x2_knownFree x2_isKnown, [cI d b2 m2 p2]] (fun _ : Unit => (none, [gTr d h0 (h1 0) x0_left x0_earned x0_turnCost x0_turnWayless, gWy d h1 (out.1.1) (out.1.2.1) (out.1.2.2.1) (out.1.2.2.2.1) (out.1.2.2.2.2.1) (out.1.2.2.2.2.2.1) (out.1.2.2.2.2.2.2.1) (out.1.2.2.2.2.2.2.2.1) (out.1.2.2.2.2.2.2.2.2.1) (out.1.2.2.2.2.2.2.2.2.2.1) (out.1.2.2.2.2.2.2.2.2.2.2.1) (out.1.2.2.2.2.2.2.2.2.2.2.2.1) (out.1.2.2.2.2.2.2.2.2.2.2.2.2.1) (out.1.2.2.2.2.2.2.2.2.2.2.2.2.2), gLd d h2 x2_lineCount x2_goodsCount x2_workCount x2_years x2_lines x2_goods x2_works x2_change x2_coin x2_knownFree x2_isKnown, [cI d b2 m2 (out.2)]])) := by
  refine Ct.of (by decide) (Nat.le_of_ble_eq_true rfl) ?_
  intro Φ hl hK hR
  subst hl
  have hK : Ok d Φ RX4 "earn" cX4_earn 4 none { frames := 5, cells := 0, slots := 0, locals := 131 } := hK
  unfold fX4_earn at hf
  have hf := un4 hf
  have hf := un14 hf
  have hf := un11 hf
  show J d Φ 4 [gTr d h0 (h1 0) x0_left x0_earned x0_turnCost x0_turnWayless, gWy d h1 x1_edgeA x1_edgeB x1_edgeCost x1_edgeLine x1_change x1_away x1_steps x1_nodes x1_stepCount x1_open x1_openCount x1_seen x1_edgeCount x1_aim, gLd d h2 x2_lineCount x2_goodsCount x2_workCount x2_years x2_lines x2_goods x2_works x2_change x2_coin x2_knownFree x2_isKnown, [cI d b2 m2 p2]] 0 0 0 [(0, .ref (h0 0)), (1, .ref (h2 0)), (2, .ref b2)] []
  refine J_aload_n hK qd1_28.1 rfl 2 rfl rfl ?_
  refine J_iconst (v := 0) hK qd1_28.2.1 rfl (by decide) ?_
  obtain ⟨g1, e2, hf⟩ := bs hf
  refine J_callS (m := 4) (m' := 4) (ce' := 0) (sl' := 0) (gr := [gTr d h0 (h1 0) x0_left x0_earned x0_turnCost x0_turnWayless, gWy d h1 x1_edgeA x1_edgeB x1_edgeCost x1_edgeLine x1_change x1_away x1_steps x1_nodes x1_stepCount x1_open x1_openCount x1_seen x1_edgeCount x1_aim, gLd d h2 x2_lineCount x2_goodsCount x2_workCount x2_years x2_lines x2_goods x2_works x2_change x2_coin x2_knownFree x2_isKnown]) (gs' := fun _ => [gTr d h0 (h1 0) x0_left x0_earned x0_turnCost x0_turnWayless, gWy d h1 x1_edgeA x1_edgeB x1_edgeCost x1_edgeLine x1_change x1_away x1_steps x1_nodes x1_stepCount x1_open x1_openCount x1_seen x1_edgeCount x1_aim, gLd d h2 x2_lineCount x2_goodsCount x2_workCount x2_years x2_lines x2_goods x2_works x2_change x2_coin x2_knownFree x2_isKnown, [cI d b2 m2 g1]]) (st' := fun _ => []) (st := []) hK qd1_28.2.2.1 cv_RX4_85 ws_yJ7_fill_53178 (As := [.ref b2, .int (0)]) (kJ7_fill_53178 _ d b2 n m2 p2 (0) e2) rfl rfl (Nat.le_of_ble_eq_true rfl) (by decide) [3] [0, 1, 2] rfl (by decide +kernel) rfl rfl [0, 1, 2, 3] (by decide +kernel) (fun _ => rfl) (fun _ => rfl) rfl rfl rfl (fun _ => rfl) (fun _ => ?_)
  refine J_aload_n hK qd1_28.2.2.2.1 rfl 0 rfl rfl ?_
  refine J_get hK fo_RX4_12 qd1_28.2.2.2.2.1 rfl 0 0 rfl rfl rfl ?_
  refine J_aload_n hK qd1_28.2.2.2.2.2.1 rfl 1 rfl rfl ?_
  refine J_aload_n hK qd1_28.2.2.2.2.2.2.1 rfl 1 rfl rfl ?_
  obtain ⟨v3, e4, hf⟩ := bs hf
  refine J_callV (m := 4) (m' := 4) (ce' := 0) (sl' := 0) (gr := [gTr d h0 (h1 0) x0_left x0_earned x0_turnCost x0_turnWayless, gWy d h1 x1_edgeA x1_edgeB x1_edgeCost x1_edgeLine x1_change x1_away x1_steps x1_nodes x1_stepCount x1_open x1_openCount x1_seen x1_edgeCount x1_aim, [cI d b2 m2 g1]]) (gs' := fun _ => [gTr d h0 (h1 0) x0_left x0_earned x0_turnCost x0_turnWayless, gWy d h1 x1_edgeA x1_edgeB x1_edgeCost x1_edgeLine x1_change x1_away x1_steps x1_nodes x1_stepCount x1_open x1_openCount x1_seen x1_edgeCount x1_aim, gLd d h2 x2_lineCount x2_goodsCount x2_workCount x2_years x2_lines x2_goods x2_works x2_change x2_coin x2_knownFree x2_isKnown, [cI d b2 m2 g1]]) (st' := fun _ => [.int v3, .ref (h2 0), .ref (h1 0)]) (st := [.ref (h2 0), .ref (h1 0)]) hK qd1_28.2.2.2.2.2.2.2.1 cv_RX4_25 iv_yX1_linesThere (As := []) (kX1_linesThere _ d h2 n x2_lineCount x2_goodsCount x2_workCount x2_years x2_lines x2_goods x2_works x2_change x2_coin x2_knownFree x2_isKnown e4) rfl rfl (Nat.le_of_ble_eq_true rfl) (by decide) 2 0 rfl rfl rfl [2] [0, 1, 3] rfl (by decide +kernel) rfl rfl [0, 1, 3, 2] (by decide +kernel) (fun _ => rfl) (fun _ => rfl) rfl rfl rfl (fun _ => rfl) (fun _ => ?_)
  obtain ⟨⟨g6, g7, g8, g9, g10, g11, g12⟩, e13, hf⟩ := bs hf
  have hf := un7 hf
  refine J_callV (m := 4) (m' := 4) (ce' := 0) (sl' := 0) (gr := [gTr d h0 (h1 0) x0_left x0_earned x0_turnCost x0_turnWayless, [cI d b2 m2 g1]]) (gs' := fun _ => [gTr d h0 (h1 0) x0_left x0_earned x0_turnCost x0_turnWayless, gWy d h1 g6 g7 g8 g9 g10 x1_away x1_steps x1_nodes x1_stepCount x1_open x1_openCount x1_seen g11 g12, gLd d h2 x2_lineCount x2_goodsCount x2_workCount x2_years x2_lines x2_goods x2_works x2_change x2_coin x2_knownFree x2_isKnown, [cI d b2 m2 g1]]) (st' := fun _ => []) (st := []) hK qd1_28.2.2.2.2.2.2.2.2.1 cv_RX4_31 iv_yX5_prepare (As := [.ref (h2 0), .int v3]) (kX5_prepare _ d h1 h2 n x1_edgeA x1_edgeB x1_edgeCost x1_edgeLine x1_change x1_away x1_steps x1_nodes x1_stepCount x1_open x1_openCount x1_seen x1_edgeCount x1_aim x2_lineCount x2_goodsCount x2_workCount x2_years x2_lines x2_goods x2_works x2_change x2_coin x2_knownFree x2_isKnown v3 e13) rfl rfl (Nat.le_of_ble_eq_true rfl) (by decide) 1 0 rfl rfl rfl [1, 2] [0, 3] rfl (by decide +kernel) rfl rfl [0, 2, 3, 1] (by decide +kernel) (fun _ => rfl) (fun _ => rfl) rfl rfl rfl (fun _ => rfl) (fun _ => ?_)
  refine J_iconst (v := 0) hK qd1_28.2.2.2.2.2.2.2.2.2.1 rfl (by decide) ?_
  refine J_istore_n (L' := [(3, .int (0)), (0, .ref (h0 0)), (1, .ref (h2 0)), (2, .ref b2)]) hK qd1_28.2.2.2.2.2.2.2.2.2.2.1 rfl rfl (by decide) rfl ?_
  obtain ⟨e25, hl14, hf⟩ := bs hf
  have hx14_67 : ∀ (w26 : (Nat → Int32)) (w27 : (Nat → Int32)) (w28 : (Nat → Int32)) (w29 : Int32) (w30 : (Nat → Int32)) (w31 : Int32) (w32 : Int64) (w33 : Int32) (w34 : (Nat → Int32)), (w26, w27, w28, w29, w30, w31, w32, w33, w34) = e25 → J d Φ 4 [gTr d h0 (h1 0) x0_left x0_earned x0_turnCost x0_turnWayless, gWy d h1 g6 g7 g8 g9 g10 w26 w27 w28 w29 w30 w31 w32 g11 w33, gLd d h2 x2_lineCount x2_goodsCount x2_workCount x2_years x2_lines x2_goods x2_works x2_change x2_coin x2_knownFree x2_isKnown, [cI d b2 m2 w34]] 0 0 67 [] [] := by
    intro w26 w27 w28 w29 w30 w31 w32 w33 w34 he
    rw [← he] at hf
    have hf := un9 hf
    obtain rfl := Option.some.inj hf
    exact J_vret hK hR qd1_30.2.2.2.2.2.1 () rfl (by decide) (by decide)
  have lo14 : ∀ (k : Nat) (z15 : Int32) (z16 : (Nat → Int32)) (z17 : (Nat → Int32)) (z18 : (Nat → Int32)) (z19 : Int32) (z20 : (Nat → Int32)) (z21 : Int32) (z22 : Int64) (z23 : Int32) (z24 : (Nat → Int32)), lp (u10 (fX4_earn_s19 n m2 x0_left x0_earned x0_turnCost x0_turnWayless x2_lineCount x2_goodsCount x2_workCount x2_years x2_lines x2_goods x2_works x2_change x2_coin x2_knownFree x2_isKnown g6 g7 g8 g9 g10 g11)) k (z15, z16, z17, z18, z19, z20, z21, z22, z23, z24) = some e25 → J d Φ 4 [gTr d h0 (h1 0) x0_left x0_earned x0_turnCost x0_turnWayless, gWy d h1 g6 g7 g8 g9 g10 z16 z17 z18 z19 z20 z21 z22 g11 z23, gLd d h2 x2_lineCount x2_goodsCount x2_workCount x2_years x2_lines x2_goods x2_works x2_change x2_coin x2_knownFree x2_isKnown, [cI d b2 m2 z24]] 0 0 19 [(0, .ref (h0 0)), (1, .ref (h2 0)), (2, .ref b2), (3, .int z15)] [] := by
    intro k
    induction k with
    | zero => intro z15 z16 z17 z18 z19 z20 z21 z22 z23 z24 h; cases h
    | succ k ih14 =>
      intro z15 z16 z17 z18 z19 z20 z21 z22 z23 z24 h
      obtain ⟨k2, rr14, hk2, hs14, hr14⟩ := lp_ok h
      cases hk2
      have hs14 : fX4_earn_s19 n m2 x0_left x0_earned x0_turnCost x0_turnWayless x2_lineCount x2_goodsCount x2_workCount x2_years x2_lines x2_goods x2_works x2_change x2_coin x2_knownFree x2_isKnown g6 g7 g8 g9 g10 g11 z15 z16 z17 z18 z19 z20 z21 z22 z23 z24 = some rr14 := hs14
      unfold fX4_earn_s19 at hs14
      refine J_iload_n hK qd1_28.2.2.2.2.2.2.2.2.2.2.2.1 rfl 3 rfl rfl ?_
      refine J_aload_n hK qd1_28.2.2.2.2.2.2.2.2.2.2.2.2.1 rfl 1 rfl rfl ?_
      refine J_get hK fo_RX4_43 qd1_28.2.2.2.2.2.2.2.2.2.2.2.2.2.1 rfl 2 0 rfl rfl rfl ?_
      refine J_icmp_ge (tg := 67) hK qd1_28.2.2.2.2.2.2.2.2.2.2.2.2.2.2.1 rfl rfl (fun hc24 => ?_) (fun hc24 => ?_)
      · have hs14 := ip hc24 hs14
        exact J_loc [] rfl (hx14_67 z16 z17 z18 z19 z20 z21 z22 z23 z24 (lpx hs14 hr14))
      · have hs14 := iq hc24 hs14
        refine J_aload_n hK qd1_28.2.2.2.2.2.2.2.2.2.2.2.2.2.2.2.1 rfl 0 rfl rfl ?_
        refine J_get hK fo_RX4_12 qd1_29.1 rfl 0 0 rfl rfl rfl ?_
        refine J_aload_n hK qd1_29.2.1 rfl 1 rfl rfl ?_
        refine J_iload_n hK qd1_29.2.2.1 rfl 3 rfl rfl ?_
        refine J_iconst (v := 0) hK qd1_29.2.2.2.1 rfl (by decide) ?_
        obtain ⟨v35, e36, hs14⟩ := bs hs14
        refine J_callV (m := 4) (m' := 4) (ce' := 0) (sl' := 0) (gr := [gTr d h0 (h1 0) x0_left x0_earned x0_turnCost x0_turnWayless, gWy d h1 g6 g7 g8 g9 g10 z16 z17 z18 z19 z20 z21 z22 g11 z23, [cI d b2 m2 z24]]) (gs' := fun _ => [gTr d h0 (h1 0) x0_left x0_earned x0_turnCost x0_turnWayless, gWy d h1 g6 g7 g8 g9 g10 z16 z17 z18 z19 z20 z21 z22 g11 z23, gLd d h2 x2_lineCount x2_goodsCount x2_workCount x2_years x2_lines x2_goods x2_works x2_change x2_coin x2_knownFree x2_isKnown, [cI d b2 m2 z24]]) (st' := fun _ => [.int v35, .ref (h1 0)]) (st := [.ref (h1 0)]) hK qd1_29.2.2.2.2.1 cv_RX4_47 iv_yX1_ofGoods (As := [.int z15, .int (0)]) (kX1_ofGoods _ d h2 x2_lineCount x2_goodsCount x2_workCount x2_years x2_lines x2_goods x2_works x2_change x2_coin x2_knownFree x2_isKnown z15 (0) e36) rfl rfl (Nat.le_of_ble_eq_true rfl) (by decide) 2 0 rfl rfl rfl [2] [0, 1, 3] rfl (by decide +kernel) rfl rfl [0, 1, 3, 2] (by decide +kernel) (fun _ => rfl) (fun _ => rfl) rfl rfl rfl (fun _ => rfl) (fun _ => ?_)
        refine J_aload_n hK qd1_29.2.2.2.2.2.1 rfl 1 rfl rfl ?_
        refine J_iload_n hK qd1_29.2.2.2.2.2.2.1 rfl 3 rfl rfl ?_
        refine J_iconst (v := 1) hK qd1_29.2.2.2.2.2.2.2.1 rfl (by decide) ?_
        obtain ⟨v37, e38, hs14⟩ := bs hs14
        refine J_callV (m := 4) (m' := 4) (ce' := 0) (sl' := 0) (gr := [gTr d h0 (h1 0) x0_left x0_earned x0_turnCost x0_turnWayless, gWy d h1 g6 g7 g8 g9 g10 z16 z17 z18 z19 z20 z21 z22 g11 z23, [cI d b2 m2 z24]]) (gs' := fun _ => [gTr d h0 (h1 0) x0_left x0_earned x0_turnCost x0_turnWayless, gWy d h1 g6 g7 g8 g9 g10 z16 z17 z18 z19 z20 z21 z22 g11 z23, gLd d h2 x2_lineCount x2_goodsCount x2_workCount x2_years x2_lines x2_goods x2_works x2_change x2_coin x2_knownFree x2_isKnown, [cI d b2 m2 z24]]) (st' := fun _ => [.int v37, .int v35, .ref (h1 0)]) (st := [.int v35, .ref (h1 0)]) hK qd1_29.2.2.2.2.2.2.2.2.1 cv_RX4_47 iv_yX1_ofGoods (As := [.int z15, .int (1)]) (kX1_ofGoods _ d h2 x2_lineCount x2_goodsCount x2_workCount x2_years x2_lines x2_goods x2_works x2_change x2_coin x2_knownFree x2_isKnown z15 (1) e38) rfl rfl (Nat.le_of_ble_eq_true rfl) (by decide) 2 0 rfl rfl rfl [2] [0, 1, 3] rfl (by decide +kernel) rfl rfl [0, 1, 3, 2] (by decide +kernel) (fun _ => rfl) (fun _ => rfl) rfl rfl rfl (fun _ => rfl) (fun _ => ?_)
        obtain ⟨⟨v39, ⟨g41, g42, g43, g44, g45, g46, g47, g48⟩⟩, e49, hs14⟩ := bs hs14
        have hs14 := un2 hs14
        have hs14 := un8 hs14
        refine J_callV (m := 4) (m' := 4) (ce' := 0) (sl' := 0) (gr := [gTr d h0 (h1 0) x0_left x0_earned x0_turnCost x0_turnWayless, gLd d h2 x2_lineCount x2_goodsCount x2_workCount x2_years x2_lines x2_goods x2_works x2_change x2_coin x2_knownFree x2_isKnown, [cI d b2 m2 z24]]) (gs' := fun _ => [gTr d h0 (h1 0) x0_left x0_earned x0_turnCost x0_turnWayless, gWy d h1 g6 g7 g8 g9 g10 g41 g42 g43 g44 g45 g46 g47 g11 g48, gLd d h2 x2_lineCount x2_goodsCount x2_workCount x2_years x2_lines x2_goods x2_works x2_change x2_coin x2_knownFree x2_isKnown, [cI d b2 m2 z24]]) (st' := fun _ => [.int v39]) (st := []) hK qd1_29.2.2.2.2.2.2.2.2.2.1 cv_RX4_67 iv_yX5_trace (As := [.int v35, .int v37]) (kX5_trace _ d h1 n g6 g7 g8 g9 g10 z16 z17 z18 z19 z20 z21 z22 g11 z23 v35 v37 e49) rfl rfl (Nat.le_of_ble_eq_true rfl) (by decide) 1 0 rfl rfl rfl [1] [0, 2, 3] rfl (by decide +kernel) rfl rfl [0, 3, 1, 2] (by decide +kernel) (fun _ => rfl) (fun _ => rfl) rfl rfl rfl (fun _ => rfl) (fun _ => ?_)
        refine J_if_eq (tg := 61) hK qd1_29.2.2.2.2.2.2.2.2.2.2.1 rfl rfl (fun hc46 => ?_) (fun hc46 => ?_)
        · have hs14 := ip hc46 hs14
          refine J_iinc (L' := [(3, .int (z15 + 1)), (0, .ref (h0 0)), (1, .ref (h2 0)), (2, .ref b2)]) (v := (z15 + 1)) hK qd1_30.2.2.2.1 rfl 3 rfl rfl (by decide) rfl ?_
          refine J_goto hK qd1_30.2.2.2.2.1 (n := 19) rfl ?_
          exact J_loc [1, 2, 3, 0] rfl (ih14 (z15 + 1) g41 g42 g43 g44 g45 g46 g47 g48 z24 (lpc hs14 hr14))
        · have hs14 := iq hc46 hs14
          refine J_aload_n hK qd1_29.2.2.2.2.2.2.2.2.2.2.2.1 rfl 0 rfl rfl ?_
          refine J_aload_n hK qd1_29.2.2.2.2.2.2.2.2.2.2.2.2.1 rfl 1 rfl rfl ?_
          refine J_aload_n hK qd1_29.2.2.2.2.2.2.2.2.2.2.2.2.2.1 rfl 1 rfl rfl ?_
          refine J_iload_n hK qd1_29.2.2.2.2.2.2.2.2.2.2.2.2.2.2.1 rfl 3 rfl rfl ?_
          refine J_iconst (v := 2) hK qd1_29.2.2.2.2.2.2.2.2.2.2.2.2.2.2.2.1 rfl (by decide) ?_
          obtain ⟨v50, e51, hs14⟩ := bs hs14
          refine J_callV (m := 4) (m' := 4) (ce' := 0) (sl' := 0) (gr := [gTr d h0 (h1 0) x0_left x0_earned x0_turnCost x0_turnWayless, gWy d h1 g6 g7 g8 g9 g10 g41 g42 g43 g44 g45 g46 g47 g11 g48, [cI d b2 m2 z24]]) (gs' := fun _ => [gTr d h0 (h1 0) x0_left x0_earned x0_turnCost x0_turnWayless, gWy d h1 g6 g7 g8 g9 g10 g41 g42 g43 g44 g45 g46 g47 g11 g48, gLd d h2 x2_lineCount x2_goodsCount x2_workCount x2_years x2_lines x2_goods x2_works x2_change x2_coin x2_knownFree x2_isKnown, [cI d b2 m2 z24]]) (st' := fun _ => [.int v50, .ref (h2 0), .ref (h0 0)]) (st := [.ref (h2 0), .ref (h0 0)]) hK qd1_30.1 cv_RX4_47 iv_yX1_ofGoods (As := [.int z15, .int (2)]) (kX1_ofGoods _ d h2 x2_lineCount x2_goodsCount x2_workCount x2_years x2_lines x2_goods x2_works x2_change x2_coin x2_knownFree x2_isKnown z15 (2) e51) rfl rfl (Nat.le_of_ble_eq_true rfl) (by decide) 2 0 rfl rfl rfl [2] [0, 1, 3] rfl (by decide +kernel) rfl rfl [0, 1, 3, 2] (by decide +kernel) (fun _ => rfl) (fun _ => rfl) rfl rfl rfl (fun _ => rfl) (fun _ => ?_)
          refine J_aload_n hK qd1_30.2.1 rfl 2 rfl rfl ?_
          obtain ⟨g52, e53, hs14⟩ := bs hs14
          refine J_callV (m := 4) (m' := 4) (ce' := 0) (sl' := 0) (gr := []) (gs' := fun _ => [gTr d h0 (h1 0) x0_left x0_earned x0_turnCost x0_turnWayless, gWy d h1 g6 g7 g8 g9 g10 g41 g42 g43 g44 g45 g46 g47 g11 g48, gLd d h2 x2_lineCount x2_goodsCount x2_workCount x2_years x2_lines x2_goods x2_works x2_change x2_coin x2_knownFree x2_isKnown, [cI d b2 m2 g52]]) (st' := fun _ => []) (st := []) hK qd1_30.2.2.1 cv_RX4_91 iv_yX4_payOwners (As := [.ref (h2 0), .int v50, .ref b2]) (kX4_payOwners _ d h0 h1 h2 b2 n x0_left x0_earned x0_turnCost x0_turnWayless g6 g7 g8 g9 g10 g41 g42 g43 g44 g45 g46 g47 g11 g48 x2_lineCount x2_goodsCount x2_workCount x2_years x2_lines x2_goods x2_works x2_change x2_coin x2_knownFree x2_isKnown v50 m2 z24 e53) rfl rfl (Nat.le_of_ble_eq_true rfl) (by decide) 0 0 rfl rfl rfl [0, 1, 2, 3] [] rfl (by decide +kernel) rfl rfl [0, 1, 2, 3] (by decide +kernel) (fun _ => rfl) (fun _ => rfl) rfl rfl rfl (fun _ => rfl) (fun _ => ?_)
          refine J_iinc (L' := [(3, .int (z15 + 1)), (0, .ref (h0 0)), (1, .ref (h2 0)), (2, .ref b2)]) (v := (z15 + 1)) hK qd1_30.2.2.2.1 rfl 3 rfl rfl (by decide) rfl ?_
          refine J_goto hK qd1_30.2.2.2.2.1 (n := 19) rfl ?_
          exact J_loc [1, 2, 3, 0] rfl (ih14 (z15 + 1) g41 g42 g43 g44 g45 g46 g47 g48 g52 (lpc hs14 hr14))
  exact J_loc [1, 2, 3, 0] rfl (lo14 n (0) x1_away x1_steps x1_nodes x1_stepCount x1_open x1_openCount x1_seen g12 g1 hl14)

def fX4_payOwnersB_s3 (p2 : Int32) (x1_edgeA : (Nat → Int32)) (x1_edgeB : (Nat → Int32)) (x1_edgeCost : (Nat → Int32)) (x1_edgeLine : (Nat → Int32)) (x1_change : (Nat → Int32)) (x1_away : (Nat → Int32)) (x1_steps : (Nat → Int32)) (x1_nodes : (Nat → Int32)) (x1_stepCount : Int32) (x1_open : (Nat → Int32)) (x1_openCount : Int32) (x1_seen : Int64) (x1_edgeCount : Int32) (x1_aim : Int32) (x2_lineCount : Int32) (x2_goodsCount : Int32) (x2_workCount : Int32) (x2_years : Int32) (x2_lines : (Nat → Int32)) (x2_goods : (Nat → Int32)) (x2_works : (Nat → Int32)) (x2_change : (Nat → Int32)) (x2_coin : (Nat → Int32)) (x2_knownFree : (Nat → Int32)) (x2_isKnown : Int32) (z2 : Int32) (z3 : (Nat → Int32)) : Option ((Int32 × (Nat → Int32)) ⊕ ((Nat → Int32))) :=
  if x1_stepCount ≤ z2 then (some (.inr z3)) else ((fX5_lineOn (x1_edgeA, x1_edgeB, x1_edgeCost, x1_edgeLine, x1_change, x1_away, x1_steps, x1_nodes, x1_stepCount, x1_open, x1_openCount, x1_seen, x1_edgeCount, x1_aim) z2).bind (fun v6 => (fX1_hasLine (x2_lineCount, x2_goodsCount, x2_workCount, x2_years, x2_lines, x2_goods, x2_works, x2_change, x2_coin, x2_knownFree, x2_isKnown) v6).bind (fun v8 => if v8 = 0 then (some (.inl ((z2 + 1), z3))) else ((fX1_ofLine (x2_lineCount, x2_goodsCount, x2_workCount, x2_years, x2_lines, x2_goods, x2_works, x2_change, x2_coin, x2_knownFree, x2_isKnown) v6 (5)).bind (fun v10 => (rd 6 z3 v10).bind fun v12 => (fX1_ofLine (x2_lineCount, x2_goodsCount, x2_workCount, x2_years, x2_lines, x2_goods, x2_works, x2_change, x2_coin, x2_knownFree, x2_isKnown) v6 (3)).bind (fun v13 => (wr 6 z3 v10 (v12 + (p2 * v13))).bind fun f15 => some (.inl ((z2 + 1), f15))))))))
def fX4_payOwnersB (n : Nat) (X0 : TrT) (X1 : WyT) (X2 : LdT) (p2 : Int32) : Option ((Nat → Int32)) :=
  u4 (fun (x0_left : (Nat → Int32)) (x0_earned : (Nat → Int32)) (x0_turnCost : Int32) (x0_turnWayless : Int32) => u14 (fun (x1_edgeA : (Nat → Int32)) (x1_edgeB : (Nat → Int32)) (x1_edgeCost : (Nat → Int32)) (x1_edgeLine : (Nat → Int32)) (x1_change : (Nat → Int32)) (x1_away : (Nat → Int32)) (x1_steps : (Nat → Int32)) (x1_nodes : (Nat → Int32)) (x1_stepCount : Int32) (x1_open : (Nat → Int32)) (x1_openCount : Int32) (x1_seen : Int64) (x1_edgeCount : Int32) (x1_aim : Int32) => u11 (fun (x2_lineCount : Int32) (x2_goodsCount : Int32) (x2_workCount : Int32) (x2_years : Int32) (x2_lines : (Nat → Int32)) (x2_goods : (Nat → Int32)) (x2_works : (Nat → Int32)) (x2_change : (Nat → Int32)) (x2_coin : (Nat → Int32)) (x2_knownFree : (Nat → Int32)) (x2_isKnown : Int32) => (lp (u2 (fX4_payOwnersB_s3 p2 x1_edgeA x1_edgeB x1_edgeCost x1_edgeLine x1_change x1_away x1_steps x1_nodes x1_stepCount x1_open x1_openCount x1_seen x1_edgeCount x1_aim x2_lineCount x2_goodsCount x2_workCount x2_years x2_lines x2_goods x2_works x2_change x2_coin x2_knownFree x2_isKnown)) n (1, x0_earned)).bind (fun w5 => some w5)) X2) X1) X0
set_option maxHeartbeats 4000000 in
set_option maxRecDepth 100000 in
theorem kX4_payOwnersB (l : Launch) (d : DT) (h0 : Nat → Nat) (h1 : Nat → Nat) (h2 : Nat → Nat) (n : Nat) (x0_left : (Nat → Int32)) (x0_earned : (Nat → Int32)) (x0_turnCost : Int32) (x0_turnWayless : Int32) (x1_edgeA : (Nat → Int32)) (x1_edgeB : (Nat → Int32)) (x1_edgeCost : (Nat → Int32)) (x1_edgeLine : (Nat → Int32)) (x1_change : (Nat → Int32)) (x1_away : (Nat → Int32)) (x1_steps : (Nat → Int32)) (x1_nodes : (Nat → Int32)) (x1_stepCount : Int32) (x1_open : (Nat → Int32)) (x1_openCount : Int32) (x1_seen : Int64) (x1_edgeCount : Int32) (x1_aim : Int32) (x2_lineCount : Int32) (x2_goodsCount : Int32) (x2_workCount : Int32) (x2_years : Int32) (x2_lines : (Nat → Int32)) (x2_goods : (Nat → Int32)) (x2_works : (Nat → Int32)) (x2_change : (Nat → Int32)) (x2_coin : (Nat → Int32)) (x2_knownFree : (Nat → Int32)) (x2_isKnown : Int32) (p2 : Int32)  {out : (Nat → Int32)} (hf : fX4_payOwnersB n (x0_left, x0_earned, x0_turnCost, x0_turnWayless) (x1_edgeA, x1_edgeB, x1_edgeCost, x1_edgeLine, x1_change, x1_away, x1_steps, x1_nodes, x1_stepCount, x1_open, x1_openCount, x1_seen, x1_edgeCount, x1_aim) (x2_lineCount, x2_goodsCount, x2_workCount, x2_years, x2_lines, x2_goods, x2_works, x2_change, x2_coin, x2_knownFree, x2_isKnown) p2 = some out) : Ct l d yX4_payOwners cX4_payOwners 6 none { frames := 2, cells := 0, slots := 0, locals := 43 } [.ref (h0 0), .ref (h2 0), .int p2, .ref (h0 2)] [gTr d h0 (h1 0) x0_left x0_earned x0_turnCost x0_turnWayless, gWy d h1 x1_edgeA x1_edgeB x1_edgeCost x1_edgeLine x1_change x1_away x1_steps x1_nodes x1_stepCount x1_open x1_openCount x1_seen x1_edgeCount x1_aim, gLd d h2 x2_lineCount x2_goodsCount x2_workCount x2_years x2_lines x2_goods x2_works x2_change x2_coin x2_knownFree x2_isKnown] (fun _ : Unit => (none, [gTr d h0 (h1 0) x0_left out x0_turnCost x0_turnWayless, gWy d h1 x1_edgeA x1_edgeB x1_edgeCost x1_edgeLine x1_change x1_away x1_steps x1_nodes x1_stepCount x1_open x1_openCount x1_seen x1_edgeCount x1_aim, gLd d h2 x2_lineCount x2_goodsCount x2_workCount x2_years x2_lines x2_goods x2_works x2_change x2_coin x2_knownFree x2_isKnown])) := by
  refine Ct.of (by decide) (Nat.le_of_ble_eq_true rfl) ?_
  intro Φ hl hK hR
  subst hl
  have hK : Ok d Φ RX4 "payOwners" cX4_payOwners 6 none { frames := 2, cells := 0, slots := 0, locals := 43 } := hK
  unfold fX4_payOwnersB at hf
  have hf := un4 hf
  have hf := un14 hf
  have hf := un11 hf
  show J d Φ 6 [gTr d h0 (h1 0) x0_left x0_earned x0_turnCost x0_turnWayless, gWy d h1 x1_edgeA x1_edgeB x1_edgeCost x1_edgeLine x1_change x1_away x1_steps x1_nodes x1_stepCount x1_open x1_openCount x1_seen x1_edgeCount x1_aim, gLd d h2 x2_lineCount x2_goodsCount x2_workCount x2_years x2_lines x2_goods x2_works x2_change x2_coin x2_knownFree x2_isKnown] 0 0 0 [(0, .ref (h0 0)), (1, .ref (h2 0)), (2, .int p2), (3, .ref (h0 2))] []
  refine J_iconst (v := 1) hK qd1_31.1 rfl (by decide) ?_
  refine J_istore (L' := [(4, .int (1)), (0, .ref (h0 0)), (1, .ref (h2 0)), (2, .int p2), (3, .ref (h0 2))]) hK qd1_31.2.1 rfl (by decide) rfl ?_
  obtain ⟨e4, hl1, hf⟩ := bs hf
  have hx1_62 : ∀ (w5 : (Nat → Int32)), w5 = e4 → J d Φ 6 [gTr d h0 (h1 0) x0_left w5 x0_turnCost x0_turnWayless, gWy d h1 x1_edgeA x1_edgeB x1_edgeCost x1_edgeLine x1_change x1_away x1_steps x1_nodes x1_stepCount x1_open x1_openCount x1_seen x1_edgeCount x1_aim, gLd d h2 x2_lineCount x2_goodsCount x2_workCount x2_years x2_lines x2_goods x2_works x2_change x2_coin x2_knownFree x2_isKnown] 0 0 62 [] [] := by
    intro w5 he
    rw [← he] at hf
    obtain rfl := Option.some.inj hf
    exact J_vret hK hR qd1_33.2.1 () rfl (by decide) (by decide)
  have lo1 : ∀ (k : Nat) (z2 : Int32) (z3 : (Nat → Int32)), lp (u2 (fX4_payOwnersB_s3 p2 x1_edgeA x1_edgeB x1_edgeCost x1_edgeLine x1_change x1_away x1_steps x1_nodes x1_stepCount x1_open x1_openCount x1_seen x1_edgeCount x1_aim x2_lineCount x2_goodsCount x2_workCount x2_years x2_lines x2_goods x2_works x2_change x2_coin x2_knownFree x2_isKnown)) k (z2, z3) = some e4 → J d Φ 6 [gTr d h0 (h1 0) x0_left z3 x0_turnCost x0_turnWayless, gWy d h1 x1_edgeA x1_edgeB x1_edgeCost x1_edgeLine x1_change x1_away x1_steps x1_nodes x1_stepCount x1_open x1_openCount x1_seen x1_edgeCount x1_aim, gLd d h2 x2_lineCount x2_goodsCount x2_workCount x2_years x2_lines x2_goods x2_works x2_change x2_coin x2_knownFree x2_isKnown] 0 0 3 [(0, .ref (h0 0)), (1, .ref (h2 0)), (2, .int p2), (3, .ref (h0 2)), (4, .int z2)] [] := by
    intro k
    induction k with
    | zero => intro z2 z3 h; cases h
    | succ k ih1 =>
      intro z2 z3 h
      obtain ⟨k2, rr1, hk2, hs1, hr1⟩ := lp_ok h
      cases hk2
      have hs1 : fX4_payOwnersB_s3 p2 x1_edgeA x1_edgeB x1_edgeCost x1_edgeLine x1_change x1_away x1_steps x1_nodes x1_stepCount x1_open x1_openCount x1_seen x1_edgeCount x1_aim x2_lineCount x2_goodsCount x2_workCount x2_years x2_lines x2_goods x2_works x2_change x2_coin x2_knownFree x2_isKnown z2 z3 = some rr1 := hs1
      unfold fX4_payOwnersB_s3 at hs1
      refine J_iload hK qd1_31.2.2.1 rfl 4 rfl ?_
      refine J_aload_n hK qd1_31.2.2.2.1 rfl 0 rfl rfl ?_
      refine J_get hK fo_RX4_12 qd1_31.2.2.2.2.1 rfl 0 0 rfl rfl rfl ?_
      refine J_get hK fo_RX4_74 qd1_31.2.2.2.2.2.1 rfl 1 0 rfl rfl rfl ?_
      refine J_icmp_ge (tg := 62) hK qd1_31.2.2.2.2.2.2.1 rfl rfl (fun hc12 => ?_) (fun hc12 => ?_)
      · have hs1 := ip hc12 hs1
        exact J_loc [] rfl (hx1_62 z3 (lpx hs1 hr1))
      · have hs1 := iq hc12 hs1
        refine J_aload_n hK qd1_31.2.2.2.2.2.2.2.1 rfl 0 rfl rfl ?_
        refine J_get hK fo_RX4_12 qd1_31.2.2.2.2.2.2.2.2.1 rfl 0 0 rfl rfl rfl ?_
        refine J_iload hK qd1_31.2.2.2.2.2.2.2.2.2.1 rfl 4 rfl ?_
        obtain ⟨v6, e7, hs1⟩ := bs hs1
        refine J_callV (m := 3) (m' := 3) (ce' := 0) (sl' := 0) (gr := [gTr d h0 (h1 0) x0_left z3 x0_turnCost x0_turnWayless, gLd d h2 x2_lineCount x2_goodsCount x2_workCount x2_years x2_lines x2_goods x2_works x2_change x2_coin x2_knownFree x2_isKnown]) (gs' := fun _ => [gTr d h0 (h1 0) x0_left z3 x0_turnCost x0_turnWayless, gWy d h1 x1_edgeA x1_edgeB x1_edgeCost x1_edgeLine x1_change x1_away x1_steps x1_nodes x1_stepCount x1_open x1_openCount x1_seen x1_edgeCount x1_aim, gLd d h2 x2_lineCount x2_goodsCount x2_workCount x2_years x2_lines x2_goods x2_works x2_change x2_coin x2_knownFree x2_isKnown]) (st' := fun _ => [.int v6]) (st := []) hK qd1_31.2.2.2.2.2.2.2.2.2.2.1 cv_RX4_77 iv_yX5_lineOn (As := [.int z2]) (kX5_lineOn _ d h1 x1_edgeA x1_edgeB x1_edgeCost x1_edgeLine x1_change x1_away x1_steps x1_nodes x1_stepCount x1_open x1_openCount x1_seen x1_edgeCount x1_aim z2 e7) rfl rfl (Nat.le_of_ble_eq_true rfl) (by decide) 1 0 rfl rfl rfl [1] [0, 2] rfl (by decide +kernel) rfl rfl [0, 2, 1] (by decide +kernel) (fun _ => rfl) (fun _ => rfl) rfl rfl rfl (fun _ => rfl) (fun _ => ?_)
        refine J_istore (L' := [(5, .int v6), (0, .ref (h0 0)), (1, .ref (h2 0)), (2, .int p2), (3, .ref (h0 2)), (4, .int z2)]) hK qd1_31.2.2.2.2.2.2.2.2.2.2.2.1 rfl (by decide) rfl ?_
        refine J_aload_n hK qd1_31.2.2.2.2.2.2.2.2.2.2.2.2.1 rfl 2 rfl rfl ?_
        refine J_iload hK qd1_31.2.2.2.2.2.2.2.2.2.2.2.2.2.1 rfl 0 rfl ?_
        obtain ⟨v8, e9, hs1⟩ := bs hs1
        refine J_callV (m := 3) (m' := 3) (ce' := 0) (sl' := 0) (gr := [gTr d h0 (h1 0) x0_left z3 x0_turnCost x0_turnWayless, gWy d h1 x1_edgeA x1_edgeB x1_edgeCost x1_edgeLine x1_change x1_away x1_steps x1_nodes x1_stepCount x1_open x1_openCount x1_seen x1_edgeCount x1_aim]) (gs' := fun _ => [gTr d h0 (h1 0) x0_left z3 x0_turnCost x0_turnWayless, gWy d h1 x1_edgeA x1_edgeB x1_edgeCost x1_edgeLine x1_change x1_away x1_steps x1_nodes x1_stepCount x1_open x1_openCount x1_seen x1_edgeCount x1_aim, gLd d h2 x2_lineCount x2_goodsCount x2_workCount x2_years x2_lines x2_goods x2_works x2_change x2_coin x2_knownFree x2_isKnown]) (st' := fun _ => [.int v8]) (st := []) hK qd1_31.2.2.2.2.2.2.2.2.2.2.2.2.2.2.1 cv_RX4_95 iv_yX1_hasLine (As := [.int v6]) (kX1_hasLine _ d h2 x2_lineCount x2_goodsCount x2_workCount x2_years x2_lines x2_goods x2_works x2_change x2_coin x2_knownFree x2_isKnown v6 e9) rfl rfl (Nat.le_of_ble_eq_true rfl) (by decide) 2 0 rfl rfl rfl [2] [0, 1] rfl (by decide +kernel) rfl rfl [0, 1, 2] (by decide +kernel) (fun _ => rfl) (fun _ => rfl) rfl rfl rfl (fun _ => rfl) (fun _ => ?_)
        refine J_if_eq (tg := 56) hK qd1_31.2.2.2.2.2.2.2.2.2.2.2.2.2.2.2.1 rfl rfl (fun hc32 => ?_) (fun hc32 => ?_)
        · have hs1 := ip hc32 hs1
          refine J_iinc (L' := [(4, .int (z2 + 1)), (5, .int v6), (0, .ref (h0 0)), (1, .ref (h2 0)), (2, .int p2), (3, .ref (h0 2))]) (v := (z2 + 1)) hK qd1_32.2.2.2.2.2.2.2.2.2.2.2.2.2.2.2.1 rfl 5 rfl rfl (by decide) rfl ?_
          refine J_goto hK qd1_33.1 (n := 3) rfl ?_
          exact J_loc [2, 3, 4, 5, 0] rfl (ih1 (z2 + 1) z3 (lpc hs1 hr1))
        · have hs1 := iq hc32 hs1
          refine J_aload_n hK qd1_32.1 rfl 4 rfl rfl ?_
          refine J_aload_n hK qd1_32.2.1 rfl 2 rfl rfl ?_
          refine J_iload hK qd1_32.2.2.1 rfl 0 rfl ?_
          refine J_iconst (v := 5) hK qd1_32.2.2.2.1 rfl (by decide) ?_
          obtain ⟨v10, e11, hs1⟩ := bs hs1
          refine J_callV (m := 3) (m' := 3) (ce' := 0) (sl' := 0) (gr := [gTr d h0 (h1 0) x0_left z3 x0_turnCost x0_turnWayless, gWy d h1 x1_edgeA x1_edgeB x1_edgeCost x1_edgeLine x1_change x1_away x1_steps x1_nodes x1_stepCount x1_open x1_openCount x1_seen x1_edgeCount x1_aim]) (gs' := fun _ => [gTr d h0 (h1 0) x0_left z3 x0_turnCost x0_turnWayless, gWy d h1 x1_edgeA x1_edgeB x1_edgeCost x1_edgeLine x1_change x1_away x1_steps x1_nodes x1_stepCount x1_open x1_openCount x1_seen x1_edgeCount x1_aim, gLd d h2 x2_lineCount x2_goodsCount x2_workCount x2_years x2_lines x2_goods x2_works x2_change x2_coin x2_knownFree x2_isKnown]) (st' := fun _ => [.int v10, .ref (h0 2)]) (st := [.ref (h0 2)]) hK qd1_32.2.2.2.2.1 cv_RX4_60 iv_yX1_ofLine (As := [.int v6, .int (5)]) (kX1_ofLine _ d h2 x2_lineCount x2_goodsCount x2_workCount x2_years x2_lines x2_goods x2_works x2_change x2_coin x2_knownFree x2_isKnown v6 (5) e11) rfl rfl (Nat.le_of_ble_eq_true rfl) (by decide) 2 0 rfl rfl rfl [2] [0, 1] rfl (by decide +kernel) rfl rfl [0, 1, 2] (by decide +kernel) (fun _ => rfl) (fun _ => rfl) rfl rfl rfl (fun _ => rfl) (fun _ => ?_)
          refine J_dup2 hK qd1_32.2.2.2.2.2.1 rfl rfl rfl ?_
          obtain ⟨v12, ev12, hs1⟩ := bs hs1
          refine J_iald hK qd1_32.2.2.2.2.2.2.1 rfl 0 2 rfl rfl ev12 ?_
          refine J_iload_n hK qd1_32.2.2.2.2.2.2.2.1 rfl 3 rfl rfl ?_
          refine J_aload_n hK qd1_32.2.2.2.2.2.2.2.2.1 rfl 2 rfl rfl ?_
          refine J_iload hK qd1_32.2.2.2.2.2.2.2.2.2.1 rfl 0 rfl ?_
          refine J_iconst (v := 3) hK qd1_32.2.2.2.2.2.2.2.2.2.2.1 rfl (by decide) ?_
          obtain ⟨v13, e14, hs1⟩ := bs hs1
          refine J_callV (m := 3) (m' := 3) (ce' := 0) (sl' := 0) (gr := [gTr d h0 (h1 0) x0_left z3 x0_turnCost x0_turnWayless, gWy d h1 x1_edgeA x1_edgeB x1_edgeCost x1_edgeLine x1_change x1_away x1_steps x1_nodes x1_stepCount x1_open x1_openCount x1_seen x1_edgeCount x1_aim]) (gs' := fun _ => [gTr d h0 (h1 0) x0_left z3 x0_turnCost x0_turnWayless, gWy d h1 x1_edgeA x1_edgeB x1_edgeCost x1_edgeLine x1_change x1_away x1_steps x1_nodes x1_stepCount x1_open x1_openCount x1_seen x1_edgeCount x1_aim, gLd d h2 x2_lineCount x2_goodsCount x2_workCount x2_years x2_lines x2_goods x2_works x2_change x2_coin x2_knownFree x2_isKnown]) (st' := fun _ => [.int v13, .int p2, .int v12, .int v10, .ref (h0 2)]) (st := [.int p2, .int v12, .int v10, .ref (h0 2)]) hK qd1_32.2.2.2.2.2.2.2.2.2.2.2.1 cv_RX4_60 iv_yX1_ofLine (As := [.int v6, .int (3)]) (kX1_ofLine _ d h2 x2_lineCount x2_goodsCount x2_workCount x2_years x2_lines x2_goods x2_works x2_change x2_coin x2_knownFree x2_isKnown v6 (3) e14) rfl rfl (Nat.le_of_ble_eq_true rfl) (by decide) 2 0 rfl rfl rfl [2] [0, 1] rfl (by decide +kernel) rfl rfl [0, 1, 2] (by decide +kernel) (fun _ => rfl) (fun _ => rfl) rfl rfl rfl (fun _ => rfl) (fun _ => ?_)
          refine J_imul hK qd1_32.2.2.2.2.2.2.2.2.2.2.2.2.1 rfl ?_
          refine J_iadd hK qd1_32.2.2.2.2.2.2.2.2.2.2.2.2.2.1 rfl ?_
          obtain ⟨f15, ef15, hs1⟩ := bs hs1
          refine J_iast (g' := gTr d h0 (h1 0) x0_left f15 x0_turnCost x0_turnWayless) (gs' := [gTr d h0 (h1 0) x0_left f15 x0_turnCost x0_turnWayless, gWy d h1 x1_edgeA x1_edgeB x1_edgeCost x1_edgeLine x1_change x1_away x1_steps x1_nodes x1_stepCount x1_open x1_openCount x1_seen x1_edgeCount x1_aim, gLd d h2 x2_lineCount x2_goodsCount x2_workCount x2_years x2_lines x2_goods x2_works x2_change x2_coin x2_knownFree x2_isKnown]) hK qd1_32.2.2.2.2.2.2.2.2.2.2.2.2.2.2.1 rfl 0 2 rfl rfl ef15 rfl rfl ?_
          refine J_iinc (L' := [(4, .int (z2 + 1)), (5, .int v6), (0, .ref (h0 0)), (1, .ref (h2 0)), (2, .int p2), (3, .ref (h0 2))]) (v := (z2 + 1)) hK qd1_32.2.2.2.2.2.2.2.2.2.2.2.2.2.2.2.1 rfl 5 rfl rfl (by decide) rfl ?_
          refine J_goto hK qd1_33.1 (n := 3) rfl ?_
          exact J_loc [2, 3, 4, 5, 0] rfl (ih1 (z2 + 1) f15 (lpc hs1 hr1))
  exact J_loc [1, 2, 3, 4, 0] rfl (lo1 n (1) x0_earned hl1)

def fX4_earnB_s19 (n : Nat) (x0_left : (Nat → Int32)) (x0_turnCost : Int32) (x0_turnWayless : Int32) (x2_lineCount : Int32) (x2_goodsCount : Int32) (x2_workCount : Int32) (x2_years : Int32) (x2_lines : (Nat → Int32)) (x2_goods : (Nat → Int32)) (x2_works : (Nat → Int32)) (x2_change : (Nat → Int32)) (x2_coin : (Nat → Int32)) (x2_knownFree : (Nat → Int32)) (x2_isKnown : Int32) (g6 : (Nat → Int32)) (g7 : (Nat → Int32)) (g8 : (Nat → Int32)) (g9 : (Nat → Int32)) (g10 : (Nat → Int32)) (g11 : Int32) (z15 : Int32) (z16 : (Nat → Int32)) (z17 : (Nat → Int32)) (z18 : (Nat → Int32)) (z19 : (Nat → Int32)) (z20 : Int32) (z21 : (Nat → Int32)) (z22 : Int32) (z23 : Int64) (z24 : Int32) : Option ((Int32 × (Nat → Int32) × (Nat → Int32) × (Nat → Int32) × (Nat → Int32) × Int32 × (Nat → Int32) × Int32 × Int64 × Int32) ⊕ ((Nat → Int32) × (Nat → Int32) × (Nat → Int32) × (Nat → Int32) × Int32 × (Nat → Int32) × Int32 × Int64 × Int32)) :=
  if x2_goodsCount ≤ z15 then (some (.inr (z16, z17, z18, z19, z20, z21, z22, z23, z24))) else ((fX1_ofGoods (x2_lineCount, x2_goodsCount, x2_workCount, x2_years, x2_lines, x2_goods, x2_works, x2_change, x2_coin, x2_knownFree, x2_isKnown) z15 (0)).bind (fun v35 => (fX1_ofGoods (x2_lineCount, x2_goodsCount, x2_workCount, x2_years, x2_lines, x2_goods, x2_works, x2_change, x2_coin, x2_knownFree, x2_isKnown) z15 (1)).bind (fun v37 => (fX5_trace n (g6, g7, g8, g9, g10, z17, z18, z19, z20, z21, z22, z23, g11, z24) v35 v37).bind (u2 fun v39 G40 => u8 (fun g41 g42 g43 g44 g45 g46 g47 g48 => if v39 = 0 then (some (.inl ((z15 + 1), z16, g41, g42, g43, g44, g45, g46, g47, g48))) else ((fX1_ofGoods (x2_lineCount, x2_goodsCount, x2_workCount, x2_years, x2_lines, x2_goods, x2_works, x2_change, x2_coin, x2_knownFree, x2_isKnown) z15 (2)).bind (fun v50 => (fX4_payOwnersB n (x0_left, z16, x0_turnCost, x0_turnWayless) (g6, g7, g8, g9, g10, g41, g42, g43, g44, g45, g46, g47, g11, g48) (x2_lineCount, x2_goodsCount, x2_workCount, x2_years, x2_lines, x2_goods, x2_works, x2_change, x2_coin, x2_knownFree, x2_isKnown) v50).bind (fun g52 => some (.inl ((z15 + 1), g52, g41, g42, g43, g44, g45, g46, g47, g48)))))) G40))))
def fX4_earnB (n : Nat) (X0 : TrT) (X1 : WyT) (X2 : LdT) : Option ((Nat → Int32) × ((Nat → Int32) × (Nat → Int32) × (Nat → Int32) × (Nat → Int32) × (Nat → Int32) × (Nat → Int32) × (Nat → Int32) × (Nat → Int32) × Int32 × (Nat → Int32) × Int32 × Int64 × Int32 × Int32)) :=
  u4 (fun (x0_left : (Nat → Int32)) (x0_earned : (Nat → Int32)) (x0_turnCost : Int32) (x0_turnWayless : Int32) => u14 (fun (x1_edgeA : (Nat → Int32)) (x1_edgeB : (Nat → Int32)) (x1_edgeCost : (Nat → Int32)) (x1_edgeLine : (Nat → Int32)) (x1_change : (Nat → Int32)) (x1_away : (Nat → Int32)) (x1_steps : (Nat → Int32)) (x1_nodes : (Nat → Int32)) (x1_stepCount : Int32) (x1_open : (Nat → Int32)) (x1_openCount : Int32) (x1_seen : Int64) (x1_edgeCount : Int32) (x1_aim : Int32) => u11 (fun (x2_lineCount : Int32) (x2_goodsCount : Int32) (x2_workCount : Int32) (x2_years : Int32) (x2_lines : (Nat → Int32)) (x2_goods : (Nat → Int32)) (x2_works : (Nat → Int32)) (x2_change : (Nat → Int32)) (x2_coin : (Nat → Int32)) (x2_knownFree : (Nat → Int32)) (x2_isKnown : Int32) => (fJ7_fill_53178 n 6 x0_earned (0)).bind (fun g1 => (fX1_linesThere n (x2_lineCount, x2_goodsCount, x2_workCount, x2_years, x2_lines, x2_goods, x2_works, x2_change, x2_coin, x2_knownFree, x2_isKnown)).bind (fun v3 => (fX5_prepare n (x1_edgeA, x1_edgeB, x1_edgeCost, x1_edgeLine, x1_change, x1_away, x1_steps, x1_nodes, x1_stepCount, x1_open, x1_openCount, x1_seen, x1_edgeCount, x1_aim) (x2_lineCount, x2_goodsCount, x2_workCount, x2_years, x2_lines, x2_goods, x2_works, x2_change, x2_coin, x2_knownFree, x2_isKnown) v3).bind (fun G5 => u7 (fun g6 g7 g8 g9 g10 g11 g12 => (lp (u10 (fX4_earnB_s19 n x0_left x0_turnCost x0_turnWayless x2_lineCount x2_goodsCount x2_workCount x2_years x2_lines x2_goods x2_works x2_change x2_coin x2_knownFree x2_isKnown g6 g7 g8 g9 g10 g11)) n (0, g1, x1_away, x1_steps, x1_nodes, x1_stepCount, x1_open, x1_openCount, x1_seen, g12)).bind (u9 fun w26 w27 w28 w29 w30 w31 w32 w33 w34 => some (w26, (g6, g7, g8, g9, g10, w27, w28, w29, w30, w31, w32, w33, g11, w34)))) G5)))) X2) X1) X0
set_option maxHeartbeats 4000000 in
set_option maxRecDepth 100000 in
theorem kX4_earnB (l : Launch) (d : DT) (h0 : Nat → Nat) (h1 : Nat → Nat) (h2 : Nat → Nat) (n : Nat) (x0_left : (Nat → Int32)) (x0_earned : (Nat → Int32)) (x0_turnCost : Int32) (x0_turnWayless : Int32) (x1_edgeA : (Nat → Int32)) (x1_edgeB : (Nat → Int32)) (x1_edgeCost : (Nat → Int32)) (x1_edgeLine : (Nat → Int32)) (x1_change : (Nat → Int32)) (x1_away : (Nat → Int32)) (x1_steps : (Nat → Int32)) (x1_nodes : (Nat → Int32)) (x1_stepCount : Int32) (x1_open : (Nat → Int32)) (x1_openCount : Int32) (x1_seen : Int64) (x1_edgeCount : Int32) (x1_aim : Int32) (x2_lineCount : Int32) (x2_goodsCount : Int32) (x2_workCount : Int32) (x2_years : Int32) (x2_lines : (Nat → Int32)) (x2_goods : (Nat → Int32)) (x2_works : (Nat → Int32)) (x2_change : (Nat → Int32)) (x2_coin : (Nat → Int32)) (x2_knownFree : (Nat → Int32)) (x2_isKnown : Int32)  {out : (Nat → Int32) × ((Nat → Int32) × (Nat → Int32) × (Nat → Int32) × (Nat → Int32) × (Nat → Int32) × (Nat → Int32) × (Nat → Int32) × (Nat → Int32) × Int32 × (Nat → Int32) × Int32 × Int64 × Int32 × Int32)} (hf : fX4_earnB n (x0_left, x0_earned, x0_turnCost, x0_turnWayless) (x1_edgeA, x1_edgeB, x1_edgeCost, x1_edgeLine, x1_change, x1_away, x1_steps, x1_nodes, x1_stepCount, x1_open, x1_openCount, x1_seen, x1_edgeCount, x1_aim) (x2_lineCount, x2_goodsCount, x2_workCount, x2_years, x2_lines, x2_goods, x2_works, x2_change, x2_coin, x2_knownFree, x2_isKnown) = some out) : Ct l d yX4_earn cX4_earn 4 none { frames := 5, cells := 0, slots := 0, locals := 131 } [.ref (h0 0), .ref (h2 0), .ref (h0 2)] [gTr d h0 (h1 0) x0_left x0_earned x0_turnCost x0_turnWayless, gWy d h1 x1_edgeA x1_edgeB x1_edgeCost x1_edgeLine x1_change x1_away x1_steps x1_nodes x1_stepCount x1_open x1_openCount x1_seen x1_edgeCount x1_aim, gLd d h2 x2_lineCount x2_goodsCount x2_workCount x2_years x2_lines x2_goods x2_works x2_change x2_coin x2_knownFree x2_isKnown] (fun _ : Unit => (none, [gTr d h0 (h1 0) x0_left (out.1) x0_turnCost x0_turnWayless, gWy d h1 (out.2.1) (out.2.2.1) (out.2.2.2.1) (out.2.2.2.2.1) (out.2.2.2.2.2.1) (out.2.2.2.2.2.2.1) (out.2.2.2.2.2.2.2.1) (out.2.2.2.2.2.2.2.2.1) (out.2.2.2.2.2.2.2.2.2.1) (out.2.2.2.2.2.2.2.2.2.2.1) (out.2.2.2.2.2.2.2.2.2.2.2.1) (out.2.2.2.2.2.2.2.2.2.2.2.2.1) (out.2.2.2.2.2.2.2.2.2.2.2.2.2.1) (out.2.2.2.2.2.2.2.2.2.2.2.2.2.2), gLd d h2 x2_lineCount x2_goodsCount x2_workCount x2_years x2_lines x2_goods x2_works x2_change x2_coin x2_knownFree x2_isKnown])) := by
  refine Ct.of (by decide) (Nat.le_of_ble_eq_true rfl) ?_
  intro Φ hl hK hR
  subst hl
  have hK : Ok d Φ RX4 "earn" cX4_earn 4 none { frames := 5, cells := 0, slots := 0, locals := 131 } := hK
  unfold fX4_earnB at hf
  have hf := un4 hf
  have hf := un14 hf
  have hf := un11 hf
  show J d Φ 4 [gTr d h0 (h1 0) x0_left x0_earned x0_turnCost x0_turnWayless, gWy d h1 x1_edgeA x1_edgeB x1_edgeCost x1_edgeLine x1_change x1_away x1_steps x1_nodes x1_stepCount x1_open x1_openCount x1_seen x1_edgeCount x1_aim, gLd d h2 x2_lineCount x2_goodsCount x2_workCount x2_years x2_lines x2_goods x2_works x2_change x2_coin x2_knownFree x2_isKnown] 0 0 0 [(0, .ref (h0 0)), (1, .ref (h2 0)), (2, .ref (h0 2))] []
  refine J_aload_n hK qd1_28.1 rfl 2 rfl rfl ?_
  refine J_iconst (v := 0) hK qd1_28.2.1 rfl (by decide) ?_
  refine J_fl (gs2 := [(gTr d h0 (h1 0) x0_left x0_earned x0_turnCost x0_turnWayless).take 2, [cI d (h0 2) 6 x0_earned], (gTr d h0 (h1 0) x0_left x0_earned x0_turnCost x0_turnWayless).drop 3, gWy d h1 x1_edgeA x1_edgeB x1_edgeCost x1_edgeLine x1_change x1_away x1_steps x1_nodes x1_stepCount x1_open x1_openCount x1_seen x1_edgeCount x1_aim, gLd d h2 x2_lineCount x2_goodsCount x2_workCount x2_years x2_lines x2_goods x2_works x2_change x2_coin x2_knownFree x2_isKnown]) rfl ?_
  obtain ⟨g1, e2, hf⟩ := bs hf
  refine J_callS (m := 5) (m' := 5) (ce' := 0) (sl' := 0) (gr := [(gTr d h0 (h1 0) x0_left x0_earned x0_turnCost x0_turnWayless).take 2, (gTr d h0 (h1 0) x0_left x0_earned x0_turnCost x0_turnWayless).drop 3, gWy d h1 x1_edgeA x1_edgeB x1_edgeCost x1_edgeLine x1_change x1_away x1_steps x1_nodes x1_stepCount x1_open x1_openCount x1_seen x1_edgeCount x1_aim, gLd d h2 x2_lineCount x2_goodsCount x2_workCount x2_years x2_lines x2_goods x2_works x2_change x2_coin x2_knownFree x2_isKnown]) (gs' := fun _ => [(gTr d h0 (h1 0) x0_left x0_earned x0_turnCost x0_turnWayless).take 2, [cI d (h0 2) 6 g1], (gTr d h0 (h1 0) x0_left x0_earned x0_turnCost x0_turnWayless).drop 3, gWy d h1 x1_edgeA x1_edgeB x1_edgeCost x1_edgeLine x1_change x1_away x1_steps x1_nodes x1_stepCount x1_open x1_openCount x1_seen x1_edgeCount x1_aim, gLd d h2 x2_lineCount x2_goodsCount x2_workCount x2_years x2_lines x2_goods x2_works x2_change x2_coin x2_knownFree x2_isKnown]) (st' := fun _ => []) (st := []) hK qd1_28.2.2.1 cv_RX4_85 ws_yJ7_fill_53178 (As := [.ref (h0 2), .int (0)]) (kJ7_fill_53178 _ d (h0 2) n 6 x0_earned (0) e2) rfl rfl (Nat.le_of_ble_eq_true rfl) (by decide) [1] [0, 2, 3, 4] rfl (by decide +kernel) rfl rfl [0, 4, 1, 2, 3] (by decide +kernel) (fun _ => rfl) (fun _ => rfl) rfl rfl rfl (fun _ => rfl) (fun _ => ?_)
  refine J_fl (gs2 := [gTr d h0 (h1 0) x0_left g1 x0_turnCost x0_turnWayless, gWy d h1 x1_edgeA x1_edgeB x1_edgeCost x1_edgeLine x1_change x1_away x1_steps x1_nodes x1_stepCount x1_open x1_openCount x1_seen x1_edgeCount x1_aim, gLd d h2 x2_lineCount x2_goodsCount x2_workCount x2_years x2_lines x2_goods x2_works x2_change x2_coin x2_knownFree x2_isKnown]) rfl ?_
  refine J_aload_n hK qd1_28.2.2.2.1 rfl 0 rfl rfl ?_
  refine J_get hK fo_RX4_12 qd1_28.2.2.2.2.1 rfl 0 0 rfl rfl rfl ?_
  refine J_aload_n hK qd1_28.2.2.2.2.2.1 rfl 1 rfl rfl ?_
  refine J_aload_n hK qd1_28.2.2.2.2.2.2.1 rfl 1 rfl rfl ?_
  obtain ⟨v3, e4, hf⟩ := bs hf
  refine J_callV (m := 3) (m' := 3) (ce' := 0) (sl' := 0) (gr := [gTr d h0 (h1 0) x0_left g1 x0_turnCost x0_turnWayless, gWy d h1 x1_edgeA x1_edgeB x1_edgeCost x1_edgeLine x1_change x1_away x1_steps x1_nodes x1_stepCount x1_open x1_openCount x1_seen x1_edgeCount x1_aim]) (gs' := fun _ => [gTr d h0 (h1 0) x0_left g1 x0_turnCost x0_turnWayless, gWy d h1 x1_edgeA x1_edgeB x1_edgeCost x1_edgeLine x1_change x1_away x1_steps x1_nodes x1_stepCount x1_open x1_openCount x1_seen x1_edgeCount x1_aim, gLd d h2 x2_lineCount x2_goodsCount x2_workCount x2_years x2_lines x2_goods x2_works x2_change x2_coin x2_knownFree x2_isKnown]) (st' := fun _ => [.int v3, .ref (h2 0), .ref (h1 0)]) (st := [.ref (h2 0), .ref (h1 0)]) hK qd1_28.2.2.2.2.2.2.2.1 cv_RX4_25 iv_yX1_linesThere (As := []) (kX1_linesThere _ d h2 n x2_lineCount x2_goodsCount x2_workCount x2_years x2_lines x2_goods x2_works x2_change x2_coin x2_knownFree x2_isKnown e4) rfl rfl (Nat.le_of_ble_eq_true rfl) (by decide) 2 0 rfl rfl rfl [2] [0, 1] rfl (by decide +kernel) rfl rfl [0, 1, 2] (by decide +kernel) (fun _ => rfl) (fun _ => rfl) rfl rfl rfl (fun _ => rfl) (fun _ => ?_)
  obtain ⟨⟨g6, g7, g8, g9, g10, g11, g12⟩, e13, hf⟩ := bs hf
  have hf := un7 hf
  refine J_callV (m := 3) (m' := 3) (ce' := 0) (sl' := 0) (gr := [gTr d h0 (h1 0) x0_left g1 x0_turnCost x0_turnWayless]) (gs' := fun _ => [gTr d h0 (h1 0) x0_left g1 x0_turnCost x0_turnWayless, gWy d h1 g6 g7 g8 g9 g10 x1_away x1_steps x1_nodes x1_stepCount x1_open x1_openCount x1_seen g11 g12, gLd d h2 x2_lineCount x2_goodsCount x2_workCount x2_years x2_lines x2_goods x2_works x2_change x2_coin x2_knownFree x2_isKnown]) (st' := fun _ => []) (st := []) hK qd1_28.2.2.2.2.2.2.2.2.1 cv_RX4_31 iv_yX5_prepare (As := [.ref (h2 0), .int v3]) (kX5_prepare _ d h1 h2 n x1_edgeA x1_edgeB x1_edgeCost x1_edgeLine x1_change x1_away x1_steps x1_nodes x1_stepCount x1_open x1_openCount x1_seen x1_edgeCount x1_aim x2_lineCount x2_goodsCount x2_workCount x2_years x2_lines x2_goods x2_works x2_change x2_coin x2_knownFree x2_isKnown v3 e13) rfl rfl (Nat.le_of_ble_eq_true rfl) (by decide) 1 0 rfl rfl rfl [1, 2] [0] rfl (by decide +kernel) rfl rfl [0, 1, 2] (by decide +kernel) (fun _ => rfl) (fun _ => rfl) rfl rfl rfl (fun _ => rfl) (fun _ => ?_)
  refine J_iconst (v := 0) hK qd1_28.2.2.2.2.2.2.2.2.2.1 rfl (by decide) ?_
  refine J_istore_n (L' := [(3, .int (0)), (0, .ref (h0 0)), (1, .ref (h2 0)), (2, .ref (h0 2))]) hK qd1_28.2.2.2.2.2.2.2.2.2.2.1 rfl rfl (by decide) rfl ?_
  obtain ⟨e25, hl14, hf⟩ := bs hf
  have hx14_67 : ∀ (w26 : (Nat → Int32)) (w27 : (Nat → Int32)) (w28 : (Nat → Int32)) (w29 : (Nat → Int32)) (w30 : Int32) (w31 : (Nat → Int32)) (w32 : Int32) (w33 : Int64) (w34 : Int32), (w26, w27, w28, w29, w30, w31, w32, w33, w34) = e25 → J d Φ 4 [gTr d h0 (h1 0) x0_left w26 x0_turnCost x0_turnWayless, gWy d h1 g6 g7 g8 g9 g10 w27 w28 w29 w30 w31 w32 w33 g11 w34, gLd d h2 x2_lineCount x2_goodsCount x2_workCount x2_years x2_lines x2_goods x2_works x2_change x2_coin x2_knownFree x2_isKnown] 0 0 67 [] [] := by
    intro w26 w27 w28 w29 w30 w31 w32 w33 w34 he
    rw [← he] at hf
    have hf := un9 hf
    obtain rfl := Option.some.inj hf
    exact J_vret hK hR qd1_30.2.2.2.2.2.1 () rfl (by decide) (by decide)
  have lo14 : ∀ (k : Nat) (z15 : Int32) (z16 : (Nat → Int32)) (z17 : (Nat → Int32)) (z18 : (Nat → Int32)) (z19 : (Nat → Int32)) (z20 : Int32) (z21 : (Nat → Int32)) (z22 : Int32) (z23 : Int64) (z24 : Int32), lp (u10 (fX4_earnB_s19 n x0_left x0_turnCost x0_turnWayless x2_lineCount x2_goodsCount x2_workCount x2_years x2_lines x2_goods x2_works x2_change x2_coin x2_knownFree x2_isKnown g6 g7 g8 g9 g10 g11)) k (z15, z16, z17, z18, z19, z20, z21, z22, z23, z24) = some e25 → J d Φ 4 [gTr d h0 (h1 0) x0_left z16 x0_turnCost x0_turnWayless, gWy d h1 g6 g7 g8 g9 g10 z17 z18 z19 z20 z21 z22 z23 g11 z24, gLd d h2 x2_lineCount x2_goodsCount x2_workCount x2_years x2_lines x2_goods x2_works x2_change x2_coin x2_knownFree x2_isKnown] 0 0 19 [(0, .ref (h0 0)), (1, .ref (h2 0)), (2, .ref (h0 2)), (3, .int z15)] [] := by
    intro k
    induction k with
    | zero => intro z15 z16 z17 z18 z19 z20 z21 z22 z23 z24 h; cases h
    | succ k ih14 =>
      intro z15 z16 z17 z18 z19 z20 z21 z22 z23 z24 h
      obtain ⟨k2, rr14, hk2, hs14, hr14⟩ := lp_ok h
      cases hk2
      have hs14 : fX4_earnB_s19 n x0_left x0_turnCost x0_turnWayless x2_lineCount x2_goodsCount x2_workCount x2_years x2_lines x2_goods x2_works x2_change x2_coin x2_knownFree x2_isKnown g6 g7 g8 g9 g10 g11 z15 z16 z17 z18 z19 z20 z21 z22 z23 z24 = some rr14 := hs14
      unfold fX4_earnB_s19 at hs14
      refine J_iload_n hK qd1_28.2.2.2.2.2.2.2.2.2.2.2.1 rfl 3 rfl rfl ?_
      refine J_aload_n hK qd1_28.2.2.2.2.2.2.2.2.2.2.2.2.1 rfl 1 rfl rfl ?_
      refine J_get hK fo_RX4_43 qd1_28.2.2.2.2.2.2.2.2.2.2.2.2.2.1 rfl 2 0 rfl rfl rfl ?_
      refine J_icmp_ge (tg := 67) hK qd1_28.2.2.2.2.2.2.2.2.2.2.2.2.2.2.1 rfl rfl (fun hc24 => ?_) (fun hc24 => ?_)
      · have hs14 := ip hc24 hs14
        exact J_loc [] rfl (hx14_67 z16 z17 z18 z19 z20 z21 z22 z23 z24 (lpx hs14 hr14))
      · have hs14 := iq hc24 hs14
        refine J_aload_n hK qd1_28.2.2.2.2.2.2.2.2.2.2.2.2.2.2.2.1 rfl 0 rfl rfl ?_
        refine J_get hK fo_RX4_12 qd1_29.1 rfl 0 0 rfl rfl rfl ?_
        refine J_aload_n hK qd1_29.2.1 rfl 1 rfl rfl ?_
        refine J_iload_n hK qd1_29.2.2.1 rfl 3 rfl rfl ?_
        refine J_iconst (v := 0) hK qd1_29.2.2.2.1 rfl (by decide) ?_
        obtain ⟨v35, e36, hs14⟩ := bs hs14
        refine J_callV (m := 3) (m' := 3) (ce' := 0) (sl' := 0) (gr := [gTr d h0 (h1 0) x0_left z16 x0_turnCost x0_turnWayless, gWy d h1 g6 g7 g8 g9 g10 z17 z18 z19 z20 z21 z22 z23 g11 z24]) (gs' := fun _ => [gTr d h0 (h1 0) x0_left z16 x0_turnCost x0_turnWayless, gWy d h1 g6 g7 g8 g9 g10 z17 z18 z19 z20 z21 z22 z23 g11 z24, gLd d h2 x2_lineCount x2_goodsCount x2_workCount x2_years x2_lines x2_goods x2_works x2_change x2_coin x2_knownFree x2_isKnown]) (st' := fun _ => [.int v35, .ref (h1 0)]) (st := [.ref (h1 0)]) hK qd1_29.2.2.2.2.1 cv_RX4_47 iv_yX1_ofGoods (As := [.int z15, .int (0)]) (kX1_ofGoods _ d h2 x2_lineCount x2_goodsCount x2_workCount x2_years x2_lines x2_goods x2_works x2_change x2_coin x2_knownFree x2_isKnown z15 (0) e36) rfl rfl (Nat.le_of_ble_eq_true rfl) (by decide) 2 0 rfl rfl rfl [2] [0, 1] rfl (by decide +kernel) rfl rfl [0, 1, 2] (by decide +kernel) (fun _ => rfl) (fun _ => rfl) rfl rfl rfl (fun _ => rfl) (fun _ => ?_)
        refine J_aload_n hK qd1_29.2.2.2.2.2.1 rfl 1 rfl rfl ?_
        refine J_iload_n hK qd1_29.2.2.2.2.2.2.1 rfl 3 rfl rfl ?_
        refine J_iconst (v := 1) hK qd1_29.2.2.2.2.2.2.2.1 rfl (by decide) ?_
        obtain ⟨v37, e38, hs14⟩ := bs hs14
        refine J_callV (m := 3) (m' := 3) (ce' := 0) (sl' := 0) (gr := [gTr d h0 (h1 0) x0_left z16 x0_turnCost x0_turnWayless, gWy d h1 g6 g7 g8 g9 g10 z17 z18 z19 z20 z21 z22 z23 g11 z24]) (gs' := fun _ => [gTr d h0 (h1 0) x0_left z16 x0_turnCost x0_turnWayless, gWy d h1 g6 g7 g8 g9 g10 z17 z18 z19 z20 z21 z22 z23 g11 z24, gLd d h2 x2_lineCount x2_goodsCount x2_workCount x2_years x2_lines x2_goods x2_works x2_change x2_coin x2_knownFree x2_isKnown]) (st' := fun _ => [.int v37, .int v35, .ref (h1 0)]) (st := [.int v35, .ref (h1 0)]) hK qd1_29.2.2.2.2.2.2.2.2.1 cv_RX4_47 iv_yX1_ofGoods (As := [.int z15, .int (1)]) (kX1_ofGoods _ d h2 x2_lineCount x2_goodsCount x2_workCount x2_years x2_lines x2_goods x2_works x2_change x2_coin x2_knownFree x2_isKnown z15 (1) e38) rfl rfl (Nat.le_of_ble_eq_true rfl) (by decide) 2 0 rfl rfl rfl [2] [0, 1] rfl (by decide +kernel) rfl rfl [0, 1, 2] (by decide +kernel) (fun _ => rfl) (fun _ => rfl) rfl rfl rfl (fun _ => rfl) (fun _ => ?_)
        obtain ⟨⟨v39, ⟨g41, g42, g43, g44, g45, g46, g47, g48⟩⟩, e49, hs14⟩ := bs hs14
        have hs14 := un2 hs14
        have hs14 := un8 hs14
        refine J_callV (m := 3) (m' := 3) (ce' := 0) (sl' := 0) (gr := [gTr d h0 (h1 0) x0_left z16 x0_turnCost x0_turnWayless, gLd d h2 x2_lineCount x2_goodsCount x2_workCount x2_years x2_lines x2_goods x2_works x2_change x2_coin x2_knownFree x2_isKnown]) (gs' := fun _ => [gTr d h0 (h1 0) x0_left z16 x0_turnCost x0_turnWayless, gWy d h1 g6 g7 g8 g9 g10 g41 g42 g43 g44 g45 g46 g47 g11 g48, gLd d h2 x2_lineCount x2_goodsCount x2_workCount x2_years x2_lines x2_goods x2_works x2_change x2_coin x2_knownFree x2_isKnown]) (st' := fun _ => [.int v39]) (st := []) hK qd1_29.2.2.2.2.2.2.2.2.2.1 cv_RX4_67 iv_yX5_trace (As := [.int v35, .int v37]) (kX5_trace _ d h1 n g6 g7 g8 g9 g10 z17 z18 z19 z20 z21 z22 z23 g11 z24 v35 v37 e49) rfl rfl (Nat.le_of_ble_eq_true rfl) (by decide) 1 0 rfl rfl rfl [1] [0, 2] rfl (by decide +kernel) rfl rfl [0, 2, 1] (by decide +kernel) (fun _ => rfl) (fun _ => rfl) rfl rfl rfl (fun _ => rfl) (fun _ => ?_)
        refine J_if_eq (tg := 61) hK qd1_29.2.2.2.2.2.2.2.2.2.2.1 rfl rfl (fun hc46 => ?_) (fun hc46 => ?_)
        · have hs14 := ip hc46 hs14
          refine J_iinc (L' := [(3, .int (z15 + 1)), (0, .ref (h0 0)), (1, .ref (h2 0)), (2, .ref (h0 2))]) (v := (z15 + 1)) hK qd1_30.2.2.2.1 rfl 3 rfl rfl (by decide) rfl ?_
          refine J_goto hK qd1_30.2.2.2.2.1 (n := 19) rfl ?_
          exact J_loc [1, 2, 3, 0] rfl (ih14 (z15 + 1) z16 g41 g42 g43 g44 g45 g46 g47 g48 (lpc hs14 hr14))
        · have hs14 := iq hc46 hs14
          refine J_aload_n hK qd1_29.2.2.2.2.2.2.2.2.2.2.2.1 rfl 0 rfl rfl ?_
          refine J_aload_n hK qd1_29.2.2.2.2.2.2.2.2.2.2.2.2.1 rfl 1 rfl rfl ?_
          refine J_aload_n hK qd1_29.2.2.2.2.2.2.2.2.2.2.2.2.2.1 rfl 1 rfl rfl ?_
          refine J_iload_n hK qd1_29.2.2.2.2.2.2.2.2.2.2.2.2.2.2.1 rfl 3 rfl rfl ?_
          refine J_iconst (v := 2) hK qd1_29.2.2.2.2.2.2.2.2.2.2.2.2.2.2.2.1 rfl (by decide) ?_
          obtain ⟨v50, e51, hs14⟩ := bs hs14
          refine J_callV (m := 3) (m' := 3) (ce' := 0) (sl' := 0) (gr := [gTr d h0 (h1 0) x0_left z16 x0_turnCost x0_turnWayless, gWy d h1 g6 g7 g8 g9 g10 g41 g42 g43 g44 g45 g46 g47 g11 g48]) (gs' := fun _ => [gTr d h0 (h1 0) x0_left z16 x0_turnCost x0_turnWayless, gWy d h1 g6 g7 g8 g9 g10 g41 g42 g43 g44 g45 g46 g47 g11 g48, gLd d h2 x2_lineCount x2_goodsCount x2_workCount x2_years x2_lines x2_goods x2_works x2_change x2_coin x2_knownFree x2_isKnown]) (st' := fun _ => [.int v50, .ref (h2 0), .ref (h0 0)]) (st := [.ref (h2 0), .ref (h0 0)]) hK qd1_30.1 cv_RX4_47 iv_yX1_ofGoods (As := [.int z15, .int (2)]) (kX1_ofGoods _ d h2 x2_lineCount x2_goodsCount x2_workCount x2_years x2_lines x2_goods x2_works x2_change x2_coin x2_knownFree x2_isKnown z15 (2) e51) rfl rfl (Nat.le_of_ble_eq_true rfl) (by decide) 2 0 rfl rfl rfl [2] [0, 1] rfl (by decide +kernel) rfl rfl [0, 1, 2] (by decide +kernel) (fun _ => rfl) (fun _ => rfl) rfl rfl rfl (fun _ => rfl) (fun _ => ?_)
          refine J_aload_n hK qd1_30.2.1 rfl 2 rfl rfl ?_
          obtain ⟨g52, e53, hs14⟩ := bs hs14
          refine J_callV (m := 3) (m' := 3) (ce' := 0) (sl' := 0) (gr := []) (gs' := fun _ => [gTr d h0 (h1 0) x0_left g52 x0_turnCost x0_turnWayless, gWy d h1 g6 g7 g8 g9 g10 g41 g42 g43 g44 g45 g46 g47 g11 g48, gLd d h2 x2_lineCount x2_goodsCount x2_workCount x2_years x2_lines x2_goods x2_works x2_change x2_coin x2_knownFree x2_isKnown]) (st' := fun _ => []) (st := []) hK qd1_30.2.2.1 cv_RX4_91 iv_yX4_payOwners (As := [.ref (h2 0), .int v50, .ref (h0 2)]) (kX4_payOwnersB _ d h0 h1 h2 n x0_left z16 x0_turnCost x0_turnWayless g6 g7 g8 g9 g10 g41 g42 g43 g44 g45 g46 g47 g11 g48 x2_lineCount x2_goodsCount x2_workCount x2_years x2_lines x2_goods x2_works x2_change x2_coin x2_knownFree x2_isKnown v50 e53) rfl rfl (Nat.le_of_ble_eq_true rfl) (by decide) 0 0 rfl rfl rfl [0, 1, 2] [] rfl (by decide +kernel) rfl rfl [0, 1, 2] (by decide +kernel) (fun _ => rfl) (fun _ => rfl) rfl rfl rfl (fun _ => rfl) (fun _ => ?_)
          refine J_iinc (L' := [(3, .int (z15 + 1)), (0, .ref (h0 0)), (1, .ref (h2 0)), (2, .ref (h0 2))]) (v := (z15 + 1)) hK qd1_30.2.2.2.1 rfl 3 rfl rfl (by decide) rfl ?_
          refine J_goto hK qd1_30.2.2.2.2.1 (n := 19) rfl ?_
          exact J_loc [1, 2, 3, 0] rfl (ih14 (z15 + 1) g52 g41 g42 g43 g44 g45 g46 g47 g48 (lpc hs14 hr14))
  exact J_loc [1, 2, 3, 0] rfl (lo14 n (0) g1 x1_away x1_steps x1_nodes x1_stepCount x1_open x1_openCount x1_seen g12 hl14)

def fX0_gainBy_s48 (g35 : (Nat → Int32)) (z53 : Int32) (z54 : (Nat → Int32)) : Option ((Int32 × (Nat → Int32)) ⊕ ((Nat → Int32))) :=
  if 6 ≤ z53 then (some (.inr z54)) else ((rd 6 z54 z53).bind fun v57 => (rd 6 g35 z53).bind fun v58 => (wr 6 z54 z53 (v57 - v58)).bind fun f59 => some (.inl ((z53 + 1), f59)))
def fX0_gainBy (n : Nat) (X0 : ChT) (X1 : TrT) (X2 : WyT) (X3 : LdT) (X4 : LdT) (p2 : Int32) : Option ((Nat → Int32) × (Nat → Int32) × ((Nat → Int32) × (Nat → Int32) × (Nat → Int32) × (Nat → Int32) × (Nat → Int32) × (Nat → Int32) × (Nat → Int32) × (Nat → Int32) × Int32 × (Nat → Int32) × Int32 × Int64 × Int32 × Int32) × (Int32 × Int32 × Int32 × Int32 × (Nat → Int32) × (Nat → Int32) × (Nat → Int32) × (Nat → Int32) × (Nat → Int32) × Int32)) :=
  (fun (x0_gained : (Nat → Int32)) => u4 (fun (x1_left : (Nat → Int32)) (x1_earned : (Nat → Int32)) (x1_turnCost : Int32) (x1_turnWayless : Int32) => u14 (fun (x2_edgeA : (Nat → Int32)) (x2_edgeB : (Nat → Int32)) (x2_edgeCost : (Nat → Int32)) (x2_edgeLine : (Nat → Int32)) (x2_change : (Nat → Int32)) (x2_away : (Nat → Int32)) (x2_steps : (Nat → Int32)) (x2_nodes : (Nat → Int32)) (x2_stepCount : Int32) (x2_open : (Nat → Int32)) (x2_openCount : Int32) (x2_seen : Int64) (x2_edgeCount : Int32) (x2_aim : Int32) => u11 (fun (x3_lineCount : Int32) (x3_goodsCount : Int32) (x3_workCount : Int32) (x3_years : Int32) (x3_lines : (Nat → Int32)) (x3_goods : (Nat → Int32)) (x3_works : (Nat → Int32)) (x3_change : (Nat → Int32)) (x3_coin : (Nat → Int32)) (x3_knownFree : (Nat → Int32)) (x3_isKnown : Int32) => u11 (fun (x4_lineCount : Int32) (x4_goodsCount : Int32) (x4_workCount : Int32) (x4_years : Int32) (x4_lines : (Nat → Int32)) (x4_goods : (Nat → Int32)) (x4_works : (Nat → Int32)) (x4_change : (Nat → Int32)) (x4_coin : (Nat → Int32)) (x4_knownFree : (Nat → Int32)) (x4_isKnown : Int32) => (fX1_take (x3_lineCount, x3_goodsCount, x3_workCount, x3_years, x3_lines, x3_goods, x3_works, x3_change, x3_coin, x3_knownFree, x3_isKnown) (x4_lineCount, x4_goodsCount, x4_workCount, x4_years, x4_lines, x4_goods, x4_works, x4_change, x4_coin, x4_knownFree, x4_isKnown)).bind (fun G1 => u10 (fun g2 g3 g4 g5 g6 g7 g8 g9 g10 g11 => (fX1_perform (g2, g3, g4, g5, g6, g7, g8, g9, g10, x3_knownFree, g11) p2).bind (u4 fun g13 g14 g15 g16 => (fX4_earn n (x1_left, x1_earned, x1_turnCost, x1_turnWayless) (x2_edgeA, x2_edgeB, x2_edgeCost, x2_edgeLine, x2_change, x2_away, x2_steps, x2_nodes, x2_stepCount, x2_open, x2_openCount, x2_seen, x2_edgeCount, x2_aim) (g13, g3, g4, g5, g14, g7, g8, g15, g10, x3_knownFree, g16) 6 x0_gained).bind (u2 fun G18 g33 => u14 (fun g19 g20 g21 g22 g23 g24 g25 g26 g27 g28 g29 g30 g31 g32 => (fX4_earnB n (x1_left, x1_earned, x1_turnCost, x1_turnWayless) (g19, g20, g21, g22, g23, g24, g25, g26, g27, g28, g29, g30, g31, g32) (x4_lineCount, x4_goodsCount, x4_workCount, x4_years, x4_lines, x4_goods, x4_works, x4_change, x4_coin, x4_knownFree, x4_isKnown)).bind (u2 fun g35 G36 => u14 (fun g37 g38 g39 g40 g41 g42 g43 g44 g45 g46 g47 g48 g49 g50 => (lp (u2 (fX0_gainBy_s48 g35)) n (0, g33)).bind (fun w56 => some (w56, g35, (g37, g38, g39, g40, g41, g42, g43, g44, g45, g46, g47, g48, g49, g50), (g13, g3, g4, g5, g14, g7, g8, g15, g10, g16)))) G36)) G18))) G1)) X4) X3) X2) X1) X0
set_option maxHeartbeats 4000000 in
set_option maxRecDepth 100000 in
theorem kX0_gainBy (l : Launch) (d : DT) (h0 : Nat → Nat) (a0_after : Nat) (h1 : Nat → Nat) (h2 : Nat → Nat) (h3 : Nat → Nat) (h4 : Nat → Nat) (n : Nat) (x0_gained : (Nat → Int32)) (x1_left : (Nat → Int32)) (x1_earned : (Nat → Int32)) (x1_turnCost : Int32) (x1_turnWayless : Int32) (x2_edgeA : (Nat → Int32)) (x2_edgeB : (Nat → Int32)) (x2_edgeCost : (Nat → Int32)) (x2_edgeLine : (Nat → Int32)) (x2_change : (Nat → Int32)) (x2_away : (Nat → Int32)) (x2_steps : (Nat → Int32)) (x2_nodes : (Nat → Int32)) (x2_stepCount : Int32) (x2_open : (Nat → Int32)) (x2_openCount : Int32) (x2_seen : Int64) (x2_edgeCount : Int32) (x2_aim : Int32) (x3_lineCount : Int32) (x3_goodsCount : Int32) (x3_workCount : Int32) (x3_years : Int32) (x3_lines : (Nat → Int32)) (x3_goods : (Nat → Int32)) (x3_works : (Nat → Int32)) (x3_change : (Nat → Int32)) (x3_coin : (Nat → Int32)) (x3_knownFree : (Nat → Int32)) (x3_isKnown : Int32) (x4_lineCount : Int32) (x4_goodsCount : Int32) (x4_workCount : Int32) (x4_years : Int32) (x4_lines : (Nat → Int32)) (x4_goods : (Nat → Int32)) (x4_works : (Nat → Int32)) (x4_change : (Nat → Int32)) (x4_coin : (Nat → Int32)) (x4_knownFree : (Nat → Int32)) (x4_isKnown : Int32) (p2 : Int32)  {out : (Nat → Int32) × (Nat → Int32) × ((Nat → Int32) × (Nat → Int32) × (Nat → Int32) × (Nat → Int32) × (Nat → Int32) × (Nat → Int32) × (Nat → Int32) × (Nat → Int32) × Int32 × (Nat → Int32) × Int32 × Int64 × Int32 × Int32) × (Int32 × Int32 × Int32 × Int32 × (Nat → Int32) × (Nat → Int32) × (Nat → Int32) × (Nat → Int32) × (Nat → Int32) × Int32)} (hf : fX0_gainBy n x0_gained (x1_left, x1_earned, x1_turnCost, x1_turnWayless) (x2_edgeA, x2_edgeB, x2_edgeCost, x2_edgeLine, x2_change, x2_away, x2_steps, x2_nodes, x2_stepCount, x2_open, x2_openCount, x2_seen, x2_edgeCount, x2_aim) (x3_lineCount, x3_goodsCount, x3_workCount, x3_years, x3_lines, x3_goods, x3_works, x3_change, x3_coin, x3_knownFree, x3_isKnown) (x4_lineCount, x4_goodsCount, x4_workCount, x4_years, x4_lines, x4_goods, x4_works, x4_change, x4_coin, x4_knownFree, x4_isKnown) p2 = some out) : Ct l d yX0_gainBy cX0_gainBy 4 none { frames := 6, cells := 0, slots := 0, locals := 154 } [.ref (h0 0), .ref (h4 0), .int p2] [gCh d h0 (h1 0) a0_after (h3 0) x0_gained, gTr d h1 (h2 0) x1_left x1_earned x1_turnCost x1_turnWayless, gWy d h2 x2_edgeA x2_edgeB x2_edgeCost x2_edgeLine x2_change x2_away x2_steps x2_nodes x2_stepCount x2_open x2_openCount x2_seen x2_edgeCount x2_aim, gLd d h3 x3_lineCount x3_goodsCount x3_workCount x3_years x3_lines x3_goods x3_works x3_change x3_coin x3_knownFree x3_isKnown, gLd d h4 x4_lineCount x4_goodsCount x4_workCount x4_years x4_lines x4_goods x4_works x4_change x4_coin x4_knownFree x4_isKnown] (fun _ : Unit => (none, [gCh d h0 (h1 0) a0_after (h3 0) (out.1), gTr d h1 (h2 0) x1_left (out.2.1) x1_turnCost x1_turnWayless, gWy d h2 (out.2.2.1.1) (out.2.2.1.2.1) (out.2.2.1.2.2.1) (out.2.2.1.2.2.2.1) (out.2.2.1.2.2.2.2.1) (out.2.2.1.2.2.2.2.2.1) (out.2.2.1.2.2.2.2.2.2.1) (out.2.2.1.2.2.2.2.2.2.2.1) (out.2.2.1.2.2.2.2.2.2.2.2.1) (out.2.2.1.2.2.2.2.2.2.2.2.2.1) (out.2.2.1.2.2.2.2.2.2.2.2.2.2.1) (out.2.2.1.2.2.2.2.2.2.2.2.2.2.2.1) (out.2.2.1.2.2.2.2.2.2.2.2.2.2.2.2.1) (out.2.2.1.2.2.2.2.2.2.2.2.2.2.2.2.2), gLd d h3 (out.2.2.2.1) (out.2.2.2.2.1) (out.2.2.2.2.2.1) (out.2.2.2.2.2.2.1) (out.2.2.2.2.2.2.2.1) (out.2.2.2.2.2.2.2.2.1) (out.2.2.2.2.2.2.2.2.2.1) (out.2.2.2.2.2.2.2.2.2.2.1) (out.2.2.2.2.2.2.2.2.2.2.2.1) x3_knownFree (out.2.2.2.2.2.2.2.2.2.2.2.2), gLd d h4 x4_lineCount x4_goodsCount x4_workCount x4_years x4_lines x4_goods x4_works x4_change x4_coin x4_knownFree x4_isKnown])) := by
  refine Ct.of (by decide) (Nat.le_of_ble_eq_true rfl) ?_
  intro Φ hl hK hR
  subst hl
  have hK : Ok d Φ RX0 "gainBy" cX0_gainBy 4 none { frames := 6, cells := 0, slots := 0, locals := 154 } := hK
  unfold fX0_gainBy at hf
  have hf := un4 hf
  have hf := un14 hf
  have hf := un11 hf
  have hf := un11 hf
  show J d Φ 4 [gCh d h0 (h1 0) a0_after (h3 0) x0_gained, gTr d h1 (h2 0) x1_left x1_earned x1_turnCost x1_turnWayless, gWy d h2 x2_edgeA x2_edgeB x2_edgeCost x2_edgeLine x2_change x2_away x2_steps x2_nodes x2_stepCount x2_open x2_openCount x2_seen x2_edgeCount x2_aim, gLd d h3 x3_lineCount x3_goodsCount x3_workCount x3_years x3_lines x3_goods x3_works x3_change x3_coin x3_knownFree x3_isKnown, gLd d h4 x4_lineCount x4_goodsCount x4_workCount x4_years x4_lines x4_goods x4_works x4_change x4_coin x4_knownFree x4_isKnown] 0 0 0 [(0, .ref (h0 0)), (1, .ref (h4 0)), (2, .int p2)] []
  refine J_aload_n hK qd0_28.1 rfl 0 rfl rfl ?_
  refine J_get hK fo_RX0_29 qd0_28.2.1 rfl 0 0 rfl rfl rfl ?_
  refine J_aload_n hK qd0_28.2.2.1 rfl 1 rfl rfl ?_
  obtain ⟨⟨g2, g3, g4, g5, g6, g7, g8, g9, g10, g11⟩, e12, hf⟩ := bs hf
  have hf := un10 hf
  refine J_callV (m := 5) (m' := 5) (ce' := 0) (sl' := 0) (gr := [gCh d h0 (h1 0) a0_after (h3 0) x0_gained, gTr d h1 (h2 0) x1_left x1_earned x1_turnCost x1_turnWayless, gWy d h2 x2_edgeA x2_edgeB x2_edgeCost x2_edgeLine x2_change x2_away x2_steps x2_nodes x2_stepCount x2_open x2_openCount x2_seen x2_edgeCount x2_aim]) (gs' := fun _ => [gCh d h0 (h1 0) a0_after (h3 0) x0_gained, gTr d h1 (h2 0) x1_left x1_earned x1_turnCost x1_turnWayless, gWy d h2 x2_edgeA x2_edgeB x2_edgeCost x2_edgeLine x2_change x2_away x2_steps x2_nodes x2_stepCount x2_open x2_openCount x2_seen x2_edgeCount x2_aim, gLd d h3 g2 g3 g4 g5 g6 g7 g8 g9 g10 x3_knownFree g11, gLd d h4 x4_lineCount x4_goodsCount x4_workCount x4_years x4_lines x4_goods x4_works x4_change x4_coin x4_knownFree x4_isKnown]) (st' := fun _ => []) (st := []) hK qd0_28.2.2.2.1 cv_RX0_40 iv_yX1_take (As := [.ref (h4 0)]) (kX1_take _ d h3 h4 x3_lineCount x3_goodsCount x3_workCount x3_years x3_lines x3_goods x3_works x3_change x3_coin x3_knownFree x3_isKnown x4_lineCount x4_goodsCount x4_workCount x4_years x4_lines x4_goods x4_works x4_change x4_coin x4_knownFree x4_isKnown e12) rfl rfl (Nat.le_of_ble_eq_true rfl) (by decide) 3 0 rfl rfl rfl [3, 4] [0, 1, 2] rfl (by decide +kernel) rfl rfl [0, 1, 2, 3, 4] (by decide +kernel) (fun _ => rfl) (fun _ => rfl) rfl rfl rfl (fun _ => rfl) (fun _ => ?_)
  refine J_aload_n hK qd0_28.2.2.2.2.1 rfl 0 rfl rfl ?_
  refine J_get hK fo_RX0_29 qd0_28.2.2.2.2.2.1 rfl 0 0 rfl rfl rfl ?_
  refine J_iload_n hK qd0_28.2.2.2.2.2.2.1 rfl 2 rfl rfl ?_
  obtain ⟨⟨g13, g14, g15, g16⟩, e17, hf⟩ := bs hf
  have hf := un4 hf
  refine J_callV (m := 5) (m' := 5) (ce' := 0) (sl' := 0) (gr := [gCh d h0 (h1 0) a0_after (h3 0) x0_gained, gTr d h1 (h2 0) x1_left x1_earned x1_turnCost x1_turnWayless, gWy d h2 x2_edgeA x2_edgeB x2_edgeCost x2_edgeLine x2_change x2_away x2_steps x2_nodes x2_stepCount x2_open x2_openCount x2_seen x2_edgeCount x2_aim, gLd d h4 x4_lineCount x4_goodsCount x4_workCount x4_years x4_lines x4_goods x4_works x4_change x4_coin x4_knownFree x4_isKnown]) (gs' := fun _ => [gCh d h0 (h1 0) a0_after (h3 0) x0_gained, gTr d h1 (h2 0) x1_left x1_earned x1_turnCost x1_turnWayless, gWy d h2 x2_edgeA x2_edgeB x2_edgeCost x2_edgeLine x2_change x2_away x2_steps x2_nodes x2_stepCount x2_open x2_openCount x2_seen x2_edgeCount x2_aim, gLd d h3 g13 g3 g4 g5 g14 g7 g8 g15 g10 x3_knownFree g16, gLd d h4 x4_lineCount x4_goodsCount x4_workCount x4_years x4_lines x4_goods x4_works x4_change x4_coin x4_knownFree x4_isKnown]) (st' := fun _ => []) (st := []) hK qd0_28.2.2.2.2.2.2.2.1 cv_RX0_48 iv_yX1_perform (As := [.int p2]) (kX1_perform _ d h3 g2 g3 g4 g5 g6 g7 g8 g9 g10 x3_knownFree g11 p2 e17) rfl rfl (Nat.le_of_ble_eq_true rfl) (by decide) 3 0 rfl rfl rfl [3] [0, 1, 2, 4] rfl (by decide +kernel) rfl rfl [0, 1, 2, 4, 3] (by decide +kernel) (fun _ => rfl) (fun _ => rfl) rfl rfl rfl (fun _ => rfl) (fun _ => ?_)
  refine J_aload_n hK qd0_28.2.2.2.2.2.2.2.2.1 rfl 0 rfl rfl ?_
  refine J_get hK fo_RX0_12 qd0_28.2.2.2.2.2.2.2.2.2.1 rfl 0 0 rfl rfl rfl ?_
  refine J_aload_n hK qd0_28.2.2.2.2.2.2.2.2.2.2.1 rfl 0 rfl rfl ?_
  refine J_get hK fo_RX0_29 qd0_28.2.2.2.2.2.2.2.2.2.2.2.1 rfl 0 0 rfl rfl rfl ?_
  refine J_aload_n hK qd0_28.2.2.2.2.2.2.2.2.2.2.2.2.1 rfl 0 rfl rfl ?_
  refine J_get hK fo_RX0_25 qd0_28.2.2.2.2.2.2.2.2.2.2.2.2.2.1 rfl 0 0 rfl rfl rfl ?_
  refine J_fl (gs2 := [(gCh d h0 (h1 0) a0_after (h3 0) x0_gained).take 1, [cI d (h0 1) 6 x0_gained], (gCh d h0 (h1 0) a0_after (h3 0) x0_gained).drop 2, gTr d h1 (h2 0) x1_left x1_earned x1_turnCost x1_turnWayless, gWy d h2 x2_edgeA x2_edgeB x2_edgeCost x2_edgeLine x2_change x2_away x2_steps x2_nodes x2_stepCount x2_open x2_openCount x2_seen x2_edgeCount x2_aim, gLd d h3 g13 g3 g4 g5 g14 g7 g8 g15 g10 x3_knownFree g16, gLd d h4 x4_lineCount x4_goodsCount x4_workCount x4_years x4_lines x4_goods x4_works x4_change x4_coin x4_knownFree x4_isKnown]) rfl ?_
  obtain ⟨⟨⟨g19, g20, g21, g22, g23, g24, g25, g26, g27, g28, g29, g30, g31, g32⟩, g33⟩, e34, hf⟩ := bs hf
  have hf := un2 hf
  have hf := un14 hf
  refine J_callV (m := 7) (m' := 7) (ce' := 0) (sl' := 0) (gr := [(gCh d h0 (h1 0) a0_after (h3 0) x0_gained).take 1, (gCh d h0 (h1 0) a0_after (h3 0) x0_gained).drop 2, gLd d h4 x4_lineCount x4_goodsCount x4_workCount x4_years x4_lines x4_goods x4_works x4_change x4_coin x4_knownFree x4_isKnown]) (gs' := fun _ => [(gCh d h0 (h1 0) a0_after (h3 0) x0_gained).take 1, [cI d (h0 1) 6 g33], (gCh d h0 (h1 0) a0_after (h3 0) x0_gained).drop 2, gTr d h1 (h2 0) x1_left x1_earned x1_turnCost x1_turnWayless, gWy d h2 g19 g20 g21 g22 g23 g24 g25 g26 g27 g28 g29 g30 g31 g32, gLd d h3 g13 g3 g4 g5 g14 g7 g8 g15 g10 x3_knownFree g16, gLd d h4 x4_lineCount x4_goodsCount x4_workCount x4_years x4_lines x4_goods x4_works x4_change x4_coin x4_knownFree x4_isKnown]) (st' := fun _ => []) (st := []) hK qd0_28.2.2.2.2.2.2.2.2.2.2.2.2.2.2.1 cv_RX0_104 iv_yX4_earn (As := [.ref (h3 0), .ref (h0 1)]) (kX4_earn _ d h1 h2 h3 (h0 1) n x1_left x1_earned x1_turnCost x1_turnWayless x2_edgeA x2_edgeB x2_edgeCost x2_edgeLine x2_change x2_away x2_steps x2_nodes x2_stepCount x2_open x2_openCount x2_seen x2_edgeCount x2_aim g13 g3 g4 g5 g14 g7 g8 g15 g10 x3_knownFree g16 6 x0_gained e34) rfl rfl (Nat.le_of_ble_eq_true rfl) (by decide) 3 0 rfl rfl rfl [3, 4, 5, 1] [0, 2, 6] rfl (by decide +kernel) rfl rfl [0, 6, 1, 3, 4, 5, 2] (by decide +kernel) (fun _ => rfl) (fun _ => rfl) rfl rfl rfl (fun _ => rfl) (fun _ => ?_)
  refine J_fl (gs2 := [gCh d h0 (h1 0) a0_after (h3 0) g33, gTr d h1 (h2 0) x1_left x1_earned x1_turnCost x1_turnWayless, gWy d h2 g19 g20 g21 g22 g23 g24 g25 g26 g27 g28 g29 g30 g31 g32, gLd d h3 g13 g3 g4 g5 g14 g7 g8 g15 g10 x3_knownFree g16, gLd d h4 x4_lineCount x4_goodsCount x4_workCount x4_years x4_lines x4_goods x4_works x4_change x4_coin x4_knownFree x4_isKnown]) rfl ?_
  refine J_aload_n hK qd0_28.2.2.2.2.2.2.2.2.2.2.2.2.2.2.2.1 rfl 0 rfl rfl ?_
  refine J_get hK fo_RX0_12 qd0_29.1 rfl 0 0 rfl rfl rfl ?_
  refine J_aload_n hK qd0_29.2.1 rfl 1 rfl rfl ?_
  refine J_aload_n hK qd0_29.2.2.1 rfl 0 rfl rfl ?_
  refine J_get hK fo_RX0_12 qd0_29.2.2.2.1 rfl 0 0 rfl rfl rfl ?_
  refine J_get hK fo_RX0_108 qd0_29.2.2.2.2.1 rfl 1 0 rfl rfl rfl ?_
  obtain ⟨⟨g35, ⟨g37, g38, g39, g40, g41, g42, g43, g44, g45, g46, g47, g48, g49, g50⟩⟩, e51, hf⟩ := bs hf
  have hf := un2 hf
  have hf := un14 hf
  refine J_callV (m := 5) (m' := 5) (ce' := 0) (sl' := 0) (gr := [gCh d h0 (h1 0) a0_after (h3 0) g33, gLd d h3 g13 g3 g4 g5 g14 g7 g8 g15 g10 x3_knownFree g16]) (gs' := fun _ => [gCh d h0 (h1 0) a0_after (h3 0) g33, gTr d h1 (h2 0) x1_left g35 x1_turnCost x1_turnWayless, gWy d h2 g37 g38 g39 g40 g41 g42 g43 g44 g45 g46 g47 g48 g49 g50, gLd d h3 g13 g3 g4 g5 g14 g7 g8 g15 g10 x3_knownFree g16, gLd d h4 x4_lineCount x4_goodsCount x4_workCount x4_years x4_lines x4_goods x4_works x4_change x4_coin x4_knownFree x4_isKnown]) (st' := fun _ => []) (st := []) hK qd0_29.2.2.2.2.2.1 cv_RX0_104 iv_yX4_earn (As := [.ref (h4 0), .ref (h1 2)]) (kX4_earnB _ d h1 h2 h4 n x1_left x1_earned x1_turnCost x1_turnWayless g19 g20 g21 g22 g23 g24 g25 g26 g27 g28 g29 g30 g31 g32 x4_lineCount x4_goodsCount x4_workCount x4_years x4_lines x4_goods x4_works x4_change x4_coin x4_knownFree x4_isKnown e51) rfl rfl (Nat.le_of_ble_eq_true rfl) (by decide) 1 0 rfl rfl rfl [1, 2, 4] [0, 3] rfl (by decide +kernel) rfl rfl [0, 2, 3, 1, 4] (by decide +kernel) (fun _ => rfl) (fun _ => rfl) rfl rfl rfl (fun _ => rfl) (fun _ => ?_)
  refine J_iconst (v := 0) hK qd0_29.2.2.2.2.2.2.1 rfl (by decide) ?_
  refine J_istore_n (L' := [(3, .int (0)), (0, .ref (h0 0)), (1, .ref (h4 0)), (2, .int p2)]) hK qd0_29.2.2.2.2.2.2.2.1 rfl rfl (by decide) rfl ?_
  obtain ⟨e55, hl52, hf⟩ := bs hf
  have hx52_78 : ∀ (w56 : (Nat → Int32)), w56 = e55 → J d Φ 4 [gCh d h0 (h1 0) a0_after (h3 0) w56, gTr d h1 (h2 0) x1_left g35 x1_turnCost x1_turnWayless, gWy d h2 g37 g38 g39 g40 g41 g42 g43 g44 g45 g46 g47 g48 g49 g50, gLd d h3 g13 g3 g4 g5 g14 g7 g8 g15 g10 x3_knownFree g16, gLd d h4 x4_lineCount x4_goodsCount x4_workCount x4_years x4_lines x4_goods x4_works x4_change x4_coin x4_knownFree x4_isKnown] 0 0 78 [] [] := by
    intro w56 he
    rw [← he] at hf
    obtain rfl := Option.some.inj hf
    exact J_vret hK hR qd0_30.2.2.2.2.2.2.2.2.2.1 () rfl (by decide) (by decide)
  have lo52 : ∀ (k : Nat) (z53 : Int32) (z54 : (Nat → Int32)), lp (u2 (fX0_gainBy_s48 g35)) k (z53, z54) = some e55 → J d Φ 4 [gCh d h0 (h1 0) a0_after (h3 0) z54, gTr d h1 (h2 0) x1_left g35 x1_turnCost x1_turnWayless, gWy d h2 g37 g38 g39 g40 g41 g42 g43 g44 g45 g46 g47 g48 g49 g50, gLd d h3 g13 g3 g4 g5 g14 g7 g8 g15 g10 x3_knownFree g16, gLd d h4 x4_lineCount x4_goodsCount x4_workCount x4_years x4_lines x4_goods x4_works x4_change x4_coin x4_knownFree x4_isKnown] 0 0 48 [(0, .ref (h0 0)), (3, .int z53)] [] := by
    intro k
    induction k with
    | zero => intro z53 z54 h; cases h
    | succ k ih52 =>
      intro z53 z54 h
      obtain ⟨k2, rr52, hk2, hs52, hr52⟩ := lp_ok h
      cases hk2
      have hs52 : fX0_gainBy_s48 g35 z53 z54 = some rr52 := hs52
      unfold fX0_gainBy_s48 at hs52
      refine J_iload_n hK qd0_29.2.2.2.2.2.2.2.2.1 rfl 1 rfl rfl ?_
      refine J_bipush (v := 6) hK qd0_29.2.2.2.2.2.2.2.2.2.1 rfl (by decide) ?_
      refine J_icmp_ge (tg := 78) hK qd0_29.2.2.2.2.2.2.2.2.2.2.1 rfl rfl (fun hc51 => ?_) (fun hc51 => ?_)
      · have hs52 := ip hc51 hs52
        exact J_loc [] rfl (hx52_78 z54 (lpx hs52 hr52))
      · have hs52 := iq hc51 hs52
        refine J_aload_n hK qd0_29.2.2.2.2.2.2.2.2.2.2.2.1 rfl 0 rfl rfl ?_
        refine J_get hK fo_RX0_25 qd0_29.2.2.2.2.2.2.2.2.2.2.2.2.1 rfl 0 0 rfl rfl rfl ?_
        refine J_iload_n hK qd0_29.2.2.2.2.2.2.2.2.2.2.2.2.2.1 rfl 1 rfl rfl ?_
        refine J_dup2 hK qd0_29.2.2.2.2.2.2.2.2.2.2.2.2.2.2.1 rfl rfl rfl ?_
        obtain ⟨v57, ev57, hs52⟩ := bs hs52
        refine J_iald hK qd0_29.2.2.2.2.2.2.2.2.2.2.2.2.2.2.2.1 rfl 0 1 rfl rfl ev57 ?_
        refine J_aload_n hK qd0_30.1 rfl 0 rfl rfl ?_
        refine J_get hK fo_RX0_12 qd0_30.2.1 rfl 0 0 rfl rfl rfl ?_
        refine J_get hK fo_RX0_108 qd0_30.2.2.1 rfl 1 0 rfl rfl rfl ?_
        refine J_iload_n hK qd0_30.2.2.2.1 rfl 1 rfl rfl ?_
        obtain ⟨v58, ev58, hs52⟩ := bs hs52
        refine J_iald hK qd0_30.2.2.2.2.1 rfl 1 2 rfl rfl ev58 ?_
        refine J_isub hK qd0_30.2.2.2.2.2.1 rfl ?_
        obtain ⟨f59, ef59, hs52⟩ := bs hs52
        refine J_iast (g' := gCh d h0 (h1 0) a0_after (h3 0) f59) (gs' := [gCh d h0 (h1 0) a0_after (h3 0) f59, gTr d h1 (h2 0) x1_left g35 x1_turnCost x1_turnWayless, gWy d h2 g37 g38 g39 g40 g41 g42 g43 g44 g45 g46 g47 g48 g49 g50, gLd d h3 g13 g3 g4 g5 g14 g7 g8 g15 g10 x3_knownFree g16, gLd d h4 x4_lineCount x4_goodsCount x4_workCount x4_years x4_lines x4_goods x4_works x4_change x4_coin x4_knownFree x4_isKnown]) hK qd0_30.2.2.2.2.2.2.1 rfl 0 1 rfl rfl ef59 rfl rfl ?_
        refine J_iinc (L' := [(3, .int (z53 + 1)), (0, .ref (h0 0))]) (v := (z53 + 1)) hK qd0_30.2.2.2.2.2.2.2.1 rfl 1 rfl rfl (by decide) rfl ?_
        refine J_goto hK qd0_30.2.2.2.2.2.2.2.2.1 (n := 48) rfl ?_
        exact J_loc [1, 0] rfl (ih52 (z53 + 1) f59 (lpc hs52 hr52))
  exact J_loc [1, 0] rfl (lo52 n (0) g33 hl52)

def fX0_workTold (X0 : LdT) (p1 : Int64) : Option (Int32) :=
  u11 (fun (x0_lineCount : Int32) (x0_goodsCount : Int32) (x0_workCount : Int32) (x0_years : Int32) (x0_lines : (Nat → Int32)) (x0_goods : (Nat → Int32)) (x0_works : (Nat → Int32)) (x0_change : (Nat → Int32)) (x0_coin : (Nat → Int32)) (x0_knownFree : (Nat → Int32)) (x0_isKnown : Int32) => if (lg_cmp p1 (0 : Int64)) < 0 then (some (-1)) else (if 0 ≤ (lg_cmp p1 ((x0_workCount).toInt64)) then (some (-1)) else ((fX1_isDone (x0_lineCount, x0_goodsCount, x0_workCount, x0_years, x0_lines, x0_goods, x0_works, x0_change, x0_coin, x0_knownFree, x0_isKnown) ((p1).toInt32)).bind (fun v1 => if v1 = 0 then (some ((p1).toInt32)) else (some (-1)))))) X0
set_option maxHeartbeats 4000000 in
set_option maxRecDepth 100000 in
theorem kX0_workTold (l : Launch) (d : DT) (h0 : Nat → Nat) (x0_lineCount : Int32) (x0_goodsCount : Int32) (x0_workCount : Int32) (x0_years : Int32) (x0_lines : (Nat → Int32)) (x0_goods : (Nat → Int32)) (x0_works : (Nat → Int32)) (x0_change : (Nat → Int32)) (x0_coin : (Nat → Int32)) (x0_knownFree : (Nat → Int32)) (x0_isKnown : Int32) (p1 : Int64)  {out : Int32} (hf : fX0_workTold (x0_lineCount, x0_goodsCount, x0_workCount, x0_years, x0_lines, x0_goods, x0_works, x0_change, x0_coin, x0_knownFree, x0_isKnown) p1 = some out) : Ct l d yX0_workTold cX0_workTold 3 (some .int) { frames := 2, cells := 0, slots := 0, locals := 43 } [.ref (h0 0), .long p1] [gLd d h0 x0_lineCount x0_goodsCount x0_workCount x0_years x0_lines x0_goods x0_works x0_change x0_coin x0_knownFree x0_isKnown] (fun _ : Unit => (some (.int out), [gLd d h0 x0_lineCount x0_goodsCount x0_workCount x0_years x0_lines x0_goods x0_works x0_change x0_coin x0_knownFree x0_isKnown])) := by
  refine Ct.of (by decide) (Nat.le_of_ble_eq_true rfl) ?_
  intro Φ hl hK hR
  subst hl
  have hK : Ok d Φ RX0 "workTold" cX0_workTold 3 (some .int) { frames := 2, cells := 0, slots := 0, locals := 43 } := hK
  unfold fX0_workTold at hf
  have hf := un11 hf
  show J d Φ 3 [gLd d h0 x0_lineCount x0_goodsCount x0_workCount x0_years x0_lines x0_goods x0_works x0_change x0_coin x0_knownFree x0_isKnown] 0 0 0 [(0, .ref (h0 0)), (1, .long p1)] []
  refine J_lload_n hK qd0_31.1 rfl 1 rfl rfl ?_
  refine J_lconst (v := 0) hK qd0_31.2.1 rfl (by decide) ?_
  refine J_lcmp hK qd0_31.2.2.1 rfl ?_
  refine J_if_lt (tg := 25) hK qd0_31.2.2.2.1 rfl rfl (fun hc3 => ?_) (fun hc3 => ?_)
  · have hf := ip hc3 hf
    refine J_iconst (v := (-1)) hK qd0_31.2.2.2.2.2.2.2.2.2.2.2.2.2.2.2.1 rfl (by decide) ?_
    obtain rfl := Option.some.inj hf
    exact J_iret hK hR qd0_32.1 () rfl (by decide) (by decide)
  · have hf := iq hc3 hf
    refine J_lload_n hK qd0_31.2.2.2.2.1 rfl 1 rfl rfl ?_
    refine J_aload_n hK qd0_31.2.2.2.2.2.1 rfl 0 rfl rfl ?_
    refine J_get hK fo_RX0_44 qd0_31.2.2.2.2.2.2.1 rfl 0 0 rfl rfl rfl ?_
    refine J_i2l hK qd0_31.2.2.2.2.2.2.2.1 rfl ?_
    refine J_lcmp hK qd0_31.2.2.2.2.2.2.2.2.1 rfl ?_
    refine J_if_ge (tg := 25) hK qd0_31.2.2.2.2.2.2.2.2.2.1 rfl rfl (fun hc13 => ?_) (fun hc13 => ?_)
    · have hf := ip hc13 hf
      refine J_iconst (v := (-1)) hK qd0_31.2.2.2.2.2.2.2.2.2.2.2.2.2.2.2.1 rfl (by decide) ?_
      obtain rfl := Option.some.inj hf
      exact J_iret hK hR qd0_32.1 () rfl (by decide) (by decide)
    · have hf := iq hc13 hf
      refine J_aload_n hK qd0_31.2.2.2.2.2.2.2.2.2.2.1 rfl 0 rfl rfl ?_
      refine J_lload_n hK qd0_31.2.2.2.2.2.2.2.2.2.2.2.1 rfl 1 rfl rfl ?_
      refine J_l2i hK qd0_31.2.2.2.2.2.2.2.2.2.2.2.2.1 rfl ?_
      obtain ⟨v1, e2, hf⟩ := bs hf
      refine J_callV (m := 1) (m' := 1) (ce' := 0) (sl' := 0) (gr := []) (gs' := fun _ => [gLd d h0 x0_lineCount x0_goodsCount x0_workCount x0_years x0_lines x0_goods x0_works x0_change x0_coin x0_knownFree x0_isKnown]) (st' := fun _ => [.int v1]) (st := []) hK qd0_31.2.2.2.2.2.2.2.2.2.2.2.2.2.1 cv_RX0_69 iv_yX1_isDone (As := [.int ((p1).toInt32)]) (kX1_isDone _ d h0 x0_lineCount x0_goodsCount x0_workCount x0_years x0_lines x0_goods x0_works x0_change x0_coin x0_knownFree x0_isKnown ((p1).toInt32) e2) rfl rfl (Nat.le_of_ble_eq_true rfl) (by decide) 0 0 rfl rfl rfl [0] [] rfl (by decide +kernel) rfl rfl [0] (by decide +kernel) (fun _ => rfl) (fun _ => rfl) rfl rfl rfl (fun _ => rfl) (fun _ => ?_)
      refine J_if_eq (tg := 27) hK qd0_31.2.2.2.2.2.2.2.2.2.2.2.2.2.2.1 rfl rfl (fun hc22 => ?_) (fun hc22 => ?_)
      · have hf := ip hc22 hf
        refine J_lload_n hK qd0_32.2.1 rfl 1 rfl rfl ?_
        refine J_l2i hK qd0_32.2.2.1 rfl ?_
        obtain rfl := Option.some.inj hf
        exact J_iret hK hR qd0_32.2.2.2.1 () rfl (by decide) (by decide)
      · have hf := iq hc22 hf
        refine J_iconst (v := (-1)) hK qd0_31.2.2.2.2.2.2.2.2.2.2.2.2.2.2.2.1 rfl (by decide) ?_
        obtain rfl := Option.some.inj hf
        exact J_iret hK hR qd0_32.1 () rfl (by decide) (by decide)
end
section
def fX0_wrongAt_s6 (m2 : Nat) (p2 : (Nat → Int64)) (p3 : Int32) (x0_lineCount : Int32) (x0_goodsCount : Int32) (x0_workCount : Int32) (x0_years : Int32) (x0_lines : (Nat → Int32)) (x0_goods : (Nat → Int32)) (x0_works : (Nat → Int32)) (x0_change : (Nat → Int32)) (x0_coin : (Nat → Int32)) (x0_knownFree : (Nat → Int32)) (x0_isKnown : Int32) (z2 : Int32) (z3 : Int32) : Option ((Int32 × Int32) ⊕ (((Int32) ⊕ (Unit)))) :=
  if p3 ≤ z3 then (some (.inr (.inr ()))) else (if (Int32.ofNat m2) ≤ z3 then (some (.inr (.inr ()))) else ((rd m2 p2 z3).bind fun v6 => (fX0_workTold (x0_lineCount, x0_goodsCount, x0_workCount, x0_years, x0_lines, x0_goods, x0_works, x0_change, x0_coin, x0_knownFree, x0_isKnown) v6).bind (fun v7 => if v7 = (-1) then (some (.inl (z2, (z3 + 1)))) else (if ((z2 >>> (v7 &&& 31)) &&& 1) = 0 then ((some (z2 ||| ((1 : Int32) <<< (v7 &&& 31)))).bind fun t9 => some (.inl (t9, (z3 + 1)))) else (some (.inr (.inl z3)))))))
def fX0_wrongAt (n : Nat) (X0 : LdT) (m2 : Nat) (p2 : (Nat → Int64)) (p3 : Int32) : Option (Int32) :=
  u11 (fun (x0_lineCount : Int32) (x0_goodsCount : Int32) (x0_workCount : Int32) (x0_years : Int32) (x0_lines : (Nat → Int32)) (x0_goods : (Nat → Int32)) (x0_works : (Nat → Int32)) (x0_change : (Nat → Int32)) (x0_coin : (Nat → Int32)) (x0_knownFree : (Nat → Int32)) (x0_isKnown : Int32) => (lp (u2 (fX0_wrongAt_s6 m2 p2 p3 x0_lineCount x0_goodsCount x0_workCount x0_years x0_lines x0_goods x0_works x0_change x0_coin x0_knownFree x0_isKnown)) n (0, 0)).bind (Sum.elim (fun w5 => some w5) (fun _ => some (-1)))) X0
set_option maxHeartbeats 4000000 in
set_option maxRecDepth 100000 in
theorem kX0_wrongAt (l : Launch) (d : DT) (h0 : Nat → Nat) (b2 : Nat) (o0 : Nat) (n : Nat) (x0_lineCount : Int32) (x0_goodsCount : Int32) (x0_workCount : Int32) (x0_years : Int32) (x0_lines : (Nat → Int32)) (x0_goods : (Nat → Int32)) (x0_works : (Nat → Int32)) (x0_change : (Nat → Int32)) (x0_coin : (Nat → Int32)) (x0_knownFree : (Nat → Int32)) (x0_isKnown : Int32) (m2 : Nat) (p2 : (Nat → Int64)) (p3 : Int32)  {out : Int32} (hf : fX0_wrongAt n (x0_lineCount, x0_goodsCount, x0_workCount, x0_years, x0_lines, x0_goods, x0_works, x0_change, x0_coin, x0_knownFree, x0_isKnown) m2 p2 p3 = some out) : Ct l d yX0_wrongAt cX0_wrongAt 7 (some .int) { frames := 3, cells := 0, slots := 0, locals := 65 } [.ref o0, .ref (h0 0), .ref b2, .int p3] [gLd d h0 x0_lineCount x0_goodsCount x0_workCount x0_years x0_lines x0_goods x0_works x0_change x0_coin x0_knownFree x0_isKnown, [cJ d b2 m2 p2]] (fun _ : Unit => (some (.int out), [gLd d h0 x0_lineCount x0_goodsCount x0_workCount x0_years x0_lines x0_goods x0_works x0_change x0_coin x0_knownFree x0_isKnown, [cJ d b2 m2 p2]])) := by
  refine Ct.of (by decide) (Nat.le_of_ble_eq_true rfl) ?_
  intro Φ hl hK hR
  subst hl
  have hK : Ok d Φ RX0 "wrongAt" cX0_wrongAt 7 (some .int) { frames := 3, cells := 0, slots := 0, locals := 65 } := hK
  unfold fX0_wrongAt at hf
  have hf := un11 hf
  show J d Φ 7 [gLd d h0 x0_lineCount x0_goodsCount x0_workCount x0_years x0_lines x0_goods x0_works x0_change x0_coin x0_knownFree x0_isKnown, [cJ d b2 m2 p2]] 0 0 0 [(0, .ref o0), (1, .ref (h0 0)), (2, .ref b2), (3, .int p3)] []
  refine J_iconst (v := 0) hK qd0_33.1 rfl (by decide) ?_
  refine J_istore (L' := [(4, .int (0)), (0, .ref o0), (1, .ref (h0 0)), (2, .ref b2), (3, .int p3)]) hK qd0_33.2.1 rfl (by decide) rfl ?_
  refine J_iconst (v := 0) hK qd0_33.2.2.1 rfl (by decide) ?_
  refine J_istore (L' := [(5, .int (0)), (4, .int (0)), (0, .ref o0), (1, .ref (h0 0)), (2, .ref b2), (3, .int p3)]) hK qd0_33.2.2.2.1 rfl (by decide) rfl ?_
  obtain ⟨e4, hl1, hf⟩ := bs hf
  have hx1_45 : ∀ (w5 : Int32), (.inl w5) = e4 → J d Φ 7 [gLd d h0 x0_lineCount x0_goodsCount x0_workCount x0_years x0_lines x0_goods x0_works x0_change x0_coin x0_knownFree x0_isKnown, [cJ d b2 m2 p2]] 0 0 45 [(5, .int w5)] [] := by
    intro w5 he
    rw [← he] at hf
    simp only [Sum.elim_inl, Sum.elim_inr] at hf
    refine J_iload hK qd0_34.2.2.2.2.2.2.2.2.2.2.1 rfl 0 rfl ?_
    obtain rfl := Option.some.inj hf
    exact J_iret hK hR qd0_34.2.2.2.2.2.2.2.2.2.2.2.1 () rfl (by decide) (by decide)
  have hx1_63 : (.inr ()) = e4 → J d Φ 7 [gLd d h0 x0_lineCount x0_goodsCount x0_workCount x0_years x0_lines x0_goods x0_works x0_change x0_coin x0_knownFree x0_isKnown, [cJ d b2 m2 p2]] 0 0 63 [] [] := by
    intro  he
    rw [← he] at hf
    simp only [Sum.elim_inl, Sum.elim_inr] at hf
    refine J_iconst (v := (-1)) hK qd0_35.2.2.2.2.1 rfl (by decide) ?_
    obtain rfl := Option.some.inj hf
    exact J_iret hK hR qd0_35.2.2.2.2.2.1 () rfl (by decide) (by decide)
  have lo1 : ∀ (k : Nat) (z2 : Int32) (z3 : Int32), lp (u2 (fX0_wrongAt_s6 m2 p2 p3 x0_lineCount x0_goodsCount x0_workCount x0_years x0_lines x0_goods x0_works x0_change x0_coin x0_knownFree x0_isKnown)) k (z2, z3) = some e4 → J d Φ 7 [gLd d h0 x0_lineCount x0_goodsCount x0_workCount x0_years x0_lines x0_goods x0_works x0_change x0_coin x0_knownFree x0_isKnown, [cJ d b2 m2 p2]] 0 0 6 [(1, .ref (h0 0)), (2, .ref b2), (3, .int p3), (4, .int z2), (5, .int z3)] [] := by
    intro k
    induction k with
    | zero => intro z2 z3 h; cases h
    | succ k ih1 =>
      intro z2 z3 h
      obtain ⟨k2, rr1, hk2, hs1, hr1⟩ := lp_ok h
      cases hk2
      have hs1 : fX0_wrongAt_s6 m2 p2 p3 x0_lineCount x0_goodsCount x0_workCount x0_years x0_lines x0_goods x0_works x0_change x0_coin x0_knownFree x0_isKnown z2 z3 = some rr1 := hs1
      unfold fX0_wrongAt_s6 at hs1
      refine J_iload hK qd0_33.2.2.2.2.1 rfl 4 rfl ?_
      refine J_iload_n hK qd0_33.2.2.2.2.2.1 rfl 2 rfl rfl ?_
      refine J_icmp_ge (tg := 63) hK qd0_33.2.2.2.2.2.2.1 rfl rfl (fun hc9 => ?_) (fun hc9 => ?_)
      · have hs1 := ip hc9 hs1
        exact J_loc [] rfl (hx1_63  (lpx hs1 hr1))
      · have hs1 := iq hc9 hs1
        refine J_iload hK qd0_33.2.2.2.2.2.2.2.1 rfl 4 rfl ?_
        refine J_aload_n hK qd0_33.2.2.2.2.2.2.2.2.1 rfl 1 rfl rfl ?_
        refine J_alen (v := (Int32.ofNat m2)) hK qd0_33.2.2.2.2.2.2.2.2.2.1 rfl 1 0 rfl rfl 1 rfl rfl ?_
        refine J_icmp_ge (tg := 63) hK qd0_33.2.2.2.2.2.2.2.2.2.2.1 rfl rfl (fun hc16 => ?_) (fun hc16 => ?_)
        · have hs1 := ip hc16 hs1
          exact J_loc [] rfl (hx1_63  (lpx hs1 hr1))
        · have hs1 := iq hc16 hs1
          refine J_aload_n hK qd0_33.2.2.2.2.2.2.2.2.2.2.2.1 rfl 0 rfl rfl ?_
          refine J_aload_n hK qd0_33.2.2.2.2.2.2.2.2.2.2.2.2.1 rfl 1 rfl rfl ?_
          refine J_iload hK qd0_33.2.2.2.2.2.2.2.2.2.2.2.2.2.1 rfl 4 rfl ?_
          obtain ⟨v6, ev6, hs1⟩ := bs hs1
          refine J_lald hK qd0_33.2.2.2.2.2.2.2.2.2.2.2.2.2.2.1 rfl 1 0 rfl rfl ev6 ?_
          obtain ⟨v7, e8, hs1⟩ := bs hs1
          refine J_callS (m := 2) (m' := 2) (ce' := 0) (sl' := 0) (gr := [[cJ d b2 m2 p2]]) (gs' := fun _ => [gLd d h0 x0_lineCount x0_goodsCount x0_workCount x0_years x0_lines x0_goods x0_works x0_change x0_coin x0_knownFree x0_isKnown, [cJ d b2 m2 p2]]) (st' := fun _ => [.int v7]) (st := []) hK qd0_33.2.2.2.2.2.2.2.2.2.2.2.2.2.2.2.1 cv_RX0_111 ws_yX0_workTold (As := [.ref (h0 0), .long v6]) (kX0_workTold _ d h0 x0_lineCount x0_goodsCount x0_workCount x0_years x0_lines x0_goods x0_works x0_change x0_coin x0_knownFree x0_isKnown v6 e8) rfl rfl (Nat.le_of_ble_eq_true rfl) (by decide) [0] [1] rfl (by decide +kernel) rfl rfl [1, 0] (by decide +kernel) (fun _ => rfl) (fun _ => rfl) rfl rfl rfl (fun _ => rfl) (fun _ => ?_)
          refine J_istore (L' := [(6, .int v7), (1, .ref (h0 0)), (2, .ref b2), (3, .int p3), (4, .int z2), (5, .int z3)]) hK qd0_34.1 rfl (by decide) rfl ?_
          refine J_iload hK qd0_34.2.1 rfl 0 rfl ?_
          refine J_iconst (v := (-1)) hK qd0_34.2.2.1 rfl (by decide) ?_
          refine J_icmp_eq (tg := 57) hK qd0_34.2.2.2.1 rfl rfl (fun hc32 => ?_) (fun hc32 => ?_)
          · have hs1 := ip hc32 hs1
            refine J_iinc (L' := [(5, .int (z3 + 1)), (6, .int v7), (1, .ref (h0 0)), (2, .ref b2), (3, .int p3), (4, .int z2)]) (v := (z3 + 1)) hK qd0_35.2.2.1 rfl 5 rfl rfl (by decide) rfl ?_
            refine J_goto hK qd0_35.2.2.2.1 (n := 6) rfl ?_
            exact J_loc [2, 3, 4, 5, 0] rfl (ih1 z2 (z3 + 1) (lpc hs1 hr1))
          · have hs1 := iq hc32 hs1
            refine J_iload hK qd0_34.2.2.2.2.1 rfl 4 rfl ?_
            refine J_iload hK qd0_34.2.2.2.2.2.1 rfl 0 rfl ?_
            refine J_ishr hK qd0_34.2.2.2.2.2.2.1 rfl ?_
            refine J_iconst (v := 1) hK qd0_34.2.2.2.2.2.2.2.1 rfl (by decide) ?_
            refine J_iand hK qd0_34.2.2.2.2.2.2.2.2.1 rfl ?_
            refine J_if_eq (tg := 48) hK qd0_34.2.2.2.2.2.2.2.2.2.1 rfl rfl (fun hc42 => ?_) (fun hc42 => ?_)
            · have hs1 := ip hc42 hs1
              refine J_iload hK qd0_34.2.2.2.2.2.2.2.2.2.2.2.2.1 rfl 4 rfl ?_
              refine J_iconst (v := 1) hK qd0_34.2.2.2.2.2.2.2.2.2.2.2.2.2.1 rfl (by decide) ?_
              refine J_iload hK qd0_34.2.2.2.2.2.2.2.2.2.2.2.2.2.2.1 rfl 0 rfl ?_
              refine J_ishl hK qd0_34.2.2.2.2.2.2.2.2.2.2.2.2.2.2.2.1 rfl ?_
              refine J_ior hK qd0_35.1 rfl ?_
              obtain ⟨t9, et9, hs1⟩ := bs hs1
              refine J_nmi et9 ?_
              refine J_istore (L' := [(4, .int t9), (6, .int v7), (1, .ref (h0 0)), (2, .ref b2), (3, .int p3), (5, .int z3)]) hK qd0_35.2.1 rfl (by decide) rfl ?_
              refine J_iinc (L' := [(5, .int (z3 + 1)), (4, .int t9), (6, .int v7), (1, .ref (h0 0)), (2, .ref b2), (3, .int p3)]) (v := (z3 + 1)) hK qd0_35.2.2.1 rfl 5 rfl rfl (by decide) rfl ?_
              refine J_goto hK qd0_35.2.2.2.1 (n := 6) rfl ?_
              exact J_loc [3, 4, 5, 1, 0] rfl (ih1 t9 (z3 + 1) (lpc hs1 hr1))
            · have hs1 := iq hc42 hs1
              exact J_loc [5] rfl (hx1_45 z3 (lpx hs1 hr1))
  exact J_loc [3, 4, 5, 1, 0] rfl (lo1 n (0) (0) hl1)

def fX0_costOfYear_j22 (n : Nat) (x0_gained : (Nat → Int32)) (x1_left : (Nat → Int32)) (x1_earned : (Nat → Int32)) (x1_turnCost : Int32) (x1_turnWayless : Int32) (x2_edgeA : (Nat → Int32)) (x2_edgeB : (Nat → Int32)) (x2_edgeCost : (Nat → Int32)) (x2_edgeLine : (Nat → Int32)) (x2_change : (Nat → Int32)) (x2_away : (Nat → Int32)) (x2_steps : (Nat → Int32)) (x2_nodes : (Nat → Int32)) (x2_stepCount : Int32) (x2_open : (Nat → Int32)) (x2_openCount : Int32) (x2_seen : Int64) (x2_edgeCount : Int32) (x2_aim : Int32) (x3_lineCount : Int32) (x3_goodsCount : Int32) (x3_workCount : Int32) (x3_years : Int32) (x3_lines : (Nat → Int32)) (x3_goods : (Nat → Int32)) (x3_works : (Nat → Int32)) (x3_change : (Nat → Int32)) (x3_coin : (Nat → Int32)) (x3_knownFree : (Nat → Int32)) (x3_isKnown : Int32) (x4_goodsCount : Int32) (x4_workCount : Int32) (x4_years : Int32) (x4_goods : (Nat → Int32)) (x4_coin : (Nat → Int32)) (x4_knownFree : (Nat → Int32)) (x3 : Int32) (x4 : (Nat → Int32)) (x5 : (Nat → Int32)) (x6 : (Nat → Int32)) (x7 : Int32) (y8 : Int32) : Option (Int32 × ((Nat → Int32) × (Nat → Int32) × (Nat → Int32) × (Nat → Int32) × (Nat → Int32) × (Nat → Int32) × Int32 × Int32) × (Int32 × Int32 × Int32 × Int32 × (Nat → Int32) × (Nat → Int32) × (Nat → Int32) × (Nat → Int32) × (Nat → Int32) × Int32) × (Int32 × (Nat → Int32) × (Nat → Int32) × (Nat → Int32) × (Nat → Int32) × Int32)) :=
  (fX0_freeWith n x0_gained (x1_left, x1_earned, x1_turnCost, x1_turnWayless) (x2_edgeA, x2_edgeB, x2_edgeCost, x2_edgeLine, x2_change, x2_away, x2_steps, x2_nodes, x2_stepCount, x2_open, x2_openCount, x2_seen, x2_edgeCount, x2_aim) (x3_lineCount, x3_goodsCount, x3_workCount, x3_years, x3_lines, x3_goods, x3_works, x3_change, x3_coin, x3_knownFree, x3_isKnown) (x3, x4_goodsCount, x4_workCount, x4_years, x4, x4_goods, x5, x6, x4_coin, x4_knownFree, x7) (0)).bind (u4 fun v9 G10 G19 G30 => u8 (fun g11 g12 g13 g14 g15 g16 g17 g18 => u10 (fun g20 g21 g22 g23 g24 g25 g26 g27 g28 g29 => u5 (fun g31 g32 g33 g34 g35 => some ((y8 + v9), (g11, g12, g13, g14, g15, g16, g17, g18), (g20, g21, g22, g23, g24, g25, g26, g27, g28, g29), (g31, g32, x5, g33, g34, g35))) G30) G19) G10)
def fX0_costOfYear (n : Nat) (X0 : ChT) (X1 : TrT) (X2 : WyT) (X3 : LdT) (X4 : LdT) (p2 : Int32) : Option (Int32 × ((Nat → Int32) × (Nat → Int32) × (Nat → Int32) × (Nat → Int32) × (Nat → Int32) × (Nat → Int32) × Int32 × Int32) × (Int32 × Int32 × Int32 × Int32 × (Nat → Int32) × (Nat → Int32) × (Nat → Int32) × (Nat → Int32) × (Nat → Int32) × Int32) × (Int32 × (Nat → Int32) × (Nat → Int32) × (Nat → Int32) × (Nat → Int32) × Int32)) :=
  (fun (x0_gained : (Nat → Int32)) => u4 (fun (x1_left : (Nat → Int32)) (x1_earned : (Nat → Int32)) (x1_turnCost : Int32) (x1_turnWayless : Int32) => u14 (fun (x2_edgeA : (Nat → Int32)) (x2_edgeB : (Nat → Int32)) (x2_edgeCost : (Nat → Int32)) (x2_edgeLine : (Nat → Int32)) (x2_change : (Nat → Int32)) (x2_away : (Nat → Int32)) (x2_steps : (Nat → Int32)) (x2_nodes : (Nat → Int32)) (x2_stepCount : Int32) (x2_open : (Nat → Int32)) (x2_openCount : Int32) (x2_seen : Int64) (x2_edgeCount : Int32) (x2_aim : Int32) => u11 (fun (x3_lineCount : Int32) (x3_goodsCount : Int32) (x3_workCount : Int32) (x3_years : Int32) (x3_lines : (Nat → Int32)) (x3_goods : (Nat → Int32)) (x3_works : (Nat → Int32)) (x3_change : (Nat → Int32)) (x3_coin : (Nat → Int32)) (x3_knownFree : (Nat → Int32)) (x3_isKnown : Int32) => u11 (fun (x4_lineCount : Int32) (x4_goodsCount : Int32) (x4_workCount : Int32) (x4_years : Int32) (x4_lines : (Nat → Int32)) (x4_goods : (Nat → Int32)) (x4_works : (Nat → Int32)) (x4_change : (Nat → Int32)) (x4_coin : (Nat → Int32)) (x4_knownFree : (Nat → Int32)) (x4_isKnown : Int32) => (fX1_hasWork (x4_lineCount, x4_goodsCount, x4_workCount, x4_years, x4_lines, x4_goods, x4_works, x4_change, x4_coin, x4_knownFree, x4_isKnown) p2).bind (fun v1 => if v1 = 0 then (fX0_costOfYear_j22 n x0_gained x1_left x1_earned x1_turnCost x1_turnWayless x2_edgeA x2_edgeB x2_edgeCost x2_edgeLine x2_change x2_away x2_steps x2_nodes x2_stepCount x2_open x2_openCount x2_seen x2_edgeCount x2_aim x3_lineCount x3_goodsCount x3_workCount x3_years x3_lines x3_goods x3_works x3_change x3_coin x3_knownFree x3_isKnown x4_goodsCount x4_workCount x4_years x4_goods x4_coin x4_knownFree x4_lineCount x4_lines x4_works x4_change x4_isKnown (0)) else ((fX1_ofWork (x4_lineCount, x4_goodsCount, x4_workCount, x4_years, x4_lines, x4_goods, x4_works, x4_change, x4_coin, x4_knownFree, x4_isKnown) p2 (3)).bind (fun v37 => (fX1_performForGood (x4_lineCount, x4_goodsCount, x4_workCount, x4_years, x4_lines, x4_goods, x4_works, x4_change, x4_coin, x4_knownFree, x4_isKnown) p2).bind (fun G39 => u5 (fun g40 g41 g42 g43 g44 => fX0_costOfYear_j22 n x0_gained x1_left x1_earned x1_turnCost x1_turnWayless x2_edgeA x2_edgeB x2_edgeCost x2_edgeLine x2_change x2_away x2_steps x2_nodes x2_stepCount x2_open x2_openCount x2_seen x2_edgeCount x2_aim x3_lineCount x3_goodsCount x3_workCount x3_years x3_lines x3_goods x3_works x3_change x3_coin x3_knownFree x3_isKnown x4_goodsCount x4_workCount x4_years x4_goods x4_coin x4_knownFree g40 g41 g42 g43 g44 v37) G39))))) X4) X3) X2) X1) X0
set_option maxHeartbeats 4000000 in
set_option maxRecDepth 100000 in
theorem kX0_costOfYear (l : Launch) (d : DT) (h0 : Nat → Nat) (a0_after : Nat) (h1 : Nat → Nat) (h2 : Nat → Nat) (h3 : Nat → Nat) (h4 : Nat → Nat) (n : Nat) (x0_gained : (Nat → Int32)) (x1_left : (Nat → Int32)) (x1_earned : (Nat → Int32)) (x1_turnCost : Int32) (x1_turnWayless : Int32) (x2_edgeA : (Nat → Int32)) (x2_edgeB : (Nat → Int32)) (x2_edgeCost : (Nat → Int32)) (x2_edgeLine : (Nat → Int32)) (x2_change : (Nat → Int32)) (x2_away : (Nat → Int32)) (x2_steps : (Nat → Int32)) (x2_nodes : (Nat → Int32)) (x2_stepCount : Int32) (x2_open : (Nat → Int32)) (x2_openCount : Int32) (x2_seen : Int64) (x2_edgeCount : Int32) (x2_aim : Int32) (x3_lineCount : Int32) (x3_goodsCount : Int32) (x3_workCount : Int32) (x3_years : Int32) (x3_lines : (Nat → Int32)) (x3_goods : (Nat → Int32)) (x3_works : (Nat → Int32)) (x3_change : (Nat → Int32)) (x3_coin : (Nat → Int32)) (x3_knownFree : (Nat → Int32)) (x3_isKnown : Int32) (x4_lineCount : Int32) (x4_goodsCount : Int32) (x4_workCount : Int32) (x4_years : Int32) (x4_lines : (Nat → Int32)) (x4_goods : (Nat → Int32)) (x4_works : (Nat → Int32)) (x4_change : (Nat → Int32)) (x4_coin : (Nat → Int32)) (x4_knownFree : (Nat → Int32)) (x4_isKnown : Int32) (p2 : Int32)  {out : Int32 × ((Nat → Int32) × (Nat → Int32) × (Nat → Int32) × (Nat → Int32) × (Nat → Int32) × (Nat → Int32) × Int32 × Int32) × (Int32 × Int32 × Int32 × Int32 × (Nat → Int32) × (Nat → Int32) × (Nat → Int32) × (Nat → Int32) × (Nat → Int32) × Int32) × (Int32 × (Nat → Int32) × (Nat → Int32) × (Nat → Int32) × (Nat → Int32) × Int32)} (hf : fX0_costOfYear n x0_gained (x1_left, x1_earned, x1_turnCost, x1_turnWayless) (x2_edgeA, x2_edgeB, x2_edgeCost, x2_edgeLine, x2_change, x2_away, x2_steps, x2_nodes, x2_stepCount, x2_open, x2_openCount, x2_seen, x2_edgeCount, x2_aim) (x3_lineCount, x3_goodsCount, x3_workCount, x3_years, x3_lines, x3_goods, x3_works, x3_change, x3_coin, x3_knownFree, x3_isKnown) (x4_lineCount, x4_goodsCount, x4_workCount, x4_years, x4_lines, x4_goods, x4_works, x4_change, x4_coin, x4_knownFree, x4_isKnown) p2 = some out) : Ct l d yX0_costOfYear cX0_costOfYear 4 (some .int) { frames := 4, cells := 0, slots := 0, locals := 103 } [.ref (h0 0), .ref (h4 0), .int p2] [gCh d h0 (h1 0) a0_after (h3 0) x0_gained, gTr d h1 (h2 0) x1_left x1_earned x1_turnCost x1_turnWayless, gWy d h2 x2_edgeA x2_edgeB x2_edgeCost x2_edgeLine x2_change x2_away x2_steps x2_nodes x2_stepCount x2_open x2_openCount x2_seen x2_edgeCount x2_aim, gLd d h3 x3_lineCount x3_goodsCount x3_workCount x3_years x3_lines x3_goods x3_works x3_change x3_coin x3_knownFree x3_isKnown, gLd d h4 x4_lineCount x4_goodsCount x4_workCount x4_years x4_lines x4_goods x4_works x4_change x4_coin x4_knownFree x4_isKnown] (fun _ : Unit => (some (.int out.1), [gCh d h0 (h1 0) a0_after (h3 0) x0_gained, gTr d h1 (h2 0) x1_left x1_earned x1_turnCost x1_turnWayless, gWy d h2 (out.2.1.1) (out.2.1.2.1) (out.2.1.2.2.1) (out.2.1.2.2.2.1) (out.2.1.2.2.2.2.1) (out.2.1.2.2.2.2.2.1) x2_steps x2_nodes x2_stepCount x2_open x2_openCount x2_seen (out.2.1.2.2.2.2.2.2.1) (out.2.1.2.2.2.2.2.2.2), gLd d h3 (out.2.2.1.1) (out.2.2.1.2.1) (out.2.2.1.2.2.1) (out.2.2.1.2.2.2.1) (out.2.2.1.2.2.2.2.1) (out.2.2.1.2.2.2.2.2.1) (out.2.2.1.2.2.2.2.2.2.1) (out.2.2.1.2.2.2.2.2.2.2.1) (out.2.2.1.2.2.2.2.2.2.2.2.1) x3_knownFree (out.2.2.1.2.2.2.2.2.2.2.2.2), gLd d h4 (out.2.2.2.1) x4_goodsCount x4_workCount x4_years (out.2.2.2.2.1) x4_goods (out.2.2.2.2.2.1) (out.2.2.2.2.2.2.1) x4_coin (out.2.2.2.2.2.2.2.1) (out.2.2.2.2.2.2.2.2)])) := by
  refine Ct.of (by decide) (Nat.le_of_ble_eq_true rfl) ?_
  intro Φ hl hK hR
  subst hl
  have hK : Ok d Φ RX0 "costOfYear" cX0_costOfYear 4 (some .int) { frames := 4, cells := 0, slots := 0, locals := 103 } := hK
  unfold fX0_costOfYear at hf
  have hf := un4 hf
  have hf := un14 hf
  have hf := un11 hf
  have hf := un11 hf
  show J d Φ 4 [gCh d h0 (h1 0) a0_after (h3 0) x0_gained, gTr d h1 (h2 0) x1_left x1_earned x1_turnCost x1_turnWayless, gWy d h2 x2_edgeA x2_edgeB x2_edgeCost x2_edgeLine x2_change x2_away x2_steps x2_nodes x2_stepCount x2_open x2_openCount x2_seen x2_edgeCount x2_aim, gLd d h3 x3_lineCount x3_goodsCount x3_workCount x3_years x3_lines x3_goods x3_works x3_change x3_coin x3_knownFree x3_isKnown, gLd d h4 x4_lineCount x4_goodsCount x4_workCount x4_years x4_lines x4_goods x4_works x4_change x4_coin x4_knownFree x4_isKnown] 0 0 0 [(0, .ref (h0 0)), (1, .ref (h4 0)), (2, .int p2)] []
  refine J_iconst (v := 0) hK qd0_38.1 rfl (by decide) ?_
  refine J_istore_n (L' := [(3, .int (0)), (0, .ref (h0 0)), (1, .ref (h4 0)), (2, .int p2)]) hK qd0_38.2.1 rfl rfl (by decide) rfl ?_
  refine J_aload_n hK qd0_38.2.2.1 rfl 2 rfl rfl ?_
  refine J_iload_n hK qd0_38.2.2.2.1 rfl 3 rfl rfl ?_
  obtain ⟨v1, e2, hf⟩ := bs hf
  refine J_callV (m := 5) (m' := 5) (ce' := 0) (sl' := 0) (gr := [gCh d h0 (h1 0) a0_after (h3 0) x0_gained, gTr d h1 (h2 0) x1_left x1_earned x1_turnCost x1_turnWayless, gWy d h2 x2_edgeA x2_edgeB x2_edgeCost x2_edgeLine x2_change x2_away x2_steps x2_nodes x2_stepCount x2_open x2_openCount x2_seen x2_edgeCount x2_aim, gLd d h3 x3_lineCount x3_goodsCount x3_workCount x3_years x3_lines x3_goods x3_works x3_change x3_coin x3_knownFree x3_isKnown]) (gs' := fun _ => [gCh d h0 (h1 0) a0_after (h3 0) x0_gained, gTr d h1 (h2 0) x1_left x1_earned x1_turnCost x1_turnWayless, gWy d h2 x2_edgeA x2_edgeB x2_edgeCost x2_edgeLine x2_change x2_away x2_steps x2_nodes x2_stepCount x2_open x2_openCount x2_seen x2_edgeCount x2_aim, gLd d h3 x3_lineCount x3_goodsCount x3_workCount x3_years x3_lines x3_goods x3_works x3_change x3_coin x3_knownFree x3_isKnown, gLd d h4 x4_lineCount x4_goodsCount x4_workCount x4_years x4_lines x4_goods x4_works x4_change x4_coin x4_knownFree x4_isKnown]) (st' := fun _ => [.int v1]) (st := []) hK qd0_38.2.2.2.2.1 cv_RX0_118 iv_yX1_hasWork (As := [.int p2]) (kX1_hasWork _ d h4 x4_lineCount x4_goodsCount x4_workCount x4_years x4_lines x4_goods x4_works x4_change x4_coin x4_knownFree x4_isKnown p2 e2) rfl rfl (Nat.le_of_ble_eq_true rfl) (by decide) 4 0 rfl rfl rfl [4] [0, 1, 2, 3] rfl (by decide +kernel) rfl rfl [0, 1, 2, 3, 4] (by decide +kernel) (fun _ => rfl) (fun _ => rfl) rfl rfl rfl (fun _ => rfl) (fun _ => ?_)
  have j22 : ∀ (x3 : Int32) (x4 : (Nat → Int32)) (x5 : (Nat → Int32)) (x6 : (Nat → Int32)) (x7 : Int32) (y8 : Int32), fX0_costOfYear_j22 n x0_gained x1_left x1_earned x1_turnCost x1_turnWayless x2_edgeA x2_edgeB x2_edgeCost x2_edgeLine x2_change x2_away x2_steps x2_nodes x2_stepCount x2_open x2_openCount x2_seen x2_edgeCount x2_aim x3_lineCount x3_goodsCount x3_workCount x3_years x3_lines x3_goods x3_works x3_change x3_coin x3_knownFree x3_isKnown x4_goodsCount x4_workCount x4_years x4_goods x4_coin x4_knownFree x3 x4 x5 x6 x7 y8 = some out → J d Φ 4 [gCh d h0 (h1 0) a0_after (h3 0) x0_gained, gTr d h1 (h2 0) x1_left x1_earned x1_turnCost x1_turnWayless, gWy d h2 x2_edgeA x2_edgeB x2_edgeCost x2_edgeLine x2_change x2_away x2_steps x2_nodes x2_stepCount x2_open x2_openCount x2_seen x2_edgeCount x2_aim, gLd d h3 x3_lineCount x3_goodsCount x3_workCount x3_years x3_lines x3_goods x3_works x3_change x3_coin x3_knownFree x3_isKnown, gLd d h4 x3 x4_goodsCount x4_workCount x4_years x4 x4_goods x5 x6 x4_coin x4_knownFree x7] 0 0 22 [(0, .ref (h0 0)), (1, .ref (h4 0)), (3, .int y8)] [] := by
    intro x3 x4 x5 x6 x7 y8 hf
    unfold fX0_costOfYear_j22 at hf
    refine J_iload_n hK qd0_38.2.2.2.2.2.2.2.2.2.2.2.2.2.2.1 rfl 2 rfl rfl ?_
    refine J_aload_n hK qd0_38.2.2.2.2.2.2.2.2.2.2.2.2.2.2.2.1 rfl 0 rfl rfl ?_
    refine J_aload_n hK qd0_39.1 rfl 1 rfl rfl ?_
    refine J_iconst (v := 0) hK qd0_39.2.1 rfl (by decide) ?_
    obtain ⟨⟨v9, ⟨g11, g12, g13, g14, g15, g16, g17, g18⟩, ⟨g20, g21, g22, g23, g24, g25, g26, g27, g28, g29⟩, ⟨g31, g32, g33, g34, g35⟩⟩, e36, hf⟩ := bs hf
    have hf := un4 hf
    have hf := un8 hf
    have hf := un10 hf
    have hf := un5 hf
    refine J_callV (m := 5) (m' := 5) (ce' := 0) (sl' := 0) (gr := []) (gs' := fun _ => [gCh d h0 (h1 0) a0_after (h3 0) x0_gained, gTr d h1 (h2 0) x1_left x1_earned x1_turnCost x1_turnWayless, gWy d h2 g11 g12 g13 g14 g15 g16 x2_steps x2_nodes x2_stepCount x2_open x2_openCount x2_seen g17 g18, gLd d h3 g20 g21 g22 g23 g24 g25 g26 g27 g28 x3_knownFree g29, gLd d h4 g31 x4_goodsCount x4_workCount x4_years g32 x4_goods x5 g33 x4_coin g34 g35]) (st' := fun _ => [.int v9, .int y8]) (st := [.int y8]) hK qd0_39.2.2.1 cv_RX0_66 iv_yX0_freeWith (As := [.ref (h4 0), .int (0)]) (kX0_freeWith _ d h0 a0_after h1 h2 h3 h4 n x0_gained x1_left x1_earned x1_turnCost x1_turnWayless x2_edgeA x2_edgeB x2_edgeCost x2_edgeLine x2_change x2_away x2_steps x2_nodes x2_stepCount x2_open x2_openCount x2_seen x2_edgeCount x2_aim x3_lineCount x3_goodsCount x3_workCount x3_years x3_lines x3_goods x3_works x3_change x3_coin x3_knownFree x3_isKnown x3 x4_goodsCount x4_workCount x4_years x4 x4_goods x5 x6 x4_coin x4_knownFree x7 (0) e36) rfl rfl (Nat.le_of_ble_eq_true rfl) (by decide) 0 0 rfl rfl rfl [0, 1, 2, 3, 4] [] rfl (by decide +kernel) rfl rfl [0, 1, 2, 3, 4] (by decide +kernel) (fun _ => rfl) (fun _ => rfl) rfl rfl rfl (fun _ => rfl) (fun _ => ?_)
    refine J_iadd hK qd0_39.2.2.2.1 rfl ?_
    obtain rfl := Option.some.inj hf
    exact J_iret hK hR qd0_39.2.2.2.2.1 () rfl (by decide) (by decide)
  refine J_if_eq (tg := 22) hK qd0_38.2.2.2.2.2.1 rfl rfl (fun hc7 => ?_) (fun hc7 => ?_)
  · have hf := ip hc7 hf
    exact J_loc [1, 2, 0] rfl (j22 x4_lineCount x4_lines x4_works x4_change x4_isKnown (0) hf)
  · have hf := iq hc7 hf
    refine J_aload_n hK qd0_38.2.2.2.2.2.2.1 rfl 2 rfl rfl ?_
    refine J_iload_n hK qd0_38.2.2.2.2.2.2.2.1 rfl 3 rfl rfl ?_
    refine J_iconst (v := 3) hK qd0_38.2.2.2.2.2.2.2.2.1 rfl (by decide) ?_
    obtain ⟨v37, e38, hf⟩ := bs hf
    refine J_callV (m := 5) (m' := 5) (ce' := 0) (sl' := 0) (gr := [gCh d h0 (h1 0) a0_after (h3 0) x0_gained, gTr d h1 (h2 0) x1_left x1_earned x1_turnCost x1_turnWayless, gWy d h2 x2_edgeA x2_edgeB x2_edgeCost x2_edgeLine x2_change x2_away x2_steps x2_nodes x2_stepCount x2_open x2_openCount x2_seen x2_edgeCount x2_aim, gLd d h3 x3_lineCount x3_goodsCount x3_workCount x3_years x3_lines x3_goods x3_works x3_change x3_coin x3_knownFree x3_isKnown]) (gs' := fun _ => [gCh d h0 (h1 0) a0_after (h3 0) x0_gained, gTr d h1 (h2 0) x1_left x1_earned x1_turnCost x1_turnWayless, gWy d h2 x2_edgeA x2_edgeB x2_edgeCost x2_edgeLine x2_change x2_away x2_steps x2_nodes x2_stepCount x2_open x2_openCount x2_seen x2_edgeCount x2_aim, gLd d h3 x3_lineCount x3_goodsCount x3_workCount x3_years x3_lines x3_goods x3_works x3_change x3_coin x3_knownFree x3_isKnown, gLd d h4 x4_lineCount x4_goodsCount x4_workCount x4_years x4_lines x4_goods x4_works x4_change x4_coin x4_knownFree x4_isKnown]) (st' := fun _ => [.int v37]) (st := []) hK qd0_38.2.2.2.2.2.2.2.2.2.1 cv_RX0_73 iv_yX1_ofWork (As := [.int p2, .int (3)]) (kX1_ofWork _ d h4 x4_lineCount x4_goodsCount x4_workCount x4_years x4_lines x4_goods x4_works x4_change x4_coin x4_knownFree x4_isKnown p2 (3) e38) rfl rfl (Nat.le_of_ble_eq_true rfl) (by decide) 4 0 rfl rfl rfl [4] [0, 1, 2, 3] rfl (by decide +kernel) rfl rfl [0, 1, 2, 3, 4] (by decide +kernel) (fun _ => rfl) (fun _ => rfl) rfl rfl rfl (fun _ => rfl) (fun _ => ?_)
    refine J_istore_n (L' := [(3, .int v37), (0, .ref (h0 0)), (1, .ref (h4 0)), (2, .int p2)]) hK qd0_38.2.2.2.2.2.2.2.2.2.2.1 rfl rfl (by decide) rfl ?_
    refine J_aload_n hK qd0_38.2.2.2.2.2.2.2.2.2.2.2.1 rfl 2 rfl rfl ?_
    refine J_iload_n hK qd0_38.2.2.2.2.2.2.2.2.2.2.2.2.1 rfl 3 rfl rfl ?_
    obtain ⟨⟨g40, g41, g42, g43, g44⟩, e45, hf⟩ := bs hf
    have hf := un5 hf
    refine J_callV (m := 5) (m' := 5) (ce' := 0) (sl' := 0) (gr := [gCh d h0 (h1 0) a0_after (h3 0) x0_gained, gTr d h1 (h2 0) x1_left x1_earned x1_turnCost x1_turnWayless, gWy d h2 x2_edgeA x2_edgeB x2_edgeCost x2_edgeLine x2_change x2_away x2_steps x2_nodes x2_stepCount x2_open x2_openCount x2_seen x2_edgeCount x2_aim, gLd d h3 x3_lineCount x3_goodsCount x3_workCount x3_years x3_lines x3_goods x3_works x3_change x3_coin x3_knownFree x3_isKnown]) (gs' := fun _ => [gCh d h0 (h1 0) a0_after (h3 0) x0_gained, gTr d h1 (h2 0) x1_left x1_earned x1_turnCost x1_turnWayless, gWy d h2 x2_edgeA x2_edgeB x2_edgeCost x2_edgeLine x2_change x2_away x2_steps x2_nodes x2_stepCount x2_open x2_openCount x2_seen x2_edgeCount x2_aim, gLd d h3 x3_lineCount x3_goodsCount x3_workCount x3_years x3_lines x3_goods x3_works x3_change x3_coin x3_knownFree x3_isKnown, gLd d h4 g40 x4_goodsCount x4_workCount x4_years g41 x4_goods g42 g43 x4_coin x4_knownFree g44]) (st' := fun _ => []) (st := []) hK qd0_38.2.2.2.2.2.2.2.2.2.2.2.2.2.1 cv_RX0_88 iv_yX1_performForGood (As := [.int p2]) (kX1_performForGood _ d h4 x4_lineCount x4_goodsCount x4_workCount x4_years x4_lines x4_goods x4_works x4_change x4_coin x4_knownFree x4_isKnown p2 e45) rfl rfl (Nat.le_of_ble_eq_true rfl) (by decide) 4 0 rfl rfl rfl [4] [0, 1, 2, 3] rfl (by decide +kernel) rfl rfl [0, 1, 2, 3, 4] (by decide +kernel) (fun _ => rfl) (fun _ => rfl) rfl rfl rfl (fun _ => rfl) (fun _ => ?_)
    exact J_loc [1, 2, 0] rfl (j22 g40 g41 g42 g43 g44 v37 hf)

def fX0_costOfPlan_s14 (n : Nat) (m2 : Nat) (p2 : (Nat → Int64)) (p3 : Int32) (x0_gained : (Nat → Int32)) (x2_left : (Nat → Int32)) (x2_earned : (Nat → Int32)) (x2_turnCost : Int32) (x2_turnWayless : Int32) (x3_steps : (Nat → Int32)) (x3_nodes : (Nat → Int32)) (x3_stepCount : Int32) (x3_open : (Nat → Int32)) (x3_openCount : Int32) (x3_seen : Int64) (x4_knownFree : (Nat → Int32)) (g3 : Int32) (g4 : Int32) (g5 : Int32) (g7 : (Nat → Int32)) (g10 : (Nat → Int32)) (z14 : Int32) (z15 : Int32) (z16 : Int32) (z17 : (Nat → Int32)) (z18 : (Nat → Int32)) (z19 : (Nat → Int32)) (z20 : (Nat → Int32)) (z21 : Int32) (z22 : (Nat → Int32)) (z23 : (Nat → Int32)) (z24 : (Nat → Int32)) (z25 : (Nat → Int32)) (z26 : (Nat → Int32)) (z27 : (Nat → Int32)) (z28 : Int32) (z29 : Int32) (z30 : Int32) (z31 : Int32) (z32 : Int32) (z33 : Int32) (z34 : (Nat → Int32)) (z35 : (Nat → Int32)) (z36 : (Nat → Int32)) (z37 : (Nat → Int32)) (z38 : (Nat → Int32)) (z39 : Int32) : Option ((Int32 × Int32 × Int32 × (Nat → Int32) × (Nat → Int32) × (Nat → Int32) × (Nat → Int32) × Int32 × (Nat → Int32) × (Nat → Int32) × (Nat → Int32) × (Nat → Int32) × (Nat → Int32) × (Nat → Int32) × Int32 × Int32 × Int32 × Int32 × Int32 × Int32 × (Nat → Int32) × (Nat → Int32) × (Nat → Int32) × (Nat → Int32) × (Nat → Int32) × Int32) ⊕ (Int32 × Int32 × (Nat → Int32) × (Nat → Int32) × (Nat → Int32) × (Nat → Int32) × Int32 × (Nat → Int32) × (Nat → Int32) × (Nat → Int32) × (Nat → Int32) × (Nat → Int32) × (Nat → Int32) × Int32 × Int32 × Int32 × Int32 × Int32 × Int32 × (Nat → Int32) × (Nat → Int32) × (Nat → Int32) × (Nat → Int32) × (Nat → Int32) × Int32)) :=
  if p3 ≤ z15 then (some (.inr (z14, z16, z17, z18, z19, z20, z21, z22, z23, z24, z25, z26, z27, z28, z29, z30, z31, z32, z33, z34, z35, z36, z37, z38, z39))) else (if (Int32.ofNat m2) ≤ z15 then (some (.inr (z14, z16, z17, z18, z19, z20, z21, z22, z23, z24, z25, z26, z27, z28, z29, z30, z31, z32, z33, z34, z35, z36, z37, z38, z39))) else ((rd m2 p2 z15).bind fun v66 => (fX0_workTold (z16, g3, g4, g5, z17, g7, z18, z19, g10, z20, z21) v66).bind (fun v67 => (fX0_costOfYear n x0_gained (x2_left, x2_earned, x2_turnCost, x2_turnWayless) (z22, z23, z24, z25, z26, z27, x3_steps, x3_nodes, x3_stepCount, x3_open, x3_openCount, x3_seen, z28, z29) (z30, z31, z32, z33, z34, z35, z36, z37, z38, x4_knownFree, z39) (z16, g3, g4, g5, z17, g7, z18, z19, g10, z20, z21) v67).bind (u4 fun v69 G70 G79 G90 => u8 (fun g71 g72 g73 g74 g75 g76 g77 g78 => u10 (fun g80 g81 g82 g83 g84 g85 g86 g87 g88 g89 => u6 (fun g91 g92 g93 g94 g95 g96 => some (.inl ((z14 + v69), (z15 + 1), g91, g92, g93, g94, g95, g96, g71, g72, g73, g74, g75, g76, g77, g78, g80, g81, g82, g83, g84, g85, g86, g87, g88, g89))) G90) G79) G70))))
def fX0_costOfPlan (n : Nat) (X0 : ChT) (X1 : LdT) (X2 : TrT) (X3 : WyT) (X4 : LdT) (X5 : LdT) (m2 : Nat) (p2 : (Nat → Int64)) (p3 : Int32) : Option (Int32 × (Int32 × Int32 × Int32 × Int32 × (Nat → Int32) × (Nat → Int32) × (Nat → Int32) × (Nat → Int32) × (Nat → Int32) × (Nat → Int32) × Int32) × ((Nat → Int32) × (Nat → Int32) × (Nat → Int32) × (Nat → Int32) × (Nat → Int32) × (Nat → Int32) × Int32 × Int32) × (Int32 × Int32 × Int32 × Int32 × (Nat → Int32) × (Nat → Int32) × (Nat → Int32) × (Nat → Int32) × (Nat → Int32) × Int32)) :=
  (fun (x0_gained : (Nat → Int32)) => u11 (fun (x1_lineCount : Int32) (x1_goodsCount : Int32) (x1_workCount : Int32) (x1_years : Int32) (x1_lines : (Nat → Int32)) (x1_goods : (Nat → Int32)) (x1_works : (Nat → Int32)) (x1_change : (Nat → Int32)) (x1_coin : (Nat → Int32)) (x1_knownFree : (Nat → Int32)) (x1_isKnown : Int32) => u4 (fun (x2_left : (Nat → Int32)) (x2_earned : (Nat → Int32)) (x2_turnCost : Int32) (x2_turnWayless : Int32) => u14 (fun (x3_edgeA : (Nat → Int32)) (x3_edgeB : (Nat → Int32)) (x3_edgeCost : (Nat → Int32)) (x3_edgeLine : (Nat → Int32)) (x3_change : (Nat → Int32)) (x3_away : (Nat → Int32)) (x3_steps : (Nat → Int32)) (x3_nodes : (Nat → Int32)) (x3_stepCount : Int32) (x3_open : (Nat → Int32)) (x3_openCount : Int32) (x3_seen : Int64) (x3_edgeCount : Int32) (x3_aim : Int32) => u11 (fun (x4_lineCount : Int32) (x4_goodsCount : Int32) (x4_workCount : Int32) (x4_years : Int32) (x4_lines : (Nat → Int32)) (x4_goods : (Nat → Int32)) (x4_works : (Nat → Int32)) (x4_change : (Nat → Int32)) (x4_coin : (Nat → Int32)) (x4_knownFree : (Nat → Int32)) (x4_isKnown : Int32) => u11 (fun (x5_lineCount : Int32) (x5_goodsCount : Int32) (x5_workCount : Int32) (x5_years : Int32) (x5_lines : (Nat → Int32)) (x5_goods : (Nat → Int32)) (x5_works : (Nat → Int32)) (x5_change : (Nat → Int32)) (x5_coin : (Nat → Int32)) (x5_knownFree : (Nat → Int32)) (x5_isKnown : Int32) => (fX1_take (x1_lineCount, x1_goodsCount, x1_workCount, x1_years, x1_lines, x1_goods, x1_works, x1_change, x1_coin, x1_knownFree, x1_isKnown) (x5_lineCount, x5_goodsCount, x5_workCount, x5_years, x5_lines, x5_goods, x5_works, x5_change, x5_coin, x5_knownFree, x5_isKnown)).bind (fun G1 => u10 (fun g2 g3 g4 g5 g6 g7 g8 g9 g10 g11 => (lp (u26 (fX0_costOfPlan_s14 n m2 p2 p3 x0_gained x2_left x2_earned x2_turnCost x2_turnWayless x3_steps x3_nodes x3_stepCount x3_open x3_openCount x3_seen x4_knownFree g3 g4 g5 g7 g10)) n (0, 0, g2, g6, g8, g9, x1_knownFree, g11, x3_edgeA, x3_edgeB, x3_edgeCost, x3_edgeLine, x3_change, x3_away, x3_edgeCount, x3_aim, x4_lineCount, x4_goodsCount, x4_workCount, x4_years, x4_lines, x4_goods, x4_works, x4_change, x4_coin, x4_isKnown)).bind (u25 fun w41 w42 w43 w44 w45 w46 w47 w48 w49 w50 w51 w52 w53 w54 w55 w56 w57 w58 w59 w60 w61 w62 w63 w64 w65 => some (w41, (w42, g3, g4, g5, w43, g7, w44, w45, g10, w46, w47), (w48, w49, w50, w51, w52, w53, w54, w55), (w56, w57, w58, w59, w60, w61, w62, w63, w64, w65)))) G1)) X5) X4) X3) X2) X1) X0
set_option maxHeartbeats 4000000 in
set_option maxRecDepth 100000 in
theorem kX0_costOfPlan (l : Launch) (d : DT) (h0 : Nat → Nat) (h1 : Nat → Nat) (h2 : Nat → Nat) (h3 : Nat → Nat) (h4 : Nat → Nat) (h5 : Nat → Nat) (b2 : Nat) (n : Nat) (x0_gained : (Nat → Int32)) (x1_lineCount : Int32) (x1_goodsCount : Int32) (x1_workCount : Int32) (x1_years : Int32) (x1_lines : (Nat → Int32)) (x1_goods : (Nat → Int32)) (x1_works : (Nat → Int32)) (x1_change : (Nat → Int32)) (x1_coin : (Nat → Int32)) (x1_knownFree : (Nat → Int32)) (x1_isKnown : Int32) (x2_left : (Nat → Int32)) (x2_earned : (Nat → Int32)) (x2_turnCost : Int32) (x2_turnWayless : Int32) (x3_edgeA : (Nat → Int32)) (x3_edgeB : (Nat → Int32)) (x3_edgeCost : (Nat → Int32)) (x3_edgeLine : (Nat → Int32)) (x3_change : (Nat → Int32)) (x3_away : (Nat → Int32)) (x3_steps : (Nat → Int32)) (x3_nodes : (Nat → Int32)) (x3_stepCount : Int32) (x3_open : (Nat → Int32)) (x3_openCount : Int32) (x3_seen : Int64) (x3_edgeCount : Int32) (x3_aim : Int32) (x4_lineCount : Int32) (x4_goodsCount : Int32) (x4_workCount : Int32) (x4_years : Int32) (x4_lines : (Nat → Int32)) (x4_goods : (Nat → Int32)) (x4_works : (Nat → Int32)) (x4_change : (Nat → Int32)) (x4_coin : (Nat → Int32)) (x4_knownFree : (Nat → Int32)) (x4_isKnown : Int32) (x5_lineCount : Int32) (x5_goodsCount : Int32) (x5_workCount : Int32) (x5_years : Int32) (x5_lines : (Nat → Int32)) (x5_goods : (Nat → Int32)) (x5_works : (Nat → Int32)) (x5_change : (Nat → Int32)) (x5_coin : (Nat → Int32)) (x5_knownFree : (Nat → Int32)) (x5_isKnown : Int32) (m2 : Nat) (p2 : (Nat → Int64)) (p3 : Int32)  {out : Int32 × (Int32 × Int32 × Int32 × Int32 × (Nat → Int32) × (Nat → Int32) × (Nat → Int32) × (Nat → Int32) × (Nat → Int32) × (Nat → Int32) × Int32) × ((Nat → Int32) × (Nat → Int32) × (Nat → Int32) × (Nat → Int32) × (Nat → Int32) × (Nat → Int32) × Int32 × Int32) × (Int32 × Int32 × Int32 × Int32 × (Nat → Int32) × (Nat → Int32) × (Nat → Int32) × (Nat → Int32) × (Nat → Int32) × Int32)} (hf : fX0_costOfPlan n x0_gained (x1_lineCount, x1_goodsCount, x1_workCount, x1_years, x1_lines, x1_goods, x1_works, x1_change, x1_coin, x1_knownFree, x1_isKnown) (x2_left, x2_earned, x2_turnCost, x2_turnWayless) (x3_edgeA, x3_edgeB, x3_edgeCost, x3_edgeLine, x3_change, x3_away, x3_steps, x3_nodes, x3_stepCount, x3_open, x3_openCount, x3_seen, x3_edgeCount, x3_aim) (x4_lineCount, x4_goodsCount, x4_workCount, x4_years, x4_lines, x4_goods, x4_works, x4_change, x4_coin, x4_knownFree, x4_isKnown) (x5_lineCount, x5_goodsCount, x5_workCount, x5_years, x5_lines, x5_goods, x5_works, x5_change, x5_coin, x5_knownFree, x5_isKnown) m2 p2 p3 = some out) : Ct l d yX0_costOfPlan cX0_costOfPlan 6 (some .int) { frames := 5, cells := 0, slots := 0, locals := 126 } [.ref (h0 0), .ref (h5 0), .ref b2, .int p3] [gCh d h0 (h2 0) (h1 0) (h4 0) x0_gained, gLd d h1 x1_lineCount x1_goodsCount x1_workCount x1_years x1_lines x1_goods x1_works x1_change x1_coin x1_knownFree x1_isKnown, gTr d h2 (h3 0) x2_left x2_earned x2_turnCost x2_turnWayless, gWy d h3 x3_edgeA x3_edgeB x3_edgeCost x3_edgeLine x3_change x3_away x3_steps x3_nodes x3_stepCount x3_open x3_openCount x3_seen x3_edgeCount x3_aim, gLd d h4 x4_lineCount x4_goodsCount x4_workCount x4_years x4_lines x4_goods x4_works x4_change x4_coin x4_knownFree x4_isKnown, gLd d h5 x5_lineCount x5_goodsCount x5_workCount x5_years x5_lines x5_goods x5_works x5_change x5_coin x5_knownFree x5_isKnown, [cJ d b2 m2 p2]] (fun _ : Unit => (some (.int out.1), [gCh d h0 (h2 0) (h1 0) (h4 0) x0_gained, gLd d h1 (out.2.1.1) (out.2.1.2.1) (out.2.1.2.2.1) (out.2.1.2.2.2.1) (out.2.1.2.2.2.2.1) (out.2.1.2.2.2.2.2.1) (out.2.1.2.2.2.2.2.2.1) (out.2.1.2.2.2.2.2.2.2.1) (out.2.1.2.2.2.2.2.2.2.2.1) (out.2.1.2.2.2.2.2.2.2.2.2.1) (out.2.1.2.2.2.2.2.2.2.2.2.2), gTr d h2 (h3 0) x2_left x2_earned x2_turnCost x2_turnWayless, gWy d h3 (out.2.2.1.1) (out.2.2.1.2.1) (out.2.2.1.2.2.1) (out.2.2.1.2.2.2.1) (out.2.2.1.2.2.2.2.1) (out.2.2.1.2.2.2.2.2.1) x3_steps x3_nodes x3_stepCount x3_open x3_openCount x3_seen (out.2.2.1.2.2.2.2.2.2.1) (out.2.2.1.2.2.2.2.2.2.2), gLd d h4 (out.2.2.2.1) (out.2.2.2.2.1) (out.2.2.2.2.2.1) (out.2.2.2.2.2.2.1) (out.2.2.2.2.2.2.2.1) (out.2.2.2.2.2.2.2.2.1) (out.2.2.2.2.2.2.2.2.2.1) (out.2.2.2.2.2.2.2.2.2.2.1) (out.2.2.2.2.2.2.2.2.2.2.2.1) x4_knownFree (out.2.2.2.2.2.2.2.2.2.2.2.2), gLd d h5 x5_lineCount x5_goodsCount x5_workCount x5_years x5_lines x5_goods x5_works x5_change x5_coin x5_knownFree x5_isKnown, [cJ d b2 m2 p2]])) := by
  refine Ct.of (by decide) (Nat.le_of_ble_eq_true rfl) ?_
  intro Φ hl hK hR
  subst hl
  have hK : Ok d Φ RX0 "costOfPlan" cX0_costOfPlan 6 (some .int) { frames := 5, cells := 0, slots := 0, locals := 126 } := hK
  unfold fX0_costOfPlan at hf
  have hf := un11 hf
  have hf := un4 hf
  have hf := un14 hf
  have hf := un11 hf
  have hf := un11 hf
  show J d Φ 6 [gCh d h0 (h2 0) (h1 0) (h4 0) x0_gained, gLd d h1 x1_lineCount x1_goodsCount x1_workCount x1_years x1_lines x1_goods x1_works x1_change x1_coin x1_knownFree x1_isKnown, gTr d h2 (h3 0) x2_left x2_earned x2_turnCost x2_turnWayless, gWy d h3 x3_edgeA x3_edgeB x3_edgeCost x3_edgeLine x3_change x3_away x3_steps x3_nodes x3_stepCount x3_open x3_openCount x3_seen x3_edgeCount x3_aim, gLd d h4 x4_lineCount x4_goodsCount x4_workCount x4_years x4_lines x4_goods x4_works x4_change x4_coin x4_knownFree x4_isKnown, gLd d h5 x5_lineCount x5_goodsCount x5_workCount x5_years x5_lines x5_goods x5_works x5_change x5_coin x5_knownFree x5_isKnown, [cJ d b2 m2 p2]] 0 0 0 [(0, .ref (h0 0)), (1, .ref (h5 0)), (2, .ref b2), (3, .int p3)] []
  refine J_aload_n hK qd0_36.1 rfl 0 rfl rfl ?_
  refine J_get hK fo_RX0_21 qd0_36.2.1 rfl 0 0 rfl rfl rfl ?_
  refine J_aload_n hK qd0_36.2.2.1 rfl 1 rfl rfl ?_
  obtain ⟨⟨g2, g3, g4, g5, g6, g7, g8, g9, g10, g11⟩, e12, hf⟩ := bs hf
  have hf := un10 hf
  refine J_callV (m := 7) (m' := 7) (ce' := 0) (sl' := 0) (gr := [gCh d h0 (h2 0) (h1 0) (h4 0) x0_gained, gTr d h2 (h3 0) x2_left x2_earned x2_turnCost x2_turnWayless, gWy d h3 x3_edgeA x3_edgeB x3_edgeCost x3_edgeLine x3_change x3_away x3_steps x3_nodes x3_stepCount x3_open x3_openCount x3_seen x3_edgeCount x3_aim, gLd d h4 x4_lineCount x4_goodsCount x4_workCount x4_years x4_lines x4_goods x4_works x4_change x4_coin x4_knownFree x4_isKnown, [cJ d b2 m2 p2]]) (gs' := fun _ => [gCh d h0 (h2 0) (h1 0) (h4 0) x0_gained, gLd d h1 g2 g3 g4 g5 g6 g7 g8 g9 g10 x1_knownFree g11, gTr d h2 (h3 0) x2_left x2_earned x2_turnCost x2_turnWayless, gWy d h3 x3_edgeA x3_edgeB x3_edgeCost x3_edgeLine x3_change x3_away x3_steps x3_nodes x3_stepCount x3_open x3_openCount x3_seen x3_edgeCount x3_aim, gLd d h4 x4_lineCount x4_goodsCount x4_workCount x4_years x4_lines x4_goods x4_works x4_change x4_coin x4_knownFree x4_isKnown, gLd d h5 x5_lineCount x5_goodsCount x5_workCount x5_years x5_lines x5_goods x5_works x5_change x5_coin x5_knownFree x5_isKnown, [cJ d b2 m2 p2]]) (st' := fun _ => []) (st := []) hK qd0_36.2.2.2.1 cv_RX0_40 iv_yX1_take (As := [.ref (h5 0)]) (kX1_take _ d h1 h5 x1_lineCount x1_goodsCount x1_workCount x1_years x1_lines x1_goods x1_works x1_change x1_coin x1_knownFree x1_isKnown x5_lineCount x5_goodsCount x5_workCount x5_years x5_lines x5_goods x5_works x5_change x5_coin x5_knownFree x5_isKnown e12) rfl rfl (Nat.le_of_ble_eq_true rfl) (by decide) 1 0 rfl rfl rfl [1, 5] [0, 2, 3, 4, 6] rfl (by decide +kernel) rfl rfl [0, 5, 1, 2, 3, 6, 4] (by decide +kernel) (fun _ => rfl) (fun _ => rfl) rfl rfl rfl (fun _ => rfl) (fun _ => ?_)
  refine J_iconst (v := 0) hK qd0_36.2.2.2.2.1 rfl (by decide) ?_
  refine J_istore (L' := [(4, .int (0)), (0, .ref (h0 0)), (1, .ref (h5 0)), (2, .ref b2), (3, .int p3)]) hK qd0_36.2.2.2.2.2.1 rfl (by decide) rfl ?_
  refine J_iconst (v := 0) hK qd0_36.2.2.2.2.2.2.1 rfl (by decide) ?_
  refine J_istore (L' := [(5, .int (0)), (4, .int (0)), (0, .ref (h0 0)), (1, .ref (h5 0)), (2, .ref b2), (3, .int p3)]) hK qd0_36.2.2.2.2.2.2.2.1 rfl (by decide) rfl ?_
  obtain ⟨e40, hl13, hf⟩ := bs hf
  have hx13_57 : ∀ (w41 : Int32) (w42 : Int32) (w43 : (Nat → Int32)) (w44 : (Nat → Int32)) (w45 : (Nat → Int32)) (w46 : (Nat → Int32)) (w47 : Int32) (w48 : (Nat → Int32)) (w49 : (Nat → Int32)) (w50 : (Nat → Int32)) (w51 : (Nat → Int32)) (w52 : (Nat → Int32)) (w53 : (Nat → Int32)) (w54 : Int32) (w55 : Int32) (w56 : Int32) (w57 : Int32) (w58 : Int32) (w59 : Int32) (w60 : (Nat → Int32)) (w61 : (Nat → Int32)) (w62 : (Nat → Int32)) (w63 : (Nat → Int32)) (w64 : (Nat → Int32)) (w65 : Int32), (w41, w42, w43, w44, w45, w46, w47, w48, w49, w50, w51, w52, w53, w54, w55, w56, w57, w58, w59, w60, w61, w62, w63, w64, w65) = e40 → J d Φ 6 [gCh d h0 (h2 0) (h1 0) (h4 0) x0_gained, gLd d h1 w42 g3 g4 g5 w43 g7 w44 w45 g10 w46 w47, gTr d h2 (h3 0) x2_left x2_earned x2_turnCost x2_turnWayless, gWy d h3 w48 w49 w50 w51 w52 w53 x3_steps x3_nodes x3_stepCount x3_open x3_openCount x3_seen w54 w55, gLd d h4 w56 w57 w58 w59 w60 w61 w62 w63 w64 x4_knownFree w65, gLd d h5 x5_lineCount x5_goodsCount x5_workCount x5_years x5_lines x5_goods x5_works x5_change x5_coin x5_knownFree x5_isKnown, [cJ d b2 m2 p2]] 0 0 57 [(4, .int w41)] [] := by
    intro w41 w42 w43 w44 w45 w46 w47 w48 w49 w50 w51 w52 w53 w54 w55 w56 w57 w58 w59 w60 w61 w62 w63 w64 w65 he
    rw [← he] at hf
    have hf := un25 hf
    refine J_iload hK qd0_37.2.2.2.2.2.2.2.2.2.2.2.2.2.2.1 rfl 0 rfl ?_
    obtain rfl := Option.some.inj hf
    exact J_iret hK hR qd0_37.2.2.2.2.2.2.2.2.2.2.2.2.2.2.2.1 () rfl (by decide) (by decide)
  have lo13 : ∀ (k : Nat) (z14 : Int32) (z15 : Int32) (z16 : Int32) (z17 : (Nat → Int32)) (z18 : (Nat → Int32)) (z19 : (Nat → Int32)) (z20 : (Nat → Int32)) (z21 : Int32) (z22 : (Nat → Int32)) (z23 : (Nat → Int32)) (z24 : (Nat → Int32)) (z25 : (Nat → Int32)) (z26 : (Nat → Int32)) (z27 : (Nat → Int32)) (z28 : Int32) (z29 : Int32) (z30 : Int32) (z31 : Int32) (z32 : Int32) (z33 : Int32) (z34 : (Nat → Int32)) (z35 : (Nat → Int32)) (z36 : (Nat → Int32)) (z37 : (Nat → Int32)) (z38 : (Nat → Int32)) (z39 : Int32), lp (u26 (fX0_costOfPlan_s14 n m2 p2 p3 x0_gained x2_left x2_earned x2_turnCost x2_turnWayless x3_steps x3_nodes x3_stepCount x3_open x3_openCount x3_seen x4_knownFree g3 g4 g5 g7 g10)) k (z14, z15, z16, z17, z18, z19, z20, z21, z22, z23, z24, z25, z26, z27, z28, z29, z30, z31, z32, z33, z34, z35, z36, z37, z38, z39) = some e40 → J d Φ 6 [gCh d h0 (h2 0) (h1 0) (h4 0) x0_gained, gLd d h1 z16 g3 g4 g5 z17 g7 z18 z19 g10 z20 z21, gTr d h2 (h3 0) x2_left x2_earned x2_turnCost x2_turnWayless, gWy d h3 z22 z23 z24 z25 z26 z27 x3_steps x3_nodes x3_stepCount x3_open x3_openCount x3_seen z28 z29, gLd d h4 z30 z31 z32 z33 z34 z35 z36 z37 z38 x4_knownFree z39, gLd d h5 x5_lineCount x5_goodsCount x5_workCount x5_years x5_lines x5_goods x5_works x5_change x5_coin x5_knownFree x5_isKnown, [cJ d b2 m2 p2]] 0 0 14 [(0, .ref (h0 0)), (2, .ref b2), (3, .int p3), (4, .int z14), (5, .int z15)] [] := by
    intro k
    induction k with
    | zero => intro z14 z15 z16 z17 z18 z19 z20 z21 z22 z23 z24 z25 z26 z27 z28 z29 z30 z31 z32 z33 z34 z35 z36 z37 z38 z39 h; cases h
    | succ k ih13 =>
      intro z14 z15 z16 z17 z18 z19 z20 z21 z22 z23 z24 z25 z26 z27 z28 z29 z30 z31 z32 z33 z34 z35 z36 z37 z38 z39 h
      obtain ⟨k2, rr13, hk2, hs13, hr13⟩ := lp_ok h
      cases hk2
      have hs13 : fX0_costOfPlan_s14 n m2 p2 p3 x0_gained x2_left x2_earned x2_turnCost x2_turnWayless x3_steps x3_nodes x3_stepCount x3_open x3_openCount x3_seen x4_knownFree g3 g4 g5 g7 g10 z14 z15 z16 z17 z18 z19 z20 z21 z22 z23 z24 z25 z26 z27 z28 z29 z30 z31 z32 z33 z34 z35 z36 z37 z38 z39 = some rr13 := hs13
      unfold fX0_costOfPlan_s14 at hs13
      refine J_iload hK qd0_36.2.2.2.2.2.2.2.2.1 rfl 4 rfl ?_
      refine J_iload_n hK qd0_36.2.2.2.2.2.2.2.2.2.1 rfl 2 rfl rfl ?_
      refine J_icmp_ge (tg := 57) hK qd0_36.2.2.2.2.2.2.2.2.2.2.1 rfl rfl (fun hc17 => ?_) (fun hc17 => ?_)
      · have hs13 := ip hc17 hs13
        exact J_loc [3] rfl (hx13_57 z14 z16 z17 z18 z19 z20 z21 z22 z23 z24 z25 z26 z27 z28 z29 z30 z31 z32 z33 z34 z35 z36 z37 z38 z39 (lpx hs13 hr13))
      · have hs13 := iq hc17 hs13
        refine J_iload hK qd0_36.2.2.2.2.2.2.2.2.2.2.2.1 rfl 4 rfl ?_
        refine J_aload_n hK qd0_36.2.2.2.2.2.2.2.2.2.2.2.2.1 rfl 1 rfl rfl ?_
        refine J_alen (v := (Int32.ofNat m2)) hK qd0_36.2.2.2.2.2.2.2.2.2.2.2.2.2.1 rfl 6 0 rfl rfl 1 rfl rfl ?_
        refine J_icmp_ge (tg := 57) hK qd0_36.2.2.2.2.2.2.2.2.2.2.2.2.2.2.1 rfl rfl (fun hc24 => ?_) (fun hc24 => ?_)
        · have hs13 := ip hc24 hs13
          exact J_loc [3] rfl (hx13_57 z14 z16 z17 z18 z19 z20 z21 z22 z23 z24 z25 z26 z27 z28 z29 z30 z31 z32 z33 z34 z35 z36 z37 z38 z39 (lpx hs13 hr13))
        · have hs13 := iq hc24 hs13
          refine J_iload hK qd0_36.2.2.2.2.2.2.2.2.2.2.2.2.2.2.2.1 rfl 3 rfl ?_
          refine J_aload_n hK qd0_37.1 rfl 0 rfl rfl ?_
          refine J_aload_n hK qd0_37.2.1 rfl 0 rfl rfl ?_
          refine J_get hK fo_RX0_21 qd0_37.2.2.1 rfl 0 0 rfl rfl rfl ?_
          refine J_aload_n hK qd0_37.2.2.2.1 rfl 0 rfl rfl ?_
          refine J_get hK fo_RX0_21 qd0_37.2.2.2.2.1 rfl 0 0 rfl rfl rfl ?_
          refine J_aload_n hK qd0_37.2.2.2.2.2.1 rfl 1 rfl rfl ?_
          refine J_iload hK qd0_37.2.2.2.2.2.2.1 rfl 4 rfl ?_
          obtain ⟨v66, ev66, hs13⟩ := bs hs13
          refine J_lald hK qd0_37.2.2.2.2.2.2.2.1 rfl 6 0 rfl rfl ev66 ?_
          obtain ⟨v67, e68, hs13⟩ := bs hs13
          refine J_callS (m := 7) (m' := 7) (ce' := 0) (sl' := 0) (gr := [gCh d h0 (h2 0) (h1 0) (h4 0) x0_gained, gTr d h2 (h3 0) x2_left x2_earned x2_turnCost x2_turnWayless, gWy d h3 z22 z23 z24 z25 z26 z27 x3_steps x3_nodes x3_stepCount x3_open x3_openCount x3_seen z28 z29, gLd d h4 z30 z31 z32 z33 z34 z35 z36 z37 z38 x4_knownFree z39, gLd d h5 x5_lineCount x5_goodsCount x5_workCount x5_years x5_lines x5_goods x5_works x5_change x5_coin x5_knownFree x5_isKnown, [cJ d b2 m2 p2]]) (gs' := fun _ => [gCh d h0 (h2 0) (h1 0) (h4 0) x0_gained, gLd d h1 z16 g3 g4 g5 z17 g7 z18 z19 g10 z20 z21, gTr d h2 (h3 0) x2_left x2_earned x2_turnCost x2_turnWayless, gWy d h3 z22 z23 z24 z25 z26 z27 x3_steps x3_nodes x3_stepCount x3_open x3_openCount x3_seen z28 z29, gLd d h4 z30 z31 z32 z33 z34 z35 z36 z37 z38 x4_knownFree z39, gLd d h5 x5_lineCount x5_goodsCount x5_workCount x5_years x5_lines x5_goods x5_works x5_change x5_coin x5_knownFree x5_isKnown, [cJ d b2 m2 p2]]) (st' := fun _ => [.int v67, .ref (h1 0), .ref (h0 0), .int z14]) (st := [.ref (h1 0), .ref (h0 0), .int z14]) hK qd0_37.2.2.2.2.2.2.2.2.1 cv_RX0_111 ws_yX0_workTold (As := [.ref (h1 0), .long v66]) (kX0_workTold _ d h1 z16 g3 g4 g5 z17 g7 z18 z19 g10 z20 z21 v66 e68) rfl rfl (Nat.le_of_ble_eq_true rfl) (by decide) [1] [0, 2, 3, 4, 5, 6] rfl (by decide +kernel) rfl rfl [0, 6, 1, 2, 3, 4, 5] (by decide +kernel) (fun _ => rfl) (fun _ => rfl) rfl rfl rfl (fun _ => rfl) (fun _ => ?_)
          obtain ⟨⟨v69, ⟨g71, g72, g73, g74, g75, g76, g77, g78⟩, ⟨g80, g81, g82, g83, g84, g85, g86, g87, g88, g89⟩, ⟨g91, g92, g93, g94, g95, g96⟩⟩, e97, hs13⟩ := bs hs13
          have hs13 := un4 hs13
          have hs13 := un8 hs13
          have hs13 := un10 hs13
          have hs13 := un6 hs13
          refine J_callV (m := 7) (m' := 7) (ce' := 0) (sl' := 0) (gr := [gLd d h5 x5_lineCount x5_goodsCount x5_workCount x5_years x5_lines x5_goods x5_works x5_change x5_coin x5_knownFree x5_isKnown, [cJ d b2 m2 p2]]) (gs' := fun _ => [gCh d h0 (h2 0) (h1 0) (h4 0) x0_gained, gLd d h1 g91 g3 g4 g5 g92 g7 g93 g94 g10 g95 g96, gTr d h2 (h3 0) x2_left x2_earned x2_turnCost x2_turnWayless, gWy d h3 g71 g72 g73 g74 g75 g76 x3_steps x3_nodes x3_stepCount x3_open x3_openCount x3_seen g77 g78, gLd d h4 g80 g81 g82 g83 g84 g85 g86 g87 g88 x4_knownFree g89, gLd d h5 x5_lineCount x5_goodsCount x5_workCount x5_years x5_lines x5_goods x5_works x5_change x5_coin x5_knownFree x5_isKnown, [cJ d b2 m2 p2]]) (st' := fun _ => [.int v69, .int z14]) (st := [.int z14]) hK qd0_37.2.2.2.2.2.2.2.2.2.1 cv_RX0_115 iv_yX0_costOfYear (As := [.ref (h1 0), .int v67]) (kX0_costOfYear _ d h0 (h1 0) h2 h3 h4 h1 n x0_gained x2_left x2_earned x2_turnCost x2_turnWayless z22 z23 z24 z25 z26 z27 x3_steps x3_nodes x3_stepCount x3_open x3_openCount x3_seen z28 z29 z30 z31 z32 z33 z34 z35 z36 z37 z38 x4_knownFree z39 z16 g3 g4 g5 z17 g7 z18 z19 g10 z20 z21 v67 e97) rfl rfl (Nat.le_of_ble_eq_true rfl) (by decide) 0 0 rfl rfl rfl [0, 2, 3, 4, 1] [5, 6] rfl (by decide +kernel) rfl rfl [2, 6, 3, 4, 5, 0, 1] (by decide +kernel) (fun _ => rfl) (fun _ => rfl) rfl rfl rfl (fun _ => rfl) (fun _ => ?_)
          refine J_iadd hK qd0_37.2.2.2.2.2.2.2.2.2.2.1 rfl ?_
          refine J_istore (L' := [(4, .int (z14 + v69)), (0, .ref (h0 0)), (2, .ref b2), (3, .int p3), (5, .int z15)]) hK qd0_37.2.2.2.2.2.2.2.2.2.2.2.1 rfl (by decide) rfl ?_
          refine J_iinc (L' := [(5, .int (z15 + 1)), (4, .int (z14 + v69)), (0, .ref (h0 0)), (2, .ref b2), (3, .int p3)]) (v := (z15 + 1)) hK qd0_37.2.2.2.2.2.2.2.2.2.2.2.2.1 rfl 4 rfl rfl (by decide) rfl ?_
          refine J_goto hK qd0_37.2.2.2.2.2.2.2.2.2.2.2.2.2.1 (n := 14) rfl ?_
          exact J_loc [2, 3, 4, 1, 0] rfl (ih13 (z14 + v69) (z15 + 1) g91 g92 g93 g94 g95 g96 g71 g72 g73 g74 g75 g76 g77 g78 g80 g81 g82 g83 g84 g85 g86 g87 g88 g89 (lpc hs13 hr13))
  exact J_loc [2, 4, 5, 1, 0] rfl (lo13 n (0) (0) g2 g6 g8 g9 x1_knownFree g11 x3_edgeA x3_edgeB x3_edgeCost x3_edgeLine x3_change x3_away x3_edgeCount x3_aim x4_lineCount x4_goodsCount x4_workCount x4_years x4_lines x4_goods x4_works x4_change x4_coin x4_isKnown hl13)

def fX1_hasGoods (X0 : LdT) (p1 : Int32) : Option (Int32) :=
  u11 (fun (x0_lineCount : Int32) (x0_goodsCount : Int32) (x0_workCount : Int32) (x0_years : Int32) (x0_lines : (Nat → Int32)) (x0_goods : (Nat → Int32)) (x0_works : (Nat → Int32)) (x0_change : (Nat → Int32)) (x0_coin : (Nat → Int32)) (x0_knownFree : (Nat → Int32)) (x0_isKnown : Int32) => (fX6_within p1 (0) (x0_goodsCount - 1)).bind (fun v1 => (zb v1).bind fun v3 => some v3)) X0
set_option maxHeartbeats 4000000 in
set_option maxRecDepth 100000 in
theorem kX1_hasGoods (l : Launch) (d : DT) (h0 : Nat → Nat) (x0_lineCount : Int32) (x0_goodsCount : Int32) (x0_workCount : Int32) (x0_years : Int32) (x0_lines : (Nat → Int32)) (x0_goods : (Nat → Int32)) (x0_works : (Nat → Int32)) (x0_change : (Nat → Int32)) (x0_coin : (Nat → Int32)) (x0_knownFree : (Nat → Int32)) (x0_isKnown : Int32) (p1 : Int32)  {out : Int32} (hf : fX1_hasGoods (x0_lineCount, x0_goodsCount, x0_workCount, x0_years, x0_lines, x0_goods, x0_works, x0_change, x0_coin, x0_knownFree, x0_isKnown) p1 = some out) : Ct l d yX1_hasGoods cX1_hasGoods 2 (some .boolean) { frames := 1, cells := 0, slots := 0, locals := 22 } [.ref (h0 0), .int p1] [gLd d h0 x0_lineCount x0_goodsCount x0_workCount x0_years x0_lines x0_goods x0_works x0_change x0_coin x0_knownFree x0_isKnown] (fun _ : Unit => (some (.int out), [gLd d h0 x0_lineCount x0_goodsCount x0_workCount x0_years x0_lines x0_goods x0_works x0_change x0_coin x0_knownFree x0_isKnown])) := by
  refine Ct.of (by decide) (Nat.le_of_ble_eq_true rfl) ?_
  intro Φ hl hK hR
  subst hl
  have hK : Ok d Φ RX1 "hasGoods" cX1_hasGoods 2 (some .boolean) { frames := 1, cells := 0, slots := 0, locals := 22 } := hK
  unfold fX1_hasGoods at hf
  have hf := un11 hf
  show J d Φ 2 [gLd d h0 x0_lineCount x0_goodsCount x0_workCount x0_years x0_lines x0_goods x0_works x0_change x0_coin x0_knownFree x0_isKnown] 0 0 0 [(0, .ref (h0 0)), (1, .int p1)] []
  refine J_iload_n hK qd0_54.1 rfl 1 rfl rfl ?_
  refine J_iconst (v := 0) hK qd0_54.2.1 rfl (by decide) ?_
  refine J_aload_n hK qd0_54.2.2.1 rfl 0 rfl rfl ?_
  refine J_get hK fo_RX1_34 qd0_54.2.2.2.1 rfl 0 0 rfl rfl rfl ?_
  refine J_iconst (v := 1) hK qd0_54.2.2.2.2.1 rfl (by decide) ?_
  refine J_isub hK qd0_54.2.2.2.2.2.1 rfl ?_
  obtain ⟨v1, e2, hf⟩ := bs hf
  refine J_callN (m := 1) (m' := 1) (ce' := 0) (sl' := 0) (gr := [gLd d h0 x0_lineCount x0_goodsCount x0_workCount x0_years x0_lines x0_goods x0_works x0_change x0_coin x0_knownFree x0_isKnown]) (gs' := fun _ => [gLd d h0 x0_lineCount x0_goodsCount x0_workCount x0_years x0_lines x0_goods x0_works x0_change x0_coin x0_knownFree x0_isKnown]) (st' := fun _ => [.int v1]) (st := []) hK qd0_54.2.2.2.2.2.2.1 cn_RX1_59 (As := [.int p1, .int (0), .int (x0_goodsCount - 1)]) (kX6_within _ d p1 (0) (x0_goodsCount - 1) e2) rfl rfl (Nat.le_of_ble_eq_true rfl) (by decide) [] [0] rfl (by decide +kernel) rfl rfl [0] (by decide +kernel) (fun _ => rfl) (fun _ => rfl) rfl rfl rfl (fun _ => rfl) (fun _ => ?_)
  obtain ⟨v3, ev3, hf⟩ := bs hf
  obtain rfl := Option.some.inj hf
  exact J_zret hK hR qd0_54.2.2.2.2.2.2.2.1 () (zb_ok ev3).2 (by rw [(zb_ok ev3).1]) (by decide) (by decide)

def fX1_addGoods (X0 : LdT) (p1 : Int32) (p2 : Int32) (p3 : Int32) : Option (Int32 × (Nat → Int32) × Int32) :=
  u11 (fun (x0_lineCount : Int32) (x0_goodsCount : Int32) (x0_workCount : Int32) (x0_years : Int32) (x0_lines : (Nat → Int32)) (x0_goods : (Nat → Int32)) (x0_works : (Nat → Int32)) (x0_change : (Nat → Int32)) (x0_coin : (Nat → Int32)) (x0_knownFree : (Nat → Int32)) (x0_isKnown : Int32) => if x0_goodsCount < 8 then ((wr 24 x0_goods ((x0_goodsCount * 3) + 0) p1).bind fun f1 => (wr 24 f1 ((x0_goodsCount * 3) + 1) p2).bind fun f2 => (wr 24 f2 ((x0_goodsCount * 3) + 2) p3).bind fun f3 => some ((x0_goodsCount + 1), f3, 0)) else (some (x0_goodsCount, x0_goods, x0_isKnown))) X0
set_option maxHeartbeats 4000000 in
set_option maxRecDepth 100000 in
theorem kX1_addGoods (l : Launch) (d : DT) (h0 : Nat → Nat) (x0_lineCount : Int32) (x0_goodsCount : Int32) (x0_workCount : Int32) (x0_years : Int32) (x0_lines : (Nat → Int32)) (x0_goods : (Nat → Int32)) (x0_works : (Nat → Int32)) (x0_change : (Nat → Int32)) (x0_coin : (Nat → Int32)) (x0_knownFree : (Nat → Int32)) (x0_isKnown : Int32) (p1 : Int32) (p2 : Int32) (p3 : Int32)  {out : Int32 × (Nat → Int32) × Int32} (hf : fX1_addGoods (x0_lineCount, x0_goodsCount, x0_workCount, x0_years, x0_lines, x0_goods, x0_works, x0_change, x0_coin, x0_knownFree, x0_isKnown) p1 p2 p3 = some out) : Ct l d yX1_addGoods cX1_addGoods 5 none { frames := 0, cells := 0, slots := 0, locals := 0 } [.ref (h0 0), .int p1, .int p2, .int p3] [gLd d h0 x0_lineCount x0_goodsCount x0_workCount x0_years x0_lines x0_goods x0_works x0_change x0_coin x0_knownFree x0_isKnown] (fun _ : Unit => (none, [gLd d h0 x0_lineCount (out.1) x0_workCount x0_years x0_lines (out.2.1) x0_works x0_change x0_coin x0_knownFree (out.2.2)])) := by
  refine Ct.of (by decide) (Nat.le_of_ble_eq_true rfl) ?_
  intro Φ hl hK hR
  subst hl
  have hK : Ok d Φ RX1 "addGoods" cX1_addGoods 5 none { frames := 0, cells := 0, slots := 0, locals := 0 } := hK
  unfold fX1_addGoods at hf
  have hf := un11 hf
  show J d Φ 5 [gLd d h0 x0_lineCount x0_goodsCount x0_workCount x0_years x0_lines x0_goods x0_works x0_change x0_coin x0_knownFree x0_isKnown] 0 0 0 [(0, .ref (h0 0)), (1, .int p1), (2, .int p2), (3, .int p3)] []
  refine J_aload_n hK qd0_69.1 rfl 0 rfl rfl ?_
  refine J_get hK fo_RX1_34 qd0_69.2.1 rfl 0 0 rfl rfl rfl ?_
  refine J_bipush (v := 8) hK qd0_69.2.2.1 rfl (by decide) ?_
  refine J_icmp_lt (tg := 10) hK qd0_69.2.2.2.1 rfl rfl (fun hc6 => ?_) (fun hc6 => ?_)
  · have hf := ip hc6 hf
    refine J_aload_n hK qd0_69.2.2.2.2.2.1 rfl 0 rfl rfl ?_
    refine J_get hK fo_RX1_34 qd0_69.2.2.2.2.2.2.1 rfl 0 0 rfl rfl rfl ?_
    refine J_iconst (v := 3) hK qd0_69.2.2.2.2.2.2.2.1 rfl (by decide) ?_
    refine J_imul hK qd0_69.2.2.2.2.2.2.2.2.1 rfl ?_
    refine J_istore (L' := [(4, .int (x0_goodsCount * 3)), (0, .ref (h0 0)), (1, .int p1), (2, .int p2), (3, .int p3)]) hK qd0_69.2.2.2.2.2.2.2.2.2.1 rfl (by decide) rfl ?_
    refine J_aload_n hK qd0_69.2.2.2.2.2.2.2.2.2.2.1 rfl 1 rfl rfl ?_
    refine J_get hK fo_RX1_15 qd0_69.2.2.2.2.2.2.2.2.2.2.2.1 rfl 0 0 rfl rfl rfl ?_
    refine J_iload hK qd0_69.2.2.2.2.2.2.2.2.2.2.2.2.1 rfl 0 rfl ?_
    refine J_iconst (v := 0) hK qd0_69.2.2.2.2.2.2.2.2.2.2.2.2.2.1 rfl (by decide) ?_
    refine J_iadd hK qd0_69.2.2.2.2.2.2.2.2.2.2.2.2.2.2.1 rfl ?_
    refine J_iload_n hK qd0_69.2.2.2.2.2.2.2.2.2.2.2.2.2.2.2.1 rfl 2 rfl rfl ?_
    obtain ⟨f1, ef1, hf⟩ := bs hf
    refine J_iast (g' := gLd d h0 x0_lineCount x0_goodsCount x0_workCount x0_years x0_lines f1 x0_works x0_change x0_coin x0_knownFree x0_isKnown) (gs' := [gLd d h0 x0_lineCount x0_goodsCount x0_workCount x0_years x0_lines f1 x0_works x0_change x0_coin x0_knownFree x0_isKnown]) hK qd0_70.1 rfl 0 2 rfl rfl ef1 rfl rfl ?_
    refine J_aload_n hK qd0_70.2.1 rfl 1 rfl rfl ?_
    refine J_get hK fo_RX1_15 qd0_70.2.2.1 rfl 0 0 rfl rfl rfl ?_
    refine J_iload hK qd0_70.2.2.2.1 rfl 0 rfl ?_
    refine J_iconst (v := 1) hK qd0_70.2.2.2.2.1 rfl (by decide) ?_
    refine J_iadd hK qd0_70.2.2.2.2.2.1 rfl ?_
    refine J_iload_n hK qd0_70.2.2.2.2.2.2.1 rfl 3 rfl rfl ?_
    obtain ⟨f2, ef2, hf⟩ := bs hf
    refine J_iast (g' := gLd d h0 x0_lineCount x0_goodsCount x0_workCount x0_years x0_lines f2 x0_works x0_change x0_coin x0_knownFree x0_isKnown) (gs' := [gLd d h0 x0_lineCount x0_goodsCount x0_workCount x0_years x0_lines f2 x0_works x0_change x0_coin x0_knownFree x0_isKnown]) hK qd0_70.2.2.2.2.2.2.2.1 rfl 0 2 rfl rfl ef2 rfl rfl ?_
    refine J_aload_n hK qd0_70.2.2.2.2.2.2.2.2.1 rfl 1 rfl rfl ?_
    refine J_get hK fo_RX1_15 qd0_70.2.2.2.2.2.2.2.2.2.1 rfl 0 0 rfl rfl rfl ?_
    refine J_iload hK qd0_70.2.2.2.2.2.2.2.2.2.2.1 rfl 0 rfl ?_
    refine J_iconst (v := 2) hK qd0_70.2.2.2.2.2.2.2.2.2.2.2.1 rfl (by decide) ?_
    refine J_iadd hK qd0_70.2.2.2.2.2.2.2.2.2.2.2.2.1 rfl ?_
    refine J_iload_n hK qd0_70.2.2.2.2.2.2.2.2.2.2.2.2.2.1 rfl 4 rfl rfl ?_
    obtain ⟨f3, ef3, hf⟩ := bs hf
    refine J_iast (g' := gLd d h0 x0_lineCount x0_goodsCount x0_workCount x0_years x0_lines f3 x0_works x0_change x0_coin x0_knownFree x0_isKnown) (gs' := [gLd d h0 x0_lineCount x0_goodsCount x0_workCount x0_years x0_lines f3 x0_works x0_change x0_coin x0_knownFree x0_isKnown]) hK qd0_70.2.2.2.2.2.2.2.2.2.2.2.2.2.2.1 rfl 0 2 rfl rfl ef3 rfl rfl ?_
    refine J_aload_n hK qd0_70.2.2.2.2.2.2.2.2.2.2.2.2.2.2.2.1 rfl 1 rfl rfl ?_
    refine J_dup hK qd0_71.1 rfl rfl ?_
    refine J_get hK fo_RX1_34 qd0_71.2.1 rfl 0 0 rfl rfl rfl ?_
    refine J_iconst (v := 1) hK qd0_71.2.2.1 rfl (by decide) ?_
    refine J_iadd hK qd0_71.2.2.2.1 rfl ?_
    refine J_put (g' := gLd d h0 x0_lineCount (x0_goodsCount + 1) x0_workCount x0_years x0_lines f3 x0_works x0_change x0_coin x0_knownFree x0_isKnown) (gs' := [gLd d h0 x0_lineCount (x0_goodsCount + 1) x0_workCount x0_years x0_lines f3 x0_works x0_change x0_coin x0_knownFree x0_isKnown]) hK fp_RX1_34 qd0_71.2.2.2.2.1 rfl 0 0 rfl rfl rfl rfl (Nat.le_of_ble_eq_true rfl) rfl rfl ?_
    refine J_aload_n hK qd0_71.2.2.2.2.2.1 rfl 1 rfl rfl ?_
    refine J_iconst (v := 0) hK qd0_71.2.2.2.2.2.2.1 rfl (by decide) ?_
    refine J_put (g' := gLd d h0 x0_lineCount (x0_goodsCount + 1) x0_workCount x0_years x0_lines f3 x0_works x0_change x0_coin x0_knownFree (0)) (gs' := [gLd d h0 x0_lineCount (x0_goodsCount + 1) x0_workCount x0_years x0_lines f3 x0_works x0_change x0_coin x0_knownFree (0)]) hK fp_RX1_43 qd0_71.2.2.2.2.2.2.2.1 rfl 0 0 rfl rfl rfl rfl (Nat.le_of_ble_eq_true rfl) rfl rfl ?_
    obtain rfl := Option.some.inj hf
    exact J_vret hK hR qd0_71.2.2.2.2.2.2.2.2.1 () rfl (by decide) (by decide)
  · have hf := iq hc6 hf
    obtain rfl := Option.some.inj hf
    exact J_vret hK hR qd0_69.2.2.2.2.1 () rfl (by decide) (by decide)

def fX1_addWork (X0 : LdT) (p1 : Int32) (p2 : Int32) (p3 : Int32) (p4 : Int32) : Option (Int32 × (Nat → Int32) × Int32) :=
  u11 (fun (x0_lineCount : Int32) (x0_goodsCount : Int32) (x0_workCount : Int32) (x0_years : Int32) (x0_lines : (Nat → Int32)) (x0_goods : (Nat → Int32)) (x0_works : (Nat → Int32)) (x0_change : (Nat → Int32)) (x0_coin : (Nat → Int32)) (x0_knownFree : (Nat → Int32)) (x0_isKnown : Int32) => if x0_workCount < 7 then ((wr 35 x0_works ((x0_workCount * 5) + 0) p1).bind fun f1 => (wr 35 f1 ((x0_workCount * 5) + 1) p2).bind fun f2 => (wr 35 f2 ((x0_workCount * 5) + 2) p3).bind fun f3 => (wr 35 f3 ((x0_workCount * 5) + 3) p4).bind fun f4 => (wr 35 f4 ((x0_workCount * 5) + 4) (0)).bind fun f5 => some ((x0_workCount + 1), f5, 0)) else (some (x0_workCount, x0_works, x0_isKnown))) X0
set_option maxHeartbeats 4000000 in
set_option maxRecDepth 100000 in
theorem kX1_addWork (l : Launch) (d : DT) (h0 : Nat → Nat) (x0_lineCount : Int32) (x0_goodsCount : Int32) (x0_workCount : Int32) (x0_years : Int32) (x0_lines : (Nat → Int32)) (x0_goods : (Nat → Int32)) (x0_works : (Nat → Int32)) (x0_change : (Nat → Int32)) (x0_coin : (Nat → Int32)) (x0_knownFree : (Nat → Int32)) (x0_isKnown : Int32) (p1 : Int32) (p2 : Int32) (p3 : Int32) (p4 : Int32)  {out : Int32 × (Nat → Int32) × Int32} (hf : fX1_addWork (x0_lineCount, x0_goodsCount, x0_workCount, x0_years, x0_lines, x0_goods, x0_works, x0_change, x0_coin, x0_knownFree, x0_isKnown) p1 p2 p3 p4 = some out) : Ct l d yX1_addWork cX1_addWork 6 none { frames := 0, cells := 0, slots := 0, locals := 0 } [.ref (h0 0), .int p1, .int p2, .int p3, .int p4] [gLd d h0 x0_lineCount x0_goodsCount x0_workCount x0_years x0_lines x0_goods x0_works x0_change x0_coin x0_knownFree x0_isKnown] (fun _ : Unit => (none, [gLd d h0 x0_lineCount x0_goodsCount (out.1) x0_years x0_lines x0_goods (out.2.1) x0_change x0_coin x0_knownFree (out.2.2)])) := by
  refine Ct.of (by decide) (Nat.le_of_ble_eq_true rfl) ?_
  intro Φ hl hK hR
  subst hl
  have hK : Ok d Φ RX1 "addWork" cX1_addWork 6 none { frames := 0, cells := 0, slots := 0, locals := 0 } := hK
  unfold fX1_addWork at hf
  have hf := un11 hf
  show J d Φ 6 [gLd d h0 x0_lineCount x0_goodsCount x0_workCount x0_years x0_lines x0_goods x0_works x0_change x0_coin x0_knownFree x0_isKnown] 0 0 0 [(0, .ref (h0 0)), (1, .int p1), (2, .int p2), (3, .int p3), (4, .int p4)] []
  refine J_aload_n hK qd0_72.1 rfl 0 rfl rfl ?_
  refine J_get hK fo_RX1_37 qd0_72.2.1 rfl 0 0 rfl rfl rfl ?_
  refine J_bipush (v := 7) hK qd0_72.2.2.1 rfl (by decide) ?_
  refine J_icmp_lt (tg := 10) hK qd0_72.2.2.2.1 rfl rfl (fun hc6 => ?_) (fun hc6 => ?_)
  · have hf := ip hc6 hf
    refine J_aload_n hK qd0_72.2.2.2.2.2.1 rfl 0 rfl rfl ?_
    refine J_get hK fo_RX1_37 qd0_72.2.2.2.2.2.2.1 rfl 0 0 rfl rfl rfl ?_
    refine J_iconst (v := 5) hK qd0_72.2.2.2.2.2.2.2.1 rfl (by decide) ?_
    refine J_imul hK qd0_72.2.2.2.2.2.2.2.2.1 rfl ?_
    refine J_istore (L' := [(5, .int (x0_workCount * 5)), (0, .ref (h0 0)), (1, .int p1), (2, .int p2), (3, .int p3), (4, .int p4)]) hK qd0_72.2.2.2.2.2.2.2.2.2.1 rfl (by decide) rfl ?_
    refine J_aload_n hK qd0_72.2.2.2.2.2.2.2.2.2.2.1 rfl 1 rfl rfl ?_
    refine J_get hK fo_RX1_18 qd0_72.2.2.2.2.2.2.2.2.2.2.2.1 rfl 0 0 rfl rfl rfl ?_
    refine J_iload hK qd0_72.2.2.2.2.2.2.2.2.2.2.2.2.1 rfl 0 rfl ?_
    refine J_iconst (v := 0) hK qd0_72.2.2.2.2.2.2.2.2.2.2.2.2.2.1 rfl (by decide) ?_
    refine J_iadd hK qd0_72.2.2.2.2.2.2.2.2.2.2.2.2.2.2.1 rfl ?_
    refine J_iload_n hK qd0_72.2.2.2.2.2.2.2.2.2.2.2.2.2.2.2.1 rfl 2 rfl rfl ?_
    obtain ⟨f1, ef1, hf⟩ := bs hf
    refine J_iast (g' := gLd d h0 x0_lineCount x0_goodsCount x0_workCount x0_years x0_lines x0_goods f1 x0_change x0_coin x0_knownFree x0_isKnown) (gs' := [gLd d h0 x0_lineCount x0_goodsCount x0_workCount x0_years x0_lines x0_goods f1 x0_change x0_coin x0_knownFree x0_isKnown]) hK qd0_73.1 rfl 0 3 rfl rfl ef1 rfl rfl ?_
    refine J_aload_n hK qd0_73.2.1 rfl 1 rfl rfl ?_
    refine J_get hK fo_RX1_18 qd0_73.2.2.1 rfl 0 0 rfl rfl rfl ?_
    refine J_iload hK qd0_73.2.2.2.1 rfl 0 rfl ?_
    refine J_iconst (v := 1) hK qd0_73.2.2.2.2.1 rfl (by decide) ?_
    refine J_iadd hK qd0_73.2.2.2.2.2.1 rfl ?_
    refine J_iload_n hK qd0_73.2.2.2.2.2.2.1 rfl 3 rfl rfl ?_
    obtain ⟨f2, ef2, hf⟩ := bs hf
    refine J_iast (g' := gLd d h0 x0_lineCount x0_goodsCount x0_workCount x0_years x0_lines x0_goods f2 x0_change x0_coin x0_knownFree x0_isKnown) (gs' := [gLd d h0 x0_lineCount x0_goodsCount x0_workCount x0_years x0_lines x0_goods f2 x0_change x0_coin x0_knownFree x0_isKnown]) hK qd0_73.2.2.2.2.2.2.2.1 rfl 0 3 rfl rfl ef2 rfl rfl ?_
    refine J_aload_n hK qd0_73.2.2.2.2.2.2.2.2.1 rfl 1 rfl rfl ?_
    refine J_get hK fo_RX1_18 qd0_73.2.2.2.2.2.2.2.2.2.1 rfl 0 0 rfl rfl rfl ?_
    refine J_iload hK qd0_73.2.2.2.2.2.2.2.2.2.2.1 rfl 0 rfl ?_
    refine J_iconst (v := 2) hK qd0_73.2.2.2.2.2.2.2.2.2.2.2.1 rfl (by decide) ?_
    refine J_iadd hK qd0_73.2.2.2.2.2.2.2.2.2.2.2.2.1 rfl ?_
    refine J_iload_n hK qd0_73.2.2.2.2.2.2.2.2.2.2.2.2.2.1 rfl 4 rfl rfl ?_
    obtain ⟨f3, ef3, hf⟩ := bs hf
    refine J_iast (g' := gLd d h0 x0_lineCount x0_goodsCount x0_workCount x0_years x0_lines x0_goods f3 x0_change x0_coin x0_knownFree x0_isKnown) (gs' := [gLd d h0 x0_lineCount x0_goodsCount x0_workCount x0_years x0_lines x0_goods f3 x0_change x0_coin x0_knownFree x0_isKnown]) hK qd0_73.2.2.2.2.2.2.2.2.2.2.2.2.2.2.1 rfl 0 3 rfl rfl ef3 rfl rfl ?_
    refine J_aload_n hK qd0_73.2.2.2.2.2.2.2.2.2.2.2.2.2.2.2.1 rfl 1 rfl rfl ?_
    refine J_get hK fo_RX1_18 qd0_74.1 rfl 0 0 rfl rfl rfl ?_
    refine J_iload hK qd0_74.2.1 rfl 0 rfl ?_
    refine J_iconst (v := 3) hK qd0_74.2.2.1 rfl (by decide) ?_
    refine J_iadd hK qd0_74.2.2.2.1 rfl ?_
    refine J_iload hK qd0_74.2.2.2.2.1 rfl 5 rfl ?_
    obtain ⟨f4, ef4, hf⟩ := bs hf
    refine J_iast (g' := gLd d h0 x0_lineCount x0_goodsCount x0_workCount x0_years x0_lines x0_goods f4 x0_change x0_coin x0_knownFree x0_isKnown) (gs' := [gLd d h0 x0_lineCount x0_goodsCount x0_workCount x0_years x0_lines x0_goods f4 x0_change x0_coin x0_knownFree x0_isKnown]) hK qd0_74.2.2.2.2.2.1 rfl 0 3 rfl rfl ef4 rfl rfl ?_
    refine J_aload_n hK qd0_74.2.2.2.2.2.2.1 rfl 1 rfl rfl ?_
    refine J_get hK fo_RX1_18 qd0_74.2.2.2.2.2.2.2.1 rfl 0 0 rfl rfl rfl ?_
    refine J_iload hK qd0_74.2.2.2.2.2.2.2.2.1 rfl 0 rfl ?_
    refine J_iconst (v := 4) hK qd0_74.2.2.2.2.2.2.2.2.2.1 rfl (by decide) ?_
    refine J_iadd hK qd0_74.2.2.2.2.2.2.2.2.2.2.1 rfl ?_
    refine J_iconst (v := 0) hK qd0_74.2.2.2.2.2.2.2.2.2.2.2.1 rfl (by decide) ?_
    obtain ⟨f5, ef5, hf⟩ := bs hf
    refine J_iast (g' := gLd d h0 x0_lineCount x0_goodsCount x0_workCount x0_years x0_lines x0_goods f5 x0_change x0_coin x0_knownFree x0_isKnown) (gs' := [gLd d h0 x0_lineCount x0_goodsCount x0_workCount x0_years x0_lines x0_goods f5 x0_change x0_coin x0_knownFree x0_isKnown]) hK qd0_74.2.2.2.2.2.2.2.2.2.2.2.2.1 rfl 0 3 rfl rfl ef5 rfl rfl ?_
    refine J_aload_n hK qd0_74.2.2.2.2.2.2.2.2.2.2.2.2.2.1 rfl 1 rfl rfl ?_
    refine J_dup hK qd0_74.2.2.2.2.2.2.2.2.2.2.2.2.2.2.1 rfl rfl ?_
    refine J_get hK fo_RX1_37 qd0_74.2.2.2.2.2.2.2.2.2.2.2.2.2.2.2.1 rfl 0 0 rfl rfl rfl ?_
    refine J_iconst (v := 1) hK qd0_75.1 rfl (by decide) ?_
    refine J_iadd hK qd0_75.2.1 rfl ?_
    refine J_put (g' := gLd d h0 x0_lineCount x0_goodsCount (x0_workCount + 1) x0_years x0_lines x0_goods f5 x0_change x0_coin x0_knownFree x0_isKnown) (gs' := [gLd d h0 x0_lineCount x0_goodsCount (x0_workCount + 1) x0_years x0_lines x0_goods f5 x0_change x0_coin x0_knownFree x0_isKnown]) hK fp_RX1_37 qd0_75.2.2.1 rfl 0 0 rfl rfl rfl rfl (Nat.le_of_ble_eq_true rfl) rfl rfl ?_
    refine J_aload_n hK qd0_75.2.2.2.1 rfl 1 rfl rfl ?_
    refine J_iconst (v := 0) hK qd0_75.2.2.2.2.1 rfl (by decide) ?_
    refine J_put (g' := gLd d h0 x0_lineCount x0_goodsCount (x0_workCount + 1) x0_years x0_lines x0_goods f5 x0_change x0_coin x0_knownFree (0)) (gs' := [gLd d h0 x0_lineCount x0_goodsCount (x0_workCount + 1) x0_years x0_lines x0_goods f5 x0_change x0_coin x0_knownFree (0)]) hK fp_RX1_43 qd0_75.2.2.2.2.2.1 rfl 0 0 rfl rfl rfl rfl (Nat.le_of_ble_eq_true rfl) rfl rfl ?_
    obtain rfl := Option.some.inj hf
    exact J_vret hK hR qd0_75.2.2.2.2.2.2.1 () rfl (by decide) (by decide)
  · have hf := iq hc6 hf
    obtain rfl := Option.some.inj hf
    exact J_vret hK hR qd0_72.2.2.2.2.1 () rfl (by decide) (by decide)

def fX1_putCoin (X0 : LdT) (p1 : Int32) (p2 : Int32) : Option ((Nat → Int32) × Int32) :=
  u11 (fun (x0_lineCount : Int32) (x0_goodsCount : Int32) (x0_workCount : Int32) (x0_years : Int32) (x0_lines : (Nat → Int32)) (x0_goods : (Nat → Int32)) (x0_works : (Nat → Int32)) (x0_change : (Nat → Int32)) (x0_coin : (Nat → Int32)) (x0_knownFree : (Nat → Int32)) (x0_isKnown : Int32) => if p1 < 0 then (some (x0_coin, x0_isKnown)) else (if 3 ≤ p1 then (some (x0_coin, x0_isKnown)) else ((wr 3 x0_coin p1 p2).bind fun f1 => some (f1, 0)))) X0
set_option maxHeartbeats 4000000 in
set_option maxRecDepth 100000 in
theorem kX1_putCoin (l : Launch) (d : DT) (h0 : Nat → Nat) (x0_lineCount : Int32) (x0_goodsCount : Int32) (x0_workCount : Int32) (x0_years : Int32) (x0_lines : (Nat → Int32)) (x0_goods : (Nat → Int32)) (x0_works : (Nat → Int32)) (x0_change : (Nat → Int32)) (x0_coin : (Nat → Int32)) (x0_knownFree : (Nat → Int32)) (x0_isKnown : Int32) (p1 : Int32) (p2 : Int32)  {out : (Nat → Int32) × Int32} (hf : fX1_putCoin (x0_lineCount, x0_goodsCount, x0_workCount, x0_years, x0_lines, x0_goods, x0_works, x0_change, x0_coin, x0_knownFree, x0_isKnown) p1 p2 = some out) : Ct l d yX1_putCoin cX1_putCoin 3 none { frames := 0, cells := 0, slots := 0, locals := 0 } [.ref (h0 0), .int p1, .int p2] [gLd d h0 x0_lineCount x0_goodsCount x0_workCount x0_years x0_lines x0_goods x0_works x0_change x0_coin x0_knownFree x0_isKnown] (fun _ : Unit => (none, [gLd d h0 x0_lineCount x0_goodsCount x0_workCount x0_years x0_lines x0_goods x0_works x0_change (out.1) x0_knownFree (out.2)])) := by
  refine Ct.of (by decide) (Nat.le_of_ble_eq_true rfl) ?_
  intro Φ hl hK hR
  subst hl
  have hK : Ok d Φ RX1 "putCoin" cX1_putCoin 3 none { frames := 0, cells := 0, slots := 0, locals := 0 } := hK
  unfold fX1_putCoin at hf
  have hf := un11 hf
  show J d Φ 3 [gLd d h0 x0_lineCount x0_goodsCount x0_workCount x0_years x0_lines x0_goods x0_works x0_change x0_coin x0_knownFree x0_isKnown] 0 0 0 [(0, .ref (h0 0)), (1, .int p1), (2, .int p2)] []
  refine J_iload_n hK qd0_77.1 rfl 1 rfl rfl ?_
  refine J_if_lt (tg := 21) hK qd0_77.2.1 rfl rfl (fun hc1 => ?_) (fun hc1 => ?_)
  · have hf := ip hc1 hf
    obtain rfl := Option.some.inj hf
    exact J_vret hK hR qd0_77.2.2.2.2.2.2.2.2.2.2.2.2.2.1 () rfl (by decide) (by decide)
  · have hf := iq hc1 hf
    refine J_iload_n hK qd0_77.2.2.1 rfl 1 rfl rfl ?_
    refine J_iconst (v := 3) hK qd0_77.2.2.2.1 rfl (by decide) ?_
    refine J_icmp_ge (tg := 21) hK qd0_77.2.2.2.2.1 rfl rfl (fun hc6 => ?_) (fun hc6 => ?_)
    · have hf := ip hc6 hf
      obtain rfl := Option.some.inj hf
      exact J_vret hK hR qd0_77.2.2.2.2.2.2.2.2.2.2.2.2.2.1 () rfl (by decide) (by decide)
    · have hf := iq hc6 hf
      refine J_aload_n hK qd0_77.2.2.2.2.2.1 rfl 0 rfl rfl ?_
      refine J_get hK fo_RX1_24 qd0_77.2.2.2.2.2.2.1 rfl 0 0 rfl rfl rfl ?_
      refine J_iload_n hK qd0_77.2.2.2.2.2.2.2.1 rfl 1 rfl rfl ?_
      refine J_iload_n hK qd0_77.2.2.2.2.2.2.2.2.1 rfl 2 rfl rfl ?_
      obtain ⟨f1, ef1, hf⟩ := bs hf
      refine J_iast (g' := gLd d h0 x0_lineCount x0_goodsCount x0_workCount x0_years x0_lines x0_goods x0_works x0_change f1 x0_knownFree x0_isKnown) (gs' := [gLd d h0 x0_lineCount x0_goodsCount x0_workCount x0_years x0_lines x0_goods x0_works x0_change f1 x0_knownFree x0_isKnown]) hK qd0_77.2.2.2.2.2.2.2.2.2.1 rfl 0 5 rfl rfl ef1 rfl rfl ?_
      refine J_aload_n hK qd0_77.2.2.2.2.2.2.2.2.2.2.1 rfl 0 rfl rfl ?_
      refine J_iconst (v := 0) hK qd0_77.2.2.2.2.2.2.2.2.2.2.2.1 rfl (by decide) ?_
      refine J_put (g' := gLd d h0 x0_lineCount x0_goodsCount x0_workCount x0_years x0_lines x0_goods x0_works x0_change f1 x0_knownFree (0)) (gs' := [gLd d h0 x0_lineCount x0_goodsCount x0_workCount x0_years x0_lines x0_goods x0_works x0_change f1 x0_knownFree (0)]) hK fp_RX1_43 qd0_77.2.2.2.2.2.2.2.2.2.2.2.2.1 rfl 0 0 rfl rfl rfl rfl (Nat.le_of_ble_eq_true rfl) rfl rfl ?_
      obtain rfl := Option.some.inj hf
      exact J_vret hK hR qd0_77.2.2.2.2.2.2.2.2.2.2.2.2.2.1 () rfl (by decide) (by decide)

def fX1_putWashed (X0 : LdT) (p1 : Int32) (p2 : Int32) : Option ((Nat → Int32) × Int32) :=
  u11 (fun (x0_lineCount : Int32) (x0_goodsCount : Int32) (x0_workCount : Int32) (x0_years : Int32) (x0_lines : (Nat → Int32)) (x0_goods : (Nat → Int32)) (x0_works : (Nat → Int32)) (x0_change : (Nat → Int32)) (x0_coin : (Nat → Int32)) (x0_knownFree : (Nat → Int32)) (x0_isKnown : Int32) => if p1 < 0 then (some (x0_lines, x0_isKnown)) else (if x0_lineCount ≤ p1 then (some (x0_lines, x0_isKnown)) else ((wr 140 x0_lines ((p1 * 7) + 6) p2).bind fun f1 => some (f1, 0)))) X0
set_option maxHeartbeats 4000000 in
set_option maxRecDepth 100000 in
theorem kX1_putWashed (l : Launch) (d : DT) (h0 : Nat → Nat) (x0_lineCount : Int32) (x0_goodsCount : Int32) (x0_workCount : Int32) (x0_years : Int32) (x0_lines : (Nat → Int32)) (x0_goods : (Nat → Int32)) (x0_works : (Nat → Int32)) (x0_change : (Nat → Int32)) (x0_coin : (Nat → Int32)) (x0_knownFree : (Nat → Int32)) (x0_isKnown : Int32) (p1 : Int32) (p2 : Int32)  {out : (Nat → Int32) × Int32} (hf : fX1_putWashed (x0_lineCount, x0_goodsCount, x0_workCount, x0_years, x0_lines, x0_goods, x0_works, x0_change, x0_coin, x0_knownFree, x0_isKnown) p1 p2 = some out) : Ct l d yX1_putWashed cX1_putWashed 3 none { frames := 0, cells := 0, slots := 0, locals := 0 } [.ref (h0 0), .int p1, .int p2] [gLd d h0 x0_lineCount x0_goodsCount x0_workCount x0_years x0_lines x0_goods x0_works x0_change x0_coin x0_knownFree x0_isKnown] (fun _ : Unit => (none, [gLd d h0 x0_lineCount x0_goodsCount x0_workCount x0_years (out.1) x0_goods x0_works x0_change x0_coin x0_knownFree (out.2)])) := by
  refine Ct.of (by decide) (Nat.le_of_ble_eq_true rfl) ?_
  intro Φ hl hK hR
  subst hl
  have hK : Ok d Φ RX1 "putWashed" cX1_putWashed 3 none { frames := 0, cells := 0, slots := 0, locals := 0 } := hK
  unfold fX1_putWashed at hf
  have hf := un11 hf
  show J d Φ 3 [gLd d h0 x0_lineCount x0_goodsCount x0_workCount x0_years x0_lines x0_goods x0_works x0_change x0_coin x0_knownFree x0_isKnown] 0 0 0 [(0, .ref (h0 0)), (1, .int p1), (2, .int p2)] []
  refine J_iload_n hK qd0_78.1 rfl 1 rfl rfl ?_
  refine J_if_lt (tg := 30) hK qd0_78.2.1 rfl rfl (fun hc1 => ?_) (fun hc1 => ?_)
  · have hf := ip hc1 hf
    obtain rfl := Option.some.inj hf
    exact J_vret hK hR qd0_79.2.2.1 () rfl (by decide) (by decide)
  · have hf := iq hc1 hf
    refine J_iload_n hK qd0_78.2.2.1 rfl 1 rfl rfl ?_
    refine J_aload_n hK qd0_78.2.2.2.1 rfl 0 rfl rfl ?_
    refine J_get hK fo_RX1_30 qd0_78.2.2.2.2.1 rfl 0 0 rfl rfl rfl ?_
    refine J_icmp_ge (tg := 30) hK qd0_78.2.2.2.2.2.1 rfl rfl (fun hc9 => ?_) (fun hc9 => ?_)
    · have hf := ip hc9 hf
      obtain rfl := Option.some.inj hf
      exact J_vret hK hR qd0_79.2.2.1 () rfl (by decide) (by decide)
    · have hf := iq hc9 hf
      refine J_aload_n hK qd0_78.2.2.2.2.2.2.1 rfl 0 rfl rfl ?_
      refine J_get hK fo_RX1_9 qd0_78.2.2.2.2.2.2.2.1 rfl 0 0 rfl rfl rfl ?_
      refine J_iload_n hK qd0_78.2.2.2.2.2.2.2.2.1 rfl 1 rfl rfl ?_
      refine J_bipush (v := 7) hK qd0_78.2.2.2.2.2.2.2.2.2.1 rfl (by decide) ?_
      refine J_imul hK qd0_78.2.2.2.2.2.2.2.2.2.2.1 rfl ?_
      refine J_bipush (v := 6) hK qd0_78.2.2.2.2.2.2.2.2.2.2.2.1 rfl (by decide) ?_
      refine J_iadd hK qd0_78.2.2.2.2.2.2.2.2.2.2.2.2.1 rfl ?_
      refine J_iload_n hK qd0_78.2.2.2.2.2.2.2.2.2.2.2.2.2.1 rfl 2 rfl rfl ?_
      obtain ⟨f1, ef1, hf⟩ := bs hf
      refine J_iast (g' := gLd d h0 x0_lineCount x0_goodsCount x0_workCount x0_years f1 x0_goods x0_works x0_change x0_coin x0_knownFree x0_isKnown) (gs' := [gLd d h0 x0_lineCount x0_goodsCount x0_workCount x0_years f1 x0_goods x0_works x0_change x0_coin x0_knownFree x0_isKnown]) hK qd0_78.2.2.2.2.2.2.2.2.2.2.2.2.2.2.1 rfl 0 1 rfl rfl ef1 rfl rfl ?_
      refine J_aload_n hK qd0_78.2.2.2.2.2.2.2.2.2.2.2.2.2.2.2.1 rfl 0 rfl rfl ?_
      refine J_iconst (v := 0) hK qd0_79.1 rfl (by decide) ?_
      refine J_put (g' := gLd d h0 x0_lineCount x0_goodsCount x0_workCount x0_years f1 x0_goods x0_works x0_change x0_coin x0_knownFree (0)) (gs' := [gLd d h0 x0_lineCount x0_goodsCount x0_workCount x0_years f1 x0_goods x0_works x0_change x0_coin x0_knownFree (0)]) hK fp_RX1_43 qd0_79.2.1 rfl 0 0 rfl rfl rfl rfl (Nat.le_of_ble_eq_true rfl) rfl rfl ?_
      obtain rfl := Option.some.inj hf
      exact J_vret hK hR qd0_79.2.2.1 () rfl (by decide) (by decide)

def fX1_greatestA (X0 : LdT) (p1 : Int32) : Option (Int32) :=
  u11 (fun (x0_lineCount : Int32) (x0_goodsCount : Int32) (x0_workCount : Int32) (x0_years : Int32) (x0_lines : (Nat → Int32)) (x0_goods : (Nat → Int32)) (x0_works : (Nat → Int32)) (x0_change : (Nat → Int32)) (x0_coin : (Nat → Int32)) (x0_knownFree : (Nat → Int32)) (x0_isKnown : Int32) => if p1 = 1 then (some (x0_lineCount - 1)) else (if p1 = 2 then (some (x0_lineCount - 1)) else (some (11)))) X0
set_option maxHeartbeats 4000000 in
set_option maxRecDepth 100000 in
theorem kX1_greatestA (l : Launch) (d : DT) (h0 : Nat → Nat) (x0_lineCount : Int32) (x0_goodsCount : Int32) (x0_workCount : Int32) (x0_years : Int32) (x0_lines : (Nat → Int32)) (x0_goods : (Nat → Int32)) (x0_works : (Nat → Int32)) (x0_change : (Nat → Int32)) (x0_coin : (Nat → Int32)) (x0_knownFree : (Nat → Int32)) (x0_isKnown : Int32) (p1 : Int32)  {out : Int32} (hf : fX1_greatestA (x0_lineCount, x0_goodsCount, x0_workCount, x0_years, x0_lines, x0_goods, x0_works, x0_change, x0_coin, x0_knownFree, x0_isKnown) p1 = some out) : Ct l d yX1_greatestA cX1_greatestA 2 (some .int) { frames := 0, cells := 0, slots := 0, locals := 0 } [.ref (h0 0), .int p1] [gLd d h0 x0_lineCount x0_goodsCount x0_workCount x0_years x0_lines x0_goods x0_works x0_change x0_coin x0_knownFree x0_isKnown] (fun _ : Unit => (some (.int out), [gLd d h0 x0_lineCount x0_goodsCount x0_workCount x0_years x0_lines x0_goods x0_works x0_change x0_coin x0_knownFree x0_isKnown])) := by
  refine Ct.of (by decide) (Nat.le_of_ble_eq_true rfl) ?_
  intro Φ hl hK hR
  subst hl
  have hK : Ok d Φ RX1 "greatestA" cX1_greatestA 2 (some .int) { frames := 0, cells := 0, slots := 0, locals := 0 } := hK
  unfold fX1_greatestA at hf
  have hf := un11 hf
  show J d Φ 2 [gLd d h0 x0_lineCount x0_goodsCount x0_workCount x0_years x0_lines x0_goods x0_works x0_change x0_coin x0_knownFree x0_isKnown] 0 0 0 [(0, .ref (h0 0)), (1, .int p1)] []
  refine J_iload_n hK qd0_82.1 rfl 1 rfl rfl ?_
  refine J_iconst (v := 1) hK qd0_82.2.1 rfl (by decide) ?_
  refine J_icmp_eq (tg := 10) hK qd0_82.2.2.1 rfl rfl (fun hc2 => ?_) (fun hc2 => ?_)
  · have hf := ip hc2 hf
    refine J_aload_n hK qd0_82.2.2.2.2.2.2.1 rfl 0 rfl rfl ?_
    refine J_get hK fo_RX1_30 qd0_82.2.2.2.2.2.2.2.1 rfl 0 0 rfl rfl rfl ?_
    refine J_iconst (v := 1) hK qd0_82.2.2.2.2.2.2.2.2.1 rfl (by decide) ?_
    refine J_isub hK qd0_82.2.2.2.2.2.2.2.2.2.1 rfl ?_
    refine J_goto hK qd0_82.2.2.2.2.2.2.2.2.2.2.1 (n := 21) rfl ?_
    obtain rfl := Option.some.inj hf
    exact J_iret hK hR qd0_82.2.2.2.2.2.2.2.2.2.2.2.2.1 () rfl (by decide) (by decide)
  · have hf := iq hc2 hf
    refine J_iload_n hK qd0_82.2.2.2.1 rfl 1 rfl rfl ?_
    refine J_iconst (v := 2) hK qd0_82.2.2.2.2.1 rfl (by decide) ?_
    refine J_icmp_ne (tg := 19) hK qd0_82.2.2.2.2.2.1 rfl rfl (fun hc7 => ?_) (fun hc7 => ?_)
    · have hf := iq hc7 hf
      refine J_bipush (v := 11) hK qd0_82.2.2.2.2.2.2.2.2.2.2.2.1 rfl (by decide) ?_
      obtain rfl := Option.some.inj hf
      exact J_iret hK hR qd0_82.2.2.2.2.2.2.2.2.2.2.2.2.1 () rfl (by decide) (by decide)
    · have hf := ip hc7 hf
      refine J_aload_n hK qd0_82.2.2.2.2.2.2.1 rfl 0 rfl rfl ?_
      refine J_get hK fo_RX1_30 qd0_82.2.2.2.2.2.2.2.1 rfl 0 0 rfl rfl rfl ?_
      refine J_iconst (v := 1) hK qd0_82.2.2.2.2.2.2.2.2.1 rfl (by decide) ?_
      refine J_isub hK qd0_82.2.2.2.2.2.2.2.2.2.1 rfl ?_
      refine J_goto hK qd0_82.2.2.2.2.2.2.2.2.2.2.1 (n := 21) rfl ?_
      obtain rfl := Option.some.inj hf
      exact J_iret hK hR qd0_82.2.2.2.2.2.2.2.2.2.2.2.2.1 () rfl (by decide) (by decide)

def fX1_greatestB (p1 : Int32) : Option (Int32) :=
  if p1 = 1 then (some (2)) else (if p1 = 2 then (some (2)) else (if p1 = 3 then (some (99)) else (some (11))))
set_option maxHeartbeats 4000000 in
set_option maxRecDepth 100000 in
theorem kX1_greatestB (l : Launch) (d : DT) (o0 : Nat) (p1 : Int32)  {out : Int32} (hf : fX1_greatestB p1 = some out) : Ct l d yX1_greatestB cX1_greatestB 2 (some .int) { frames := 0, cells := 0, slots := 0, locals := 0 } [.ref o0, .int p1] [] (fun _ : Unit => (some (.int out), [])) := by
  refine Ct.of (by decide) (Nat.le_of_ble_eq_true rfl) ?_
  intro Φ hl hK hR
  subst hl
  have hK : Ok d Φ RX1 "greatestB" cX1_greatestB 2 (some .int) { frames := 0, cells := 0, slots := 0, locals := 0 } := hK
  unfold fX1_greatestB at hf
  show J d Φ 2 [] 0 0 0 [(0, .ref o0), (1, .int p1)] []
  refine J_iload_n hK qd0_83.1 rfl 1 rfl rfl ?_
  refine J_iconst (v := 1) hK qd0_83.2.1 rfl (by decide) ?_
  refine J_icmp_eq (tg := 10) hK qd0_83.2.2.1 rfl rfl (fun hc2 => ?_) (fun hc2 => ?_)
  · have hf := ip hc2 hf
    refine J_iconst (v := 2) hK qd0_83.2.2.2.2.2.2.1 rfl (by decide) ?_
    obtain rfl := Option.some.inj hf
    exact J_iret hK hR qd0_83.2.2.2.2.2.2.2.1 () rfl (by decide) (by decide)
  · have hf := iq hc2 hf
    refine J_iload_n hK qd0_83.2.2.2.1 rfl 1 rfl rfl ?_
    refine J_iconst (v := 2) hK qd0_83.2.2.2.2.1 rfl (by decide) ?_
    refine J_icmp_ne (tg := 12) hK qd0_83.2.2.2.2.2.1 rfl rfl (fun hc7 => ?_) (fun hc7 => ?_)
    · have hf := iq hc7 hf
      refine J_iload_n hK qd0_83.2.2.2.2.2.2.2.2.1 rfl 1 rfl rfl ?_
      refine J_iconst (v := 3) hK qd0_83.2.2.2.2.2.2.2.2.2.1 rfl (by decide) ?_
      refine J_icmp_ne (tg := 22) hK qd0_83.2.2.2.2.2.2.2.2.2.2.1 rfl rfl (fun hc14 => ?_) (fun hc14 => ?_)
      · have hf := iq hc14 hf
        refine J_bipush (v := 11) hK qd0_83.2.2.2.2.2.2.2.2.2.2.2.2.2.1 rfl (by decide) ?_
        obtain rfl := Option.some.inj hf
        exact J_iret hK hR qd0_83.2.2.2.2.2.2.2.2.2.2.2.2.2.2.1 () rfl (by decide) (by decide)
      · have hf := ip hc14 hf
        refine J_bipush (v := 99) hK qd0_83.2.2.2.2.2.2.2.2.2.2.2.1 rfl (by decide) ?_
        refine J_goto hK qd0_83.2.2.2.2.2.2.2.2.2.2.2.2.1 (n := 24) rfl ?_
        obtain rfl := Option.some.inj hf
        exact J_iret hK hR qd0_83.2.2.2.2.2.2.2.2.2.2.2.2.2.2.1 () rfl (by decide) (by decide)
    · have hf := ip hc7 hf
      refine J_iconst (v := 2) hK qd0_83.2.2.2.2.2.2.1 rfl (by decide) ?_
      obtain rfl := Option.some.inj hf
      exact J_iret hK hR qd0_83.2.2.2.2.2.2.2.1 () rfl (by decide) (by decide)

def fX6_isUnder_s4 (p1 : Int32) (z2 : Int32) (z3 : Int32) : Option ((Int32 × Int32) ⊕ (((Unit) ⊕ (Unit)))) :=
  if 6 ≤ z3 then (some (.inr (.inr ()))) else ((fX6_within z2 (0) (5)).bind (fun v5 => if v5 = 0 then (some (.inr (.inr ()))) else (if z2 = p1 then (some (.inr (.inl ()))) else ((rd 6 ABV z2).bind fun v7 => some (.inl (v7, (z3 + 1)))))))
def fX6_isUnder (n : Nat) (p0 : Int32) (p1 : Int32) : Option (Int32) :=
  (lp (u2 (fX6_isUnder_s4 p1)) n (p0, 0)).bind (Sum.elim (fun _ => some (1)) (fun _ => some (0)))
set_option maxHeartbeats 4000000 in
set_option maxRecDepth 100000 in
theorem kX6_isUnder (l : Launch) (d : DT)  (n : Nat) (p0 : Int32) (p1 : Int32)  {out : Int32} (hf : fX6_isUnder n p0 p1 = some out) : Ct l d yX6_isUnder cX6_isUnder 4 (some .boolean) { frames := 1, cells := 0, slots := 0, locals := 22 } [.int p0, .int p1] [] (fun _ : Unit => (some (.int out), [])) := by
  refine Ct.of (by decide) (Nat.le_of_ble_eq_true rfl) ?_
  intro Φ hl hK hR
  subst hl
  have hK : Ok d Φ RX6 "isUnder" cX6_isUnder 4 (some .boolean) { frames := 1, cells := 0, slots := 0, locals := 22 } := hK
  unfold fX6_isUnder at hf
  show J d Φ 4 [] 0 0 0 [(0, .int p0), (1, .int p1)] []
  refine J_iload_n hK qd2_93.1 rfl 0 rfl rfl ?_
  refine J_istore_n (L' := [(2, .int p0), (0, .int p0), (1, .int p1)]) hK qd2_93.2.1 rfl rfl (by decide) rfl ?_
  refine J_iconst (v := 0) hK qd2_93.2.2.1 rfl (by decide) ?_
  refine J_istore_n (L' := [(3, .int (0)), (2, .int p0), (0, .int p0), (1, .int p1)]) hK qd2_93.2.2.2.1 rfl rfl (by decide) rfl ?_
  obtain ⟨e4, hl1, hf⟩ := bs hf
  have hx1_26 : (.inl ()) = e4 → J d Φ 4 [] 0 0 26 [] [] := by
    intro  he
    rw [← he] at hf
    simp only [Sum.elim_inl, Sum.elim_inr] at hf
    refine J_iconst (v := 1) hK qd2_94.1 rfl (by decide) ?_
    obtain rfl := Option.some.inj hf
    exact J_zret hK hR qd2_94.2.1 () rfl rfl (by decide) (by decide)
  have hx1_40 : (.inr ()) = e4 → J d Φ 4 [] 0 0 40 [] [] := by
    intro  he
    rw [← he] at hf
    simp only [Sum.elim_inl, Sum.elim_inr] at hf
    refine J_iconst (v := 0) hK qd2_94.2.2.2.2.2.2.2.2.1 rfl (by decide) ?_
    obtain rfl := Option.some.inj hf
    exact J_zret hK hR qd2_94.2.2.2.2.2.2.2.2.2.1 () rfl rfl (by decide) (by decide)
  have lo1 : ∀ (k : Nat) (z2 : Int32) (z3 : Int32), lp (u2 (fX6_isUnder_s4 p1)) k (z2, z3) = some e4 → J d Φ 4 [] 0 0 4 [(1, .int p1), (2, .int z2), (3, .int z3)] [] := by
    intro k
    induction k with
    | zero => intro z2 z3 h; cases h
    | succ k ih1 =>
      intro z2 z3 h
      obtain ⟨k2, rr1, hk2, hs1, hr1⟩ := lp_ok h
      cases hk2
      have hs1 : fX6_isUnder_s4 p1 z2 z3 = some rr1 := hs1
      unfold fX6_isUnder_s4 at hs1
      refine J_iload_n hK qd2_93.2.2.2.2.1 rfl 2 rfl rfl ?_
      refine J_abv hK qd2_93.2.2.2.2.2.1 rfl wf_RX6_326 ?_
      refine J_abl hK qd2_93.2.2.2.2.2.2.1 rfl ?_
      refine J_icmp_ge (tg := 40) hK qd2_93.2.2.2.2.2.2.2.1 rfl rfl (fun hc9 => ?_) (fun hc9 => ?_)
      · have hs1 := ip hc9 hs1
        exact J_loc [] rfl (hx1_40  (lpx hs1 hr1))
      · have hs1 := iq hc9 hs1
        refine J_iload_n hK qd2_93.2.2.2.2.2.2.2.2.1 rfl 1 rfl rfl ?_
        refine J_iconst (v := 0) hK qd2_93.2.2.2.2.2.2.2.2.2.1 rfl (by decide) ?_
        refine J_iconst (v := 5) hK qd2_93.2.2.2.2.2.2.2.2.2.2.1 rfl (by decide) ?_
        obtain ⟨v5, e6, hs1⟩ := bs hs1
        refine J_callS (m := 0) (m' := 0) (ce' := 0) (sl' := 0) (gr := []) (gs' := fun _ => []) (st' := fun _ => [.int v5]) (st := []) hK qd2_93.2.2.2.2.2.2.2.2.2.2.2.1 cv_RX6_64 ws_yX6_within (As := [.int z2, .int (0), .int (5)]) (kX6_within _ d z2 (0) (5) e6) rfl rfl (Nat.le_of_ble_eq_true rfl) (by decide) [] [] rfl (by decide +kernel) rfl rfl [] (by decide +kernel) (fun _ => rfl) (fun _ => rfl) rfl rfl rfl (fun _ => rfl) (fun _ => ?_)
        refine J_if_eq (tg := 40) hK qd2_93.2.2.2.2.2.2.2.2.2.2.2.2.1 rfl rfl (fun hc18 => ?_) (fun hc18 => ?_)
        · have hs1 := ip hc18 hs1
          exact J_loc [] rfl (hx1_40  (lpx hs1 hr1))
        · have hs1 := iq hc18 hs1
          refine J_iload_n hK qd2_93.2.2.2.2.2.2.2.2.2.2.2.2.2.1 rfl 1 rfl rfl ?_
          refine J_iload_n hK qd2_93.2.2.2.2.2.2.2.2.2.2.2.2.2.2.1 rfl 0 rfl rfl ?_
          refine J_icmp_ne (tg := 28) hK qd2_93.2.2.2.2.2.2.2.2.2.2.2.2.2.2.2.1 rfl rfl (fun hc23 => ?_) (fun hc23 => ?_)
          · have hs1 := iq hc23 hs1
            refine J_abv hK qd2_94.2.2.1 rfl wf_RX6_326 ?_
            refine J_iload_n hK qd2_94.2.2.2.1 rfl 1 rfl rfl ?_
            obtain ⟨v7, ev7, hs1⟩ := bs hs1
            refine J_abi hK qd2_94.2.2.2.2.1 rfl ev7 ?_
            refine J_istore_n (L' := [(2, .int v7), (1, .int p1), (3, .int z3)]) hK qd2_94.2.2.2.2.2.1 rfl rfl (by decide) rfl ?_
            refine J_iinc (L' := [(3, .int (z3 + 1)), (2, .int v7), (1, .int p1)]) (v := (z3 + 1)) hK qd2_94.2.2.2.2.2.2.1 rfl 2 rfl rfl (by decide) rfl ?_
            refine J_goto hK qd2_94.2.2.2.2.2.2.2.1 (n := 4) rfl ?_
            exact J_loc [2, 1, 0] rfl (ih1 v7 (z3 + 1) (lpc hs1 hr1))
          · have hs1 := ip hc23 hs1
            exact J_loc [] rfl (hx1_26  (lpx hs1 hr1))
  exact J_loc [3, 1, 0] rfl (lo1 n p0 (0) hl1)

def fX1_allowsWork_j24 (p1 : Int32) (p2 : Int32) (p3 : Int32) (x0_lineCount : Int32) (x0_goodsCount : Int32) (x0_workCount : Int32) (x0_years : Int32) (x0_lines : (Nat → Int32)) (x0_goods : (Nat → Int32)) (x0_works : (Nat → Int32)) (x0_change : (Nat → Int32)) (x0_coin : (Nat → Int32)) (x0_knownFree : (Nat → Int32)) (x0_isKnown : Int32) : Option (Int32) :=
  (fX1_greatestA (x0_lineCount, x0_goodsCount, x0_workCount, x0_years, x0_lines, x0_goods, x0_works, x0_change, x0_coin, x0_knownFree, x0_isKnown) p1).bind (fun v5 => (fX6_within p2 (0) v5).bind (fun v7 => if v7 = 0 then (some (0)) else ((fX1_greatestB p1).bind (fun v9 => (fX6_within p3 (0) v9).bind (fun v11 => if v11 = 0 then (some (0)) else (some (1)))))))
def fX1_allowsWork (n : Nat) (X0 : LdT) (p1 : Int32) (p2 : Int32) (p3 : Int32) : Option (Int32) :=
  u11 (fun (x0_lineCount : Int32) (x0_goodsCount : Int32) (x0_workCount : Int32) (x0_years : Int32) (x0_lines : (Nat → Int32)) (x0_goods : (Nat → Int32)) (x0_works : (Nat → Int32)) (x0_change : (Nat → Int32)) (x0_coin : (Nat → Int32)) (x0_knownFree : (Nat → Int32)) (x0_isKnown : Int32) => (fX6_within p1 (1) (5)).bind (fun v1 => if v1 = 0 then (some (0)) else ((fX6_isUnder n p1 (4)).bind (fun v3 => if v3 = 0 then (fX1_allowsWork_j24 p1 p2 p3 x0_lineCount x0_goodsCount x0_workCount x0_years x0_lines x0_goods x0_works x0_change x0_coin x0_knownFree x0_isKnown) else (if p2 = p3 then (some (0)) else (fX1_allowsWork_j24 p1 p2 p3 x0_lineCount x0_goodsCount x0_workCount x0_years x0_lines x0_goods x0_works x0_change x0_coin x0_knownFree x0_isKnown)))))) X0
set_option maxHeartbeats 4000000 in
set_option maxRecDepth 100000 in
theorem kX1_allowsWork (l : Launch) (d : DT) (h0 : Nat → Nat) (n : Nat) (x0_lineCount : Int32) (x0_goodsCount : Int32) (x0_workCount : Int32) (x0_years : Int32) (x0_lines : (Nat → Int32)) (x0_goods : (Nat → Int32)) (x0_works : (Nat → Int32)) (x0_change : (Nat → Int32)) (x0_coin : (Nat → Int32)) (x0_knownFree : (Nat → Int32)) (x0_isKnown : Int32) (p1 : Int32) (p2 : Int32) (p3 : Int32)  {out : Int32} (hf : fX1_allowsWork n (x0_lineCount, x0_goodsCount, x0_workCount, x0_years, x0_lines, x0_goods, x0_works, x0_change, x0_coin, x0_knownFree, x0_isKnown) p1 p2 p3 = some out) : Ct l d yX1_allowsWork cX1_allowsWork 4 (some .boolean) { frames := 2, cells := 0, slots := 0, locals := 45 } [.ref (h0 0), .int p1, .int p2, .int p3] [gLd d h0 x0_lineCount x0_goodsCount x0_workCount x0_years x0_lines x0_goods x0_works x0_change x0_coin x0_knownFree x0_isKnown] (fun _ : Unit => (some (.int out), [gLd d h0 x0_lineCount x0_goodsCount x0_workCount x0_years x0_lines x0_goods x0_works x0_change x0_coin x0_knownFree x0_isKnown])) := by
  refine Ct.of (by decide) (Nat.le_of_ble_eq_true rfl) ?_
  intro Φ hl hK hR
  subst hl
  have hK : Ok d Φ RX1 "allowsWork" cX1_allowsWork 4 (some .boolean) { frames := 2, cells := 0, slots := 0, locals := 45 } := hK
  unfold fX1_allowsWork at hf
  have hf := un11 hf
  show J d Φ 4 [gLd d h0 x0_lineCount x0_goodsCount x0_workCount x0_years x0_lines x0_goods x0_works x0_change x0_coin x0_knownFree x0_isKnown] 0 0 0 [(0, .ref (h0 0)), (1, .int p1), (2, .int p2), (3, .int p3)] []
  refine J_iload_n hK qd0_84.1 rfl 1 rfl rfl ?_
  refine J_iconst (v := 1) hK qd0_84.2.1 rfl (by decide) ?_
  refine J_iconst (v := 5) hK qd0_84.2.2.1 rfl (by decide) ?_
  obtain ⟨v1, e2, hf⟩ := bs hf
  refine J_callN (m := 1) (m' := 1) (ce' := 0) (sl' := 0) (gr := [gLd d h0 x0_lineCount x0_goodsCount x0_workCount x0_years x0_lines x0_goods x0_works x0_change x0_coin x0_knownFree x0_isKnown]) (gs' := fun _ => [gLd d h0 x0_lineCount x0_goodsCount x0_workCount x0_years x0_lines x0_goods x0_works x0_change x0_coin x0_knownFree x0_isKnown]) (st' := fun _ => [.int v1]) (st := []) hK qd0_84.2.2.2.1 cn_RX1_59 (As := [.int p1, .int (1), .int (5)]) (kX6_within _ d p1 (1) (5) e2) rfl rfl (Nat.le_of_ble_eq_true rfl) (by decide) [] [0] rfl (by decide +kernel) rfl rfl [0] (by decide +kernel) (fun _ => rfl) (fun _ => rfl) rfl rfl rfl (fun _ => rfl) (fun _ => ?_)
  refine J_if_eq (tg := 22) hK qd0_84.2.2.2.2.1 rfl rfl (fun hc6 => ?_) (fun hc6 => ?_)
  · have hf := ip hc6 hf
    refine J_iconst (v := 0) hK qd0_84.2.2.2.2.2.2.2.2.2.2.2.2.1 rfl (by decide) ?_
    obtain rfl := Option.some.inj hf
    exact J_zret hK hR qd0_84.2.2.2.2.2.2.2.2.2.2.2.2.2.1 () rfl rfl (by decide) (by decide)
  · have hf := iq hc6 hf
    refine J_iload_n hK qd0_84.2.2.2.2.2.1 rfl 1 rfl rfl ?_
    refine J_iconst (v := 4) hK qd0_84.2.2.2.2.2.2.1 rfl (by decide) ?_
    obtain ⟨v3, e4, hf⟩ := bs hf
    refine J_callN (m := 1) (m' := 1) (ce' := 0) (sl' := 0) (gr := [gLd d h0 x0_lineCount x0_goodsCount x0_workCount x0_years x0_lines x0_goods x0_works x0_change x0_coin x0_knownFree x0_isKnown]) (gs' := fun _ => [gLd d h0 x0_lineCount x0_goodsCount x0_workCount x0_years x0_lines x0_goods x0_works x0_change x0_coin x0_knownFree x0_isKnown]) (st' := fun _ => [.int v3]) (st := []) hK qd0_84.2.2.2.2.2.2.2.1 cn_RX1_74 (As := [.int p1, .int (4)]) (kX6_isUnder _ d n p1 (4) e4) rfl rfl (Nat.le_of_ble_eq_true rfl) (by decide) [] [0] rfl (by decide +kernel) rfl rfl [0] (by decide +kernel) (fun _ => rfl) (fun _ => rfl) rfl rfl rfl (fun _ => rfl) (fun _ => ?_)
    have j24 : fX1_allowsWork_j24 p1 p2 p3 x0_lineCount x0_goodsCount x0_workCount x0_years x0_lines x0_goods x0_works x0_change x0_coin x0_knownFree x0_isKnown = some out → J d Φ 4 [gLd d h0 x0_lineCount x0_goodsCount x0_workCount x0_years x0_lines x0_goods x0_works x0_change x0_coin x0_knownFree x0_isKnown] 0 0 24 [(0, .ref (h0 0)), (1, .int p1), (2, .int p2), (3, .int p3)] [] := by
      intro  hf
      unfold fX1_allowsWork_j24 at hf
      refine J_iload_n hK qd0_84.2.2.2.2.2.2.2.2.2.2.2.2.2.2.1 rfl 2 rfl rfl ?_
      refine J_iconst (v := 0) hK qd0_84.2.2.2.2.2.2.2.2.2.2.2.2.2.2.2.1 rfl (by decide) ?_
      refine J_aload_n hK qd0_85.1 rfl 0 rfl rfl ?_
      refine J_iload_n hK qd0_85.2.1 rfl 1 rfl rfl ?_
      obtain ⟨v5, e6, hf⟩ := bs hf
      refine J_callV (m := 1) (m' := 1) (ce' := 0) (sl' := 0) (gr := []) (gs' := fun _ => [gLd d h0 x0_lineCount x0_goodsCount x0_workCount x0_years x0_lines x0_goods x0_works x0_change x0_coin x0_knownFree x0_isKnown]) (st' := fun _ => [.int v5, .int (0), .int p2]) (st := [.int (0), .int p2]) hK qd0_85.2.2.1 cv_RX1_78 iv_yX1_greatestA (As := [.int p1]) (kX1_greatestA _ d h0 x0_lineCount x0_goodsCount x0_workCount x0_years x0_lines x0_goods x0_works x0_change x0_coin x0_knownFree x0_isKnown p1 e6) rfl rfl (Nat.le_of_ble_eq_true rfl) (by decide) 0 0 rfl rfl rfl [0] [] rfl (by decide +kernel) rfl rfl [0] (by decide +kernel) (fun _ => rfl) (fun _ => rfl) rfl rfl rfl (fun _ => rfl) (fun _ => ?_)
      obtain ⟨v7, e8, hf⟩ := bs hf
      refine J_callN (m := 1) (m' := 1) (ce' := 0) (sl' := 0) (gr := [gLd d h0 x0_lineCount x0_goodsCount x0_workCount x0_years x0_lines x0_goods x0_works x0_change x0_coin x0_knownFree x0_isKnown]) (gs' := fun _ => [gLd d h0 x0_lineCount x0_goodsCount x0_workCount x0_years x0_lines x0_goods x0_works x0_change x0_coin x0_knownFree x0_isKnown]) (st' := fun _ => [.int v7]) (st := []) hK qd0_85.2.2.2.1 cn_RX1_59 (As := [.int p2, .int (0), .int v5]) (kX6_within _ d p2 (0) v5 e8) rfl rfl (Nat.le_of_ble_eq_true rfl) (by decide) [] [0] rfl (by decide +kernel) rfl rfl [0] (by decide +kernel) (fun _ => rfl) (fun _ => rfl) rfl rfl rfl (fun _ => rfl) (fun _ => ?_)
      refine J_if_eq (tg := 54) hK qd0_85.2.2.2.2.1 rfl rfl (fun hc34 => ?_) (fun hc34 => ?_)
      · have hf := ip hc34 hf
        refine J_iconst (v := 0) hK qd0_85.2.2.2.2.2.2.2.2.2.2.2.2.2.2.1 rfl (by decide) ?_
        obtain rfl := Option.some.inj hf
        exact J_zret hK hR qd0_85.2.2.2.2.2.2.2.2.2.2.2.2.2.2.2.1 () rfl rfl (by decide) (by decide)
      · have hf := iq hc34 hf
        refine J_iload_n hK qd0_85.2.2.2.2.2.1 rfl 3 rfl rfl ?_
        refine J_iconst (v := 0) hK qd0_85.2.2.2.2.2.2.1 rfl (by decide) ?_
        refine J_aload_n hK qd0_85.2.2.2.2.2.2.2.1 rfl 0 rfl rfl ?_
        refine J_iload_n hK qd0_85.2.2.2.2.2.2.2.2.1 rfl 1 rfl rfl ?_
        obtain ⟨v9, e10, hf⟩ := bs hf
        refine J_callV (m := 1) (m' := 1) (ce' := 0) (sl' := 0) (gr := [gLd d h0 x0_lineCount x0_goodsCount x0_workCount x0_years x0_lines x0_goods x0_works x0_change x0_coin x0_knownFree x0_isKnown]) (gs' := fun _ => [gLd d h0 x0_lineCount x0_goodsCount x0_workCount x0_years x0_lines x0_goods x0_works x0_change x0_coin x0_knownFree x0_isKnown]) (st' := fun _ => [.int v9, .int (0), .int p3]) (st := [.int (0), .int p3]) hK qd0_85.2.2.2.2.2.2.2.2.2.1 cv_RX1_82 iv_yX1_greatestB (As := [.int p1]) (kX1_greatestB _ d (h0 0) p1 e10) rfl rfl (Nat.le_of_ble_eq_true rfl) (by decide) 0 0 rfl rfl rfl [] [0] rfl (by decide +kernel) rfl rfl [0] (by decide +kernel) (fun _ => rfl) (fun _ => rfl) rfl rfl rfl (fun _ => rfl) (fun _ => ?_)
        obtain ⟨v11, e12, hf⟩ := bs hf
        refine J_callN (m := 1) (m' := 1) (ce' := 0) (sl' := 0) (gr := [gLd d h0 x0_lineCount x0_goodsCount x0_workCount x0_years x0_lines x0_goods x0_works x0_change x0_coin x0_knownFree x0_isKnown]) (gs' := fun _ => [gLd d h0 x0_lineCount x0_goodsCount x0_workCount x0_years x0_lines x0_goods x0_works x0_change x0_coin x0_knownFree x0_isKnown]) (st' := fun _ => [.int v11]) (st := []) hK qd0_85.2.2.2.2.2.2.2.2.2.2.1 cn_RX1_59 (As := [.int p3, .int (0), .int v9]) (kX6_within _ d p3 (0) v9 e12) rfl rfl (Nat.le_of_ble_eq_true rfl) (by decide) [] [0] rfl (by decide +kernel) rfl rfl [0] (by decide +kernel) (fun _ => rfl) (fun _ => rfl) rfl rfl rfl (fun _ => rfl) (fun _ => ?_)
        refine J_if_eq (tg := 54) hK qd0_85.2.2.2.2.2.2.2.2.2.2.2.1 rfl rfl (fun hc47 => ?_) (fun hc47 => ?_)
        · have hf := ip hc47 hf
          refine J_iconst (v := 0) hK qd0_85.2.2.2.2.2.2.2.2.2.2.2.2.2.2.1 rfl (by decide) ?_
          obtain rfl := Option.some.inj hf
          exact J_zret hK hR qd0_85.2.2.2.2.2.2.2.2.2.2.2.2.2.2.2.1 () rfl rfl (by decide) (by decide)
        · have hf := iq hc47 hf
          refine J_iconst (v := 1) hK qd0_85.2.2.2.2.2.2.2.2.2.2.2.2.1 rfl (by decide) ?_
          refine J_goto hK qd0_85.2.2.2.2.2.2.2.2.2.2.2.2.2.1 (n := 55) rfl ?_
          obtain rfl := Option.some.inj hf
          exact J_zret hK hR qd0_85.2.2.2.2.2.2.2.2.2.2.2.2.2.2.2.1 () rfl rfl (by decide) (by decide)
    refine J_if_eq (tg := 24) hK qd0_84.2.2.2.2.2.2.2.2.1 rfl rfl (fun hc14 => ?_) (fun hc14 => ?_)
    · have hf := ip hc14 hf
      exact (j24  hf)
    · have hf := iq hc14 hf
      refine J_iload_n hK qd0_84.2.2.2.2.2.2.2.2.2.1 rfl 2 rfl rfl ?_
      refine J_iload_n hK qd0_84.2.2.2.2.2.2.2.2.2.2.1 rfl 3 rfl rfl ?_
      refine J_icmp_ne (tg := 24) hK qd0_84.2.2.2.2.2.2.2.2.2.2.2.1 rfl rfl (fun hc19 => ?_) (fun hc19 => ?_)
      · have hf := iq hc19 hf
        exact (j24  hf)
      · have hf := ip hc19 hf
        refine J_iconst (v := 0) hK qd0_84.2.2.2.2.2.2.2.2.2.2.2.2.1 rfl (by decide) ?_
        obtain rfl := Option.some.inj hf
        exact J_zret hK hR qd0_84.2.2.2.2.2.2.2.2.2.2.2.2.2.1 () rfl rfl (by decide) (by decide)

def fX2_has (p0 : Int32) : Option (Int32) :=
  (fX6_within p0 (0) (7)).bind (fun v1 => (zb v1).bind fun v3 => some v3)
set_option maxHeartbeats 4000000 in
set_option maxRecDepth 100000 in
theorem kX2_has (l : Launch) (d : DT)  (p0 : Int32)  {out : Int32} (hf : fX2_has p0 = some out) : Ct l d yX2_has cX2_has 1 (some .boolean) { frames := 1, cells := 0, slots := 0, locals := 22 } [.int p0] [] (fun _ : Unit => (some (.int out), [])) := by
  refine Ct.of (by decide) (Nat.le_of_ble_eq_true rfl) ?_
  intro Φ hl hK hR
  subst hl
  have hK : Ok d Φ RX2 "has" cX2_has 1 (some .boolean) { frames := 1, cells := 0, slots := 0, locals := 22 } := hK
  unfold fX2_has at hf
  show J d Φ 1 [] 0 0 0 [(0, .int p0)] []
  refine J_iload_n hK qd0_100.1 rfl 0 rfl rfl ?_
  refine J_iconst (v := 0) hK qd0_100.2.1 rfl (by decide) ?_
  refine J_bipush (v := 7) hK qd0_100.2.2.1 rfl (by decide) ?_
  obtain ⟨v1, e2, hf⟩ := bs hf
  refine J_callN (m := 0) (m' := 0) (ce' := 0) (sl' := 0) (gr := []) (gs' := fun _ => []) (st' := fun _ => [.int v1]) (st := []) hK qd0_100.2.2.2.1 cn_RX2_29 (As := [.int p0, .int (0), .int (7)]) (kX6_within _ d p0 (0) (7) e2) rfl rfl (Nat.le_of_ble_eq_true rfl) (by decide) [] [] rfl (by decide +kernel) rfl rfl [] (by decide +kernel) (fun _ => rfl) (fun _ => rfl) rfl rfl rfl (fun _ => rfl) (fun _ => ?_)
  obtain ⟨v3, ev3, hf⟩ := bs hf
  obtain rfl := Option.some.inj hf
  exact J_zret hK hR qd0_100.2.2.2.2.1 () (zb_ok ev3).2 (by rw [(zb_ok ev3).1]) (by decide) (by decide)

def fX2_hasRow (X0 : ShT) (p1 : Int32) : Option (Int32) :=
  u3 (fun (x0_elements : (Nat → Nat → Int64)) (x0_held : (Nat → Int32)) (x0_sizes : (Nat → Int32)) => (rd 8 x0_held p1).bind fun v1 => (fX6_within v1 (0) (4)).bind (fun v2 => (zb v2).bind fun v4 => some v4)) X0
set_option maxHeartbeats 4000000 in
set_option maxRecDepth 100000 in
theorem kX2_hasRow (l : Launch) (d : DT) (h0 : Nat → Nat) (r0_elements : Nat → Nat) (x0_elements : (Nat → Nat → Int64)) (x0_held : (Nat → Int32)) (x0_sizes : (Nat → Int32)) (p1 : Int32)  {out : Int32} (hf : fX2_hasRow (x0_elements, x0_held, x0_sizes) p1 = some out) : Ct l d yX2_hasRow cX2_hasRow 2 (some .boolean) { frames := 1, cells := 0, slots := 0, locals := 22 } [.ref (h0 0), .int p1] [gSh d h0 r0_elements x0_held x0_sizes] (fun _ : Unit => (some (.int out), [gSh d h0 r0_elements x0_held x0_sizes])) := by
  refine Ct.of (by decide) (Nat.le_of_ble_eq_true rfl) ?_
  intro Φ hl hK hR
  subst hl
  have hK : Ok d Φ RX2 "hasRow" cX2_hasRow 2 (some .boolean) { frames := 1, cells := 0, slots := 0, locals := 22 } := hK
  unfold fX2_hasRow at hf
  have hf := un3 hf
  show J d Φ 2 [gSh d h0 r0_elements x0_held x0_sizes] 0 0 0 [(0, .ref (h0 0)), (1, .int p1)] []
  refine J_aload_n hK qd0_101.1 rfl 0 rfl rfl ?_
  refine J_get hK fo_RX2_16 qd0_101.2.1 rfl 0 0 rfl rfl rfl ?_
  refine J_iload_n hK qd0_101.2.2.1 rfl 1 rfl rfl ?_
  obtain ⟨v1, ev1, hf⟩ := bs hf
  refine J_iald hK qd0_101.2.2.2.1 rfl 0 2 rfl rfl ev1 ?_
  refine J_iconst (v := 0) hK qd0_101.2.2.2.2.1 rfl (by decide) ?_
  refine J_iconst (v := 4) hK qd0_101.2.2.2.2.2.1 rfl (by decide) ?_
  obtain ⟨v2, e3, hf⟩ := bs hf
  refine J_callN (m := 1) (m' := 1) (ce' := 0) (sl' := 0) (gr := [gSh d h0 r0_elements x0_held x0_sizes]) (gs' := fun _ => [gSh d h0 r0_elements x0_held x0_sizes]) (st' := fun _ => [.int v2]) (st := []) hK qd0_101.2.2.2.2.2.2.1 cn_RX2_29 (As := [.int v1, .int (0), .int (4)]) (kX6_within _ d v1 (0) (4) e3) rfl rfl (Nat.le_of_ble_eq_true rfl) (by decide) [] [0] rfl (by decide +kernel) rfl rfl [0] (by decide +kernel) (fun _ => rfl) (fun _ => rfl) rfl rfl rfl (fun _ => rfl) (fun _ => ?_)
  obtain ⟨v4, ev4, hf⟩ := bs hf
  obtain rfl := Option.some.inj hf
  exact J_zret hK hR qd0_101.2.2.2.2.2.2.2.1 () (zb_ok ev4).2 (by rw [(zb_ok ev4).1]) (by decide) (by decide)

def fX2_hasWork (X0 : ShT) (p1 : Int32) : Option (Int32) :=
  u3 (fun (x0_elements : (Nat → Nat → Int64)) (x0_held : (Nat → Int32)) (x0_sizes : (Nat → Int32)) => (rd 8 x0_held p1).bind fun v1 => if v1 < 10 then (some (0)) else (some (1))) X0
set_option maxHeartbeats 4000000 in
set_option maxRecDepth 100000 in
theorem kX2_hasWork (l : Launch) (d : DT) (h0 : Nat → Nat) (r0_elements : Nat → Nat) (x0_elements : (Nat → Nat → Int64)) (x0_held : (Nat → Int32)) (x0_sizes : (Nat → Int32)) (p1 : Int32)  {out : Int32} (hf : fX2_hasWork (x0_elements, x0_held, x0_sizes) p1 = some out) : Ct l d yX2_hasWork cX2_hasWork 2 (some .boolean) { frames := 0, cells := 0, slots := 0, locals := 0 } [.ref (h0 0), .int p1] [gSh d h0 r0_elements x0_held x0_sizes] (fun _ : Unit => (some (.int out), [gSh d h0 r0_elements x0_held x0_sizes])) := by
  refine Ct.of (by decide) (Nat.le_of_ble_eq_true rfl) ?_
  intro Φ hl hK hR
  subst hl
  have hK : Ok d Φ RX2 "hasWork" cX2_hasWork 2 (some .boolean) { frames := 0, cells := 0, slots := 0, locals := 0 } := hK
  unfold fX2_hasWork at hf
  have hf := un3 hf
  show J d Φ 2 [gSh d h0 r0_elements x0_held x0_sizes] 0 0 0 [(0, .ref (h0 0)), (1, .int p1)] []
  refine J_aload_n hK qd0_102.1 rfl 0 rfl rfl ?_
  refine J_get hK fo_RX2_16 qd0_102.2.1 rfl 0 0 rfl rfl rfl ?_
  refine J_iload_n hK qd0_102.2.2.1 rfl 1 rfl rfl ?_
  obtain ⟨v1, ev1, hf⟩ := bs hf
  refine J_iald hK qd0_102.2.2.2.1 rfl 0 2 rfl rfl ev1 ?_
  refine J_bipush (v := 10) hK qd0_102.2.2.2.2.1 rfl (by decide) ?_
  refine J_icmp_lt (tg := 15) hK qd0_102.2.2.2.2.2.1 rfl rfl (fun hc8 => ?_) (fun hc8 => ?_)
  · have hf := ip hc8 hf
    refine J_iconst (v := 0) hK qd0_102.2.2.2.2.2.2.2.2.1 rfl (by decide) ?_
    obtain rfl := Option.some.inj hf
    exact J_zret hK hR qd0_102.2.2.2.2.2.2.2.2.2.1 () rfl rfl (by decide) (by decide)
  · have hf := iq hc8 hf
    refine J_iconst (v := 1) hK qd0_102.2.2.2.2.2.2.1 rfl (by decide) ?_
    refine J_goto hK qd0_102.2.2.2.2.2.2.2.1 (n := 16) rfl ?_
    obtain rfl := Option.some.inj hf
    exact J_zret hK hR qd0_102.2.2.2.2.2.2.2.2.2.1 () rfl rfl (by decide) (by decide)

def fX2_differ (X0 : ShT) (p1 : Int32) (p2 : Int32) : Option (Int32) :=
  u3 (fun (x0_elements : (Nat → Nat → Int64)) (x0_held : (Nat → Int32)) (x0_sizes : (Nat → Int32)) => (rd 8 x0_held p1).bind fun v1 => if v1 = (-1) then (some (0)) else ((rd 8 x0_held p2).bind fun v2 => if v2 = (-1) then (some (0)) else ((rd 8 x0_held p1).bind fun v3 => (rd 8 x0_held p2).bind fun v4 => if v3 = v4 then (some (0)) else (some (1))))) X0
set_option maxHeartbeats 4000000 in
set_option maxRecDepth 100000 in
theorem kX2_differ (l : Launch) (d : DT) (h0 : Nat → Nat) (r0_elements : Nat → Nat) (x0_elements : (Nat → Nat → Int64)) (x0_held : (Nat → Int32)) (x0_sizes : (Nat → Int32)) (p1 : Int32) (p2 : Int32)  {out : Int32} (hf : fX2_differ (x0_elements, x0_held, x0_sizes) p1 p2 = some out) : Ct l d yX2_differ cX2_differ 3 (some .boolean) { frames := 0, cells := 0, slots := 0, locals := 0 } [.ref (h0 0), .int p1, .int p2] [gSh d h0 r0_elements x0_held x0_sizes] (fun _ : Unit => (some (.int out), [gSh d h0 r0_elements x0_held x0_sizes])) := by
  refine Ct.of (by decide) (Nat.le_of_ble_eq_true rfl) ?_
  intro Φ hl hK hR
  subst hl
  have hK : Ok d Φ RX2 "differ" cX2_differ 3 (some .boolean) { frames := 0, cells := 0, slots := 0, locals := 0 } := hK
  unfold fX2_differ at hf
  have hf := un3 hf
  show J d Φ 3 [gSh d h0 r0_elements x0_held x0_sizes] 0 0 0 [(0, .ref (h0 0)), (1, .int p1), (2, .int p2)] []
  refine J_aload_n hK qd0_103.1 rfl 0 rfl rfl ?_
  refine J_get hK fo_RX2_16 qd0_103.2.1 rfl 0 0 rfl rfl rfl ?_
  refine J_iload_n hK qd0_103.2.2.1 rfl 1 rfl rfl ?_
  obtain ⟨v1, ev1, hf⟩ := bs hf
  refine J_iald hK qd0_103.2.2.2.1 rfl 0 2 rfl rfl ev1 ?_
  refine J_iconst (v := (-1)) hK qd0_103.2.2.2.2.1 rfl (by decide) ?_
  refine J_icmp_eq (tg := 39) hK qd0_103.2.2.2.2.2.1 rfl rfl (fun hc7 => ?_) (fun hc7 => ?_)
  · have hf := ip hc7 hf
    refine J_iconst (v := 0) hK qd0_104.2.2.2.2.2.2.2.1 rfl (by decide) ?_
    obtain rfl := Option.some.inj hf
    exact J_zret hK hR qd0_104.2.2.2.2.2.2.2.2.1 () rfl rfl (by decide) (by decide)
  · have hf := iq hc7 hf
    refine J_aload_n hK qd0_103.2.2.2.2.2.2.1 rfl 0 rfl rfl ?_
    refine J_get hK fo_RX2_16 qd0_103.2.2.2.2.2.2.2.1 rfl 0 0 rfl rfl rfl ?_
    refine J_iload_n hK qd0_103.2.2.2.2.2.2.2.2.1 rfl 2 rfl rfl ?_
    obtain ⟨v2, ev2, hf⟩ := bs hf
    refine J_iald hK qd0_103.2.2.2.2.2.2.2.2.2.1 rfl 0 2 rfl rfl ev2 ?_
    refine J_iconst (v := (-1)) hK qd0_103.2.2.2.2.2.2.2.2.2.2.1 rfl (by decide) ?_
    refine J_icmp_eq (tg := 39) hK qd0_103.2.2.2.2.2.2.2.2.2.2.2.1 rfl rfl (fun hc17 => ?_) (fun hc17 => ?_)
    · have hf := ip hc17 hf
      refine J_iconst (v := 0) hK qd0_104.2.2.2.2.2.2.2.1 rfl (by decide) ?_
      obtain rfl := Option.some.inj hf
      exact J_zret hK hR qd0_104.2.2.2.2.2.2.2.2.1 () rfl rfl (by decide) (by decide)
    · have hf := iq hc17 hf
      refine J_aload_n hK qd0_103.2.2.2.2.2.2.2.2.2.2.2.2.1 rfl 0 rfl rfl ?_
      refine J_get hK fo_RX2_16 qd0_103.2.2.2.2.2.2.2.2.2.2.2.2.2.1 rfl 0 0 rfl rfl rfl ?_
      refine J_iload_n hK qd0_103.2.2.2.2.2.2.2.2.2.2.2.2.2.2.1 rfl 1 rfl rfl ?_
      obtain ⟨v3, ev3, hf⟩ := bs hf
      refine J_iald hK qd0_103.2.2.2.2.2.2.2.2.2.2.2.2.2.2.2.1 rfl 0 2 rfl rfl ev3 ?_
      refine J_aload_n hK qd0_104.1 rfl 0 rfl rfl ?_
      refine J_get hK fo_RX2_16 qd0_104.2.1 rfl 0 0 rfl rfl rfl ?_
      refine J_iload_n hK qd0_104.2.2.1 rfl 2 rfl rfl ?_
      obtain ⟨v4, ev4, hf⟩ := bs hf
      refine J_iald hK qd0_104.2.2.2.1 rfl 0 2 rfl rfl ev4 ?_
      refine J_icmp_eq (tg := 39) hK qd0_104.2.2.2.2.1 rfl rfl (fun hc32 => ?_) (fun hc32 => ?_)
      · have hf := ip hc32 hf
        refine J_iconst (v := 0) hK qd0_104.2.2.2.2.2.2.2.1 rfl (by decide) ?_
        obtain rfl := Option.some.inj hf
        exact J_zret hK hR qd0_104.2.2.2.2.2.2.2.2.1 () rfl rfl (by decide) (by decide)
      · have hf := iq hc32 hf
        refine J_iconst (v := 1) hK qd0_104.2.2.2.2.2.1 rfl (by decide) ?_
        refine J_goto hK qd0_104.2.2.2.2.2.2.1 (n := 40) rfl ?_
        obtain rfl := Option.some.inj hf
        exact J_zret hK hR qd0_104.2.2.2.2.2.2.2.2.1 () rfl rfl (by decide) (by decide)

def fX2_workIn (X0 : ShT) (p1 : Int32) : Option (Int32) :=
  u3 (fun (x0_elements : (Nat → Nat → Int64)) (x0_held : (Nat → Int32)) (x0_sizes : (Nat → Int32)) => (fX2_hasWork (x0_elements, x0_held, x0_sizes) p1).bind (fun v1 => if v1 = 0 then (some (-1)) else ((rd 8 x0_held p1).bind fun v3 => some (v3 - 10)))) X0
set_option maxHeartbeats 4000000 in
set_option maxRecDepth 100000 in
theorem kX2_workIn (l : Launch) (d : DT) (h0 : Nat → Nat) (r0_elements : Nat → Nat) (x0_elements : (Nat → Nat → Int64)) (x0_held : (Nat → Int32)) (x0_sizes : (Nat → Int32)) (p1 : Int32)  {out : Int32} (hf : fX2_workIn (x0_elements, x0_held, x0_sizes) p1 = some out) : Ct l d yX2_workIn cX2_workIn 2 (some .int) { frames := 1, cells := 0, slots := 0, locals := 21 } [.ref (h0 0), .int p1] [gSh d h0 r0_elements x0_held x0_sizes] (fun _ : Unit => (some (.int out), [gSh d h0 r0_elements x0_held x0_sizes])) := by
  refine Ct.of (by decide) (Nat.le_of_ble_eq_true rfl) ?_
  intro Φ hl hK hR
  subst hl
  have hK : Ok d Φ RX2 "workIn" cX2_workIn 2 (some .int) { frames := 1, cells := 0, slots := 0, locals := 21 } := hK
  unfold fX2_workIn at hf
  have hf := un3 hf
  show J d Φ 2 [gSh d h0 r0_elements x0_held x0_sizes] 0 0 0 [(0, .ref (h0 0)), (1, .int p1)] []
  refine J_aload_n hK qd0_105.1 rfl 0 rfl rfl ?_
  refine J_iload_n hK qd0_105.2.1 rfl 1 rfl rfl ?_
  obtain ⟨v1, e2, hf⟩ := bs hf
  refine J_callV (m := 1) (m' := 1) (ce' := 0) (sl' := 0) (gr := []) (gs' := fun _ => [gSh d h0 r0_elements x0_held x0_sizes]) (st' := fun _ => [.int v1]) (st := []) hK qd0_105.2.2.1 cv_RX2_33 iv_yX2_hasWork (As := [.int p1]) (kX2_hasWork _ d h0 r0_elements x0_elements x0_held x0_sizes p1 e2) rfl rfl (Nat.le_of_ble_eq_true rfl) (by decide) 0 0 rfl rfl rfl [0] [] rfl (by decide +kernel) rfl rfl [0] (by decide +kernel) (fun _ => rfl) (fun _ => rfl) rfl rfl rfl (fun _ => rfl) (fun _ => ?_)
  refine J_if_eq (tg := 20) hK qd0_105.2.2.2.1 rfl rfl (fun hc5 => ?_) (fun hc5 => ?_)
  · have hf := ip hc5 hf
    refine J_iconst (v := (-1)) hK qd0_105.2.2.2.2.2.2.2.2.2.2.2.1 rfl (by decide) ?_
    obtain rfl := Option.some.inj hf
    exact J_iret hK hR qd0_105.2.2.2.2.2.2.2.2.2.2.2.2.1 () rfl (by decide) (by decide)
  · have hf := iq hc5 hf
    refine J_aload_n hK qd0_105.2.2.2.2.1 rfl 0 rfl rfl ?_
    refine J_get hK fo_RX2_16 qd0_105.2.2.2.2.2.1 rfl 0 0 rfl rfl rfl ?_
    refine J_iload_n hK qd0_105.2.2.2.2.2.2.1 rfl 1 rfl rfl ?_
    obtain ⟨v3, ev3, hf⟩ := bs hf
    refine J_iald hK qd0_105.2.2.2.2.2.2.2.1 rfl 0 2 rfl rfl ev3 ?_
    refine J_bipush (v := 10) hK qd0_105.2.2.2.2.2.2.2.2.1 rfl (by decide) ?_
    refine J_isub hK qd0_105.2.2.2.2.2.2.2.2.2.1 rfl ?_
    refine J_goto hK qd0_105.2.2.2.2.2.2.2.2.2.2.1 (n := 21) rfl ?_
    obtain rfl := Option.some.inj hf
    exact J_iret hK hR qd0_105.2.2.2.2.2.2.2.2.2.2.2.2.1 () rfl (by decide) (by decide)

def fJ7_fill_d0a16_s6 (m0 : Nat) (p1 : Int64) (z2 : Int32) (z3 : (Nat → Int64)) : Option ((Int32 × (Nat → Int64)) ⊕ ((Nat → Int64))) :=
  if (Int32.ofNat m0) ≤ z2 then (some (.inr z3)) else ((wr m0 z3 z2 p1).bind fun f6 => some (.inl ((z2 + 1), f6)))
def fJ7_fill_d0a16 (n : Nat) (m0 : Nat) (p0 : (Nat → Int64)) (p1 : Int64) : Option ((Nat → Int64)) :=
  (lp (u2 (fJ7_fill_d0a16_s6 m0 p1)) n (0, p0)).bind (fun w5 => some w5)
set_option maxHeartbeats 4000000 in
set_option maxRecDepth 100000 in
theorem kJ7_fill_d0a16 (l : Launch) (d : DT) (b0 : Nat) (n : Nat) (m0 : Nat) (p0 : (Nat → Int64)) (p1 : Int64)  {out : (Nat → Int64)} (hf : fJ7_fill_d0a16 n m0 p0 p1 = some out) : Ct l d yJ7_fill_d0a16 cJ7_fill_d0a16 5 none { frames := 0, cells := 0, slots := 0, locals := 0 } [.ref b0, .long p1] [[cJ d b0 m0 p0]] (fun _ : Unit => (none, [[cJ d b0 m0 out]])) := by
  refine Ct.of (by decide) (Nat.le_of_ble_eq_true rfl) ?_
  intro Φ hl hK hR
  subst hl
  have hK : Ok d Φ RJ7 "fill" cJ7_fill_d0a16 5 none { frames := 0, cells := 0, slots := 0, locals := 0 } := hK
  unfold fJ7_fill_d0a16 at hf
  show J d Φ 5 [[cJ d b0 m0 p0]] 0 0 0 [(0, .ref b0), (1, .long p1)] []
  refine J_iconst (v := 0) hK qd5_3.1 rfl (by decide) ?_
  refine J_istore_n (L' := [(3, .int (0)), (0, .ref b0), (1, .long p1)]) hK qd5_3.2.1 rfl rfl (by decide) rfl ?_
  refine J_aload_n hK qd5_3.2.2.1 rfl 1 rfl rfl ?_
  refine J_alen (v := (Int32.ofNat m0)) hK qd5_3.2.2.2.1 rfl 0 0 rfl rfl 1 rfl rfl ?_
  refine J_istore (L' := [(4, .int (Int32.ofNat m0)), (3, .int (0)), (0, .ref b0), (1, .long p1)]) hK qd5_3.2.2.2.2.1 rfl (by decide) rfl ?_
  obtain ⟨e4, hl1, hf⟩ := bs hf
  have hx1_22 : ∀ (w5 : (Nat → Int64)), w5 = e4 → J d Φ 5 [[cJ d b0 m0 w5]] 0 0 22 [] [] := by
    intro w5 he
    rw [← he] at hf
    obtain rfl := Option.some.inj hf
    exact J_vret hK hR qd5_3.2.2.2.2.2.2.2.2.2.2.2.2.2.2.1 () rfl (by decide) (by decide)
  have lo1 : ∀ (k : Nat) (z2 : Int32) (z3 : (Nat → Int64)), lp (u2 (fJ7_fill_d0a16_s6 m0 p1)) k (z2, z3) = some e4 → J d Φ 5 [[cJ d b0 m0 z3]] 0 0 6 [(0, .ref b0), (1, .long p1), (3, .int z2), (4, .int (Int32.ofNat m0))] [] := by
    intro k
    induction k with
    | zero => intro z2 z3 h; cases h
    | succ k ih1 =>
      intro z2 z3 h
      obtain ⟨k2, rr1, hk2, hs1, hr1⟩ := lp_ok h
      cases hk2
      have hs1 : fJ7_fill_d0a16_s6 m0 p1 z2 z3 = some rr1 := hs1
      unfold fJ7_fill_d0a16_s6 at hs1
      refine J_iload_n hK qd5_3.2.2.2.2.2.1 rfl 2 rfl rfl ?_
      refine J_iload hK qd5_3.2.2.2.2.2.2.1 rfl 3 rfl ?_
      refine J_icmp_ge (tg := 22) hK qd5_3.2.2.2.2.2.2.2.1 rfl rfl (fun hc9 => ?_) (fun hc9 => ?_)
      · have hs1 := ip hc9 hs1
        exact J_loc [] rfl (hx1_22 z3 (lpx hs1 hr1))
      · have hs1 := iq hc9 hs1
        refine J_aload_n hK qd5_3.2.2.2.2.2.2.2.2.1 rfl 0 rfl rfl ?_
        refine J_iload_n hK qd5_3.2.2.2.2.2.2.2.2.2.1 rfl 2 rfl rfl ?_
        refine J_lload_n hK qd5_3.2.2.2.2.2.2.2.2.2.2.1 rfl 1 rfl rfl ?_
        obtain ⟨f6, ef6, hs1⟩ := bs hs1
        refine J_last (g' := [cJ d b0 m0 f6]) (gs' := [[cJ d b0 m0 f6]]) hK qd5_3.2.2.2.2.2.2.2.2.2.2.2.1 rfl 0 0 rfl rfl ef6 rfl rfl ?_
        refine J_iinc (L' := [(3, .int (z2 + 1)), (0, .ref b0), (1, .long p1), (4, .int (Int32.ofNat m0))]) (v := (z2 + 1)) hK qd5_3.2.2.2.2.2.2.2.2.2.2.2.2.1 rfl 2 rfl rfl (by decide) rfl ?_
        refine J_goto hK qd5_3.2.2.2.2.2.2.2.2.2.2.2.2.2.1 (n := 6) rfl ?_
        exact J_loc [1, 2, 0, 3] rfl (ih1 (z2 + 1) f6 (lpc hs1 hr1))
  exact J_loc [2, 3, 1, 0] rfl (lo1 n (0) p0 hl1)
end

set_option maxHeartbeats 4000000 in
set_option maxRecDepth 100000 in
theorem cs_8 {d : DT} {Φ : JC} {nm : String} (hK : Ok d Φ RL nm cL_law 4 (some .boolean) room_1) {b : Nat} {xs : Nat → Int32} (hX : Scr Φ b 7 xs) (h0 : Nat → Nat) (h1 : Nat → Nat) (h2 : Nat → Nat) (h3 : Nat → Nat) (h4 : Nat → Nat) (h6 : Nat → Nat) (h7 : Nat → Nat) (h8 : Nat → Nat) (h9 : Nat → Nat) (h10 : Nat → Nat) (rE hm rr rl rg rw : Nat → Nat) (tail : ∀ {ce sl : Nat}, ce ≤ 600000 → sl ≤ 7302250 → J d Φ 4 [] ce sl 1595 [(3, .int 0), (2, .ref (hm 0)), (1, .ref (h0 0)), (0, .ref b)] []) : J d Φ 4 [gTw d h0 (h1 0) (h2 0) (h3 0) (h4 0) (h6 0) (h7 0) (fun _ => 0) 0 0 0, gLd d h1 0 0 0 10 (fun _ => 0) (fun _ => 0) (fun _ => 0) (fillV 12 9 (fun _ => 0)) (fillV 3 1 (fun _ => 0)) (fun _ => 0) 0, gLd d h2 0 0 0 10 (fun _ => 0) (fun _ => 0) (fun _ => 0) (fillV 12 9 (fun _ => 0)) (fillV 3 1 (fun _ => 0)) (fun _ => 0) 0, gTp d h3 (fun _ => 0) 0 0 0 0 0, gSh d h4 rE (fillV 8 (-1) (fun _ => 0)) (fun _ => 0), gridJ d rE 8 40 (fun _ _ => 0), gCh d h6 (h7 0) (h9 0) (h10 0) (fun _ => 0), gTr d h7 (h8 0) (fun _ => 0) (fun _ => 0) 0 0, gWy d h8 (fun _ => 0) (fun _ => 0) (fun _ => 0) (fun _ => 0) (fun _ => 0) (fun _ => 0) (fun _ => 0) (fun _ => 0) 0 (fun _ => 0) 0 0 0 (-1), gLd d h9 0 0 0 10 (fun _ => 0) (fun _ => 0) (fun _ => 0) (fillV 12 9 (fun _ => 0)) (fillV 3 1 (fun _ => 0)) (fun _ => 0) 0, gLd d h10 0 0 0 10 (fun _ => 0) (fun _ => 0) (fun _ => 0) (fillV 12 9 (fun _ => 0)) (fillV 3 1 (fun _ => 0)) (fun _ => 0) 0, gMd d hm none none none rr rl rg rw (fun _ => 0) (fun _ => 0) (fun _ => 0) (fun _ => 0) (fun _ => 0) (fun _ => 0) 0 (fun _ => 0) 0 (fillV 12 9 (fun _ => 0)) (va_up (va_up (va_up (fun _ => 0) 0 1) 1 1) 2 1) 0 0 10 0 0 0 0 0 0 0 (fun _ => 0) 0 (fun _ => 0) (fun _ => 0) 0 (fun _ => 0) 0 0 (fun _ => 0) (fun _ => 0), gridJ d rr 8 40 (fun _ _ => 0), gridI d rl 20 7 (fun _ _ => 0), gridI d rg 8 3 (fun _ _ => 0), gridI d rw 7 5 (fun _ _ => 0)] 122 3685 609 [(3, .int 0), (2, .ref (hm 0)), (1, .ref (h0 0)), (0, .ref b)] [] := by
  refine J_aload_n hK dL_law_609 rfl 2 rfl rfl ?_
  refine J_aload_n hK dL_law_610 rfl 3 rfl rfl ?_
  refine J_iload_n hK dL_law_611 rfl 0 rfl rfl ?_
  refine J_iconst (v := 1) hK dL_law_612 rfl (by decide) ?_
  refine J_iadd hK dL_law_613 rfl ?_
  refine J_sld (v := xs 1) hK hX dL_law_614 rfl rfl ?_
  refine J_aload_n hK dL_law_615 rfl 3 rfl rfl ?_
  refine J_iload_n hK dL_law_616 rfl 0 rfl rfl ?_
  refine J_iconst (v := 2) hK dL_law_617 rfl (by decide) ?_
  refine J_iadd hK dL_law_618 rfl ?_
  refine J_sld (v := xs 2) hK hX dL_law_619 rfl rfl ?_
  refine J_aload_n hK dL_law_620 rfl 3 rfl rfl ?_
  refine J_iload_n hK dL_law_621 rfl 0 rfl rfl ?_
  refine J_iconst (v := 3) hK dL_law_622 rfl (by decide) ?_
  refine J_iadd hK dL_law_623 rfl ?_
  refine J_sld (v := xs 3) hK hX dL_law_624 rfl rfl ?_
  obtain ⟨ox, om, hx, hom, he⟩ := pe_8 (xs 1) (xs 2) (xs 3)
  refine J_callVd (m := 16) (ce' := 122) (sl' := 3685) (gr := [gLd d h2 0 0 0 10 (fun _ => 0) (fun _ => 0) (fun _ => 0) (fillV 12 9 (fun _ => 0)) (fillV 3 1 (fun _ => 0)) (fun _ => 0) 0, gTp d h3 (fun _ => 0) 0 0 0 0 0, gSh d h4 rE (fillV 8 (-1) (fun _ => 0)) (fun _ => 0), gridJ d rE 8 40 (fun _ _ => 0), gCh d h6 (h7 0) (h9 0) (h10 0) (fun _ => 0), gTr d h7 (h8 0) (fun _ => 0) (fun _ => 0) 0 0, gWy d h8 (fun _ => 0) (fun _ => 0) (fun _ => 0) (fun _ => 0) (fun _ => 0) (fun _ => 0) (fun _ => 0) (fun _ => 0) 0 (fun _ => 0) 0 0 0 (-1), gLd d h9 0 0 0 10 (fun _ => 0) (fun _ => 0) (fun _ => 0) (fillV 12 9 (fun _ => 0)) (fillV 3 1 (fun _ => 0)) (fun _ => 0) 0, gLd d h10 0 0 0 10 (fun _ => 0) (fun _ => 0) (fun _ => 0) (fillV 12 9 (fun _ => 0)) (fillV 3 1 (fun _ => 0)) (fun _ => 0) 0, gMd d hm none none none rr rl rg rw (fun _ => 0) (fun _ => 0) (fun _ => 0) (fun _ => 0) (fun _ => 0) (fun _ => 0) 0 (fun _ => 0) 0 (fillV 12 9 (fun _ => 0)) (va_up (va_up (va_up (fun _ => 0) 0 1) 1 1) 2 1) 0 0 10 0 0 0 0 0 0 0 (fun _ => 0) 0 (fun _ => 0) (fun _ => 0) 0 (fun _ => 0) 0 0 (fun _ => 0) (fun _ => 0), gridJ d rr 8 40 (fun _ _ => 0), gridI d rl 20 7 (fun _ _ => 0), gridI d rg 8 3 (fun _ _ => 0), gridI d rw 7 5 (fun _ _ => 0)]) (v := .int (ox.1)) (st := []) hK dL_law_625 cv_RL_54 iv_yX6_goods (As := [.int (xs 1), .int (xs 2), .int (xs 3)]) (kX6_goods _ d h0 (h2 0) (h3 0) (h4 0) (h6 0) (h7 0) h1 (fun _ => 0) 0 0 0 0 0 0 10 (fun _ => 0) (fun _ => 0) (fun _ => 0) (fillV 12 9 (fun _ => 0)) (fillV 3 1 (fun _ => 0)) (fun _ => 0) 0 (xs 1) (xs 2) (xs 3) hx) (fun _ => rfl) rfl rfl (Nat.le_of_ble_eq_true rfl) (by decide) 0 0 rfl rfl rfl [0, 1] [2, 3, 4, 5, 6, 7, 8, 9, 10, 11, 12, 13, 14, 15] rfl (by decide +kernel) rfl rfl rfl rfl rfl ?_
  refine J_drp (gs2 := [gMd d hm none none none rr rl rg rw (fun _ => 0) (fun _ => 0) (fun _ => 0) (fun _ => 0) (fun _ => 0) (fun _ => 0) 0 (fun _ => 0) 0 (fillV 12 9 (fun _ => 0)) (va_up (va_up (va_up (fun _ => 0) 0 1) 1 1) 2 1) 0 0 10 0 0 0 0 0 0 0 (fun _ => 0) 0 (fun _ => 0) (fun _ => 0) 0 (fun _ => 0) 0 0 (fun _ => 0) (fun _ => 0), gridJ d rr 8 40 (fun _ _ => 0), gridI d rl 20 7 (fun _ _ => 0), gridI d rg 8 3 (fun _ _ => 0), gridI d rw 7 5 (fun _ _ => 0)]) 9 rfl ?_
  refine J_aload_n hK dL_law_628 rfl 1 rfl rfl ?_
  refine J_aload_n hK dL_law_629 rfl 3 rfl rfl ?_
  refine J_iload_n hK dL_law_630 rfl 0 rfl rfl ?_
  refine J_iconst (v := 1) hK dL_law_631 rfl (by decide) ?_
  refine J_iadd hK dL_law_632 rfl ?_
  refine J_sld (v := xs 1) hK hX dL_law_633 rfl rfl ?_
  refine J_aload_n hK dL_law_634 rfl 3 rfl rfl ?_
  refine J_iload_n hK dL_law_635 rfl 0 rfl rfl ?_
  refine J_iconst (v := 2) hK dL_law_636 rfl (by decide) ?_
  refine J_iadd hK dL_law_637 rfl ?_
  refine J_sld (v := xs 2) hK hX dL_law_638 rfl rfl ?_
  refine J_aload_n hK dL_law_639 rfl 3 rfl rfl ?_
  refine J_iload_n hK dL_law_640 rfl 0 rfl rfl ?_
  refine J_iconst (v := 3) hK dL_law_641 rfl (by decide) ?_
  refine J_iadd hK dL_law_642 rfl ?_
  refine J_sld (v := xs 3) hK hX dL_law_643 rfl rfl ?_
  refine J_callVd (m := 5) (ce' := 122) (sl' := 3685) (gr := [gridJ d rr 8 40 (fun _ _ => 0), gridI d rl 20 7 (fun _ _ => 0), gridI d rw 7 5 (fun _ _ => 0)]) (v := .int (om.1)) (st := [.int (ox.1)]) hK dL_law_644 cv_RL_57 iv_yX7_goods (As := [.int (xs 1), .int (xs 2), .int (xs 3)]) (kX7_goods _ d hm rr rl rg rw none none none (fun _ => 0) (fun _ => 0) (fun _ => 0) (fun _ _ => 0) (fun _ => 0) (fun _ => 0) (fun _ => 0) 0 (fun _ => 0) 0 (fun _ _ => 0) (fillV 12 9 (fun _ => 0)) (va_up (va_up (va_up (fun _ => 0) 0 1) 1 1) 2 1) 0 (fun _ _ => 0) 0 (fun _ _ => 0) 10 0 0 0 0 0 0 0 (fun _ => 0) 0 (fun _ => 0) (fun _ => 0) 0 (fun _ => 0) 0 0 (fun _ => 0) (fun _ => 0) (xs 1) (xs 2) (xs 3) hom) (fun _ => rfl) rfl rfl (Nat.le_of_ble_eq_true rfl) (by decide) 0 0 rfl rfl rfl [0, 3] [1, 2, 4] rfl (by decide +kernel) rfl rfl rfl rfl rfl ?_
  refine J_icmp_eq (tg := 1595) hK dL_law_647 rfl rfl (fun _ => ?_) (fun h => absurd he h)
  exact J_nil (tail (by decide) (by decide))

set_option maxHeartbeats 4000000 in
set_option maxRecDepth 100000 in
theorem cs_9 {d : DT} {Φ : JC} {nm : String} (hK : Ok d Φ RL nm cL_law 4 (some .boolean) room_1) {b : Nat} {xs : Nat → Int32} (hX : Scr Φ b 7 xs) (h0 : Nat → Nat) (h1 : Nat → Nat) (h2 : Nat → Nat) (h3 : Nat → Nat) (h4 : Nat → Nat) (h6 : Nat → Nat) (h7 : Nat → Nat) (h8 : Nat → Nat) (h9 : Nat → Nat) (h10 : Nat → Nat) (rE hm rr rl rg rw : Nat → Nat) (tail : ∀ {ce sl : Nat}, ce ≤ 600000 → sl ≤ 7302250 → J d Φ 4 [] ce sl 1595 [(3, .int 0), (2, .ref (hm 0)), (1, .ref (h0 0)), (0, .ref b)] []) : J d Φ 4 [gTw d h0 (h1 0) (h2 0) (h3 0) (h4 0) (h6 0) (h7 0) (fun _ => 0) 0 0 0, gLd d h1 0 0 0 10 (fun _ => 0) (fun _ => 0) (fun _ => 0) (fillV 12 9 (fun _ => 0)) (fillV 3 1 (fun _ => 0)) (fun _ => 0) 0, gLd d h2 0 0 0 10 (fun _ => 0) (fun _ => 0) (fun _ => 0) (fillV 12 9 (fun _ => 0)) (fillV 3 1 (fun _ => 0)) (fun _ => 0) 0, gTp d h3 (fun _ => 0) 0 0 0 0 0, gSh d h4 rE (fillV 8 (-1) (fun _ => 0)) (fun _ => 0), gridJ d rE 8 40 (fun _ _ => 0), gCh d h6 (h7 0) (h9 0) (h10 0) (fun _ => 0), gTr d h7 (h8 0) (fun _ => 0) (fun _ => 0) 0 0, gWy d h8 (fun _ => 0) (fun _ => 0) (fun _ => 0) (fun _ => 0) (fun _ => 0) (fun _ => 0) (fun _ => 0) (fun _ => 0) 0 (fun _ => 0) 0 0 0 (-1), gLd d h9 0 0 0 10 (fun _ => 0) (fun _ => 0) (fun _ => 0) (fillV 12 9 (fun _ => 0)) (fillV 3 1 (fun _ => 0)) (fun _ => 0) 0, gLd d h10 0 0 0 10 (fun _ => 0) (fun _ => 0) (fun _ => 0) (fillV 12 9 (fun _ => 0)) (fillV 3 1 (fun _ => 0)) (fun _ => 0) 0, gMd d hm none none none rr rl rg rw (fun _ => 0) (fun _ => 0) (fun _ => 0) (fun _ => 0) (fun _ => 0) (fun _ => 0) 0 (fun _ => 0) 0 (fillV 12 9 (fun _ => 0)) (va_up (va_up (va_up (fun _ => 0) 0 1) 1 1) 2 1) 0 0 10 0 0 0 0 0 0 0 (fun _ => 0) 0 (fun _ => 0) (fun _ => 0) 0 (fun _ => 0) 0 0 (fun _ => 0) (fun _ => 0), gridJ d rr 8 40 (fun _ _ => 0), gridI d rl 20 7 (fun _ _ => 0), gridI d rg 8 3 (fun _ _ => 0), gridI d rw 7 5 (fun _ _ => 0)] 122 3685 652 [(3, .int 0), (2, .ref (hm 0)), (1, .ref (h0 0)), (0, .ref b)] [] := by
  refine J_aload_n hK dL_law_652 rfl 2 rfl rfl ?_
  refine J_aload_n hK dL_law_653 rfl 3 rfl rfl ?_
  refine J_iload_n hK dL_law_654 rfl 0 rfl rfl ?_
  refine J_iconst (v := 1) hK dL_law_655 rfl (by decide) ?_
  refine J_iadd hK dL_law_656 rfl ?_
  refine J_sld (v := xs 1) hK hX dL_law_657 rfl rfl ?_
  refine J_aload_n hK dL_law_658 rfl 3 rfl rfl ?_
  refine J_iload_n hK dL_law_659 rfl 0 rfl rfl ?_
  refine J_iconst (v := 2) hK dL_law_660 rfl (by decide) ?_
  refine J_iadd hK dL_law_661 rfl ?_
  refine J_sld (v := xs 2) hK hX dL_law_662 rfl rfl ?_
  refine J_aload_n hK dL_law_663 rfl 3 rfl rfl ?_
  refine J_iload_n hK dL_law_664 rfl 0 rfl rfl ?_
  refine J_iconst (v := 3) hK dL_law_665 rfl (by decide) ?_
  refine J_iadd hK dL_law_666 rfl ?_
  refine J_sld (v := xs 3) hK hX dL_law_667 rfl rfl ?_
  refine J_aload_n hK dL_law_668 rfl 3 rfl rfl ?_
  refine J_iload_n hK dL_law_669 rfl 0 rfl rfl ?_
  refine J_iconst (v := 4) hK dL_law_670 rfl (by decide) ?_
  refine J_iadd hK dL_law_671 rfl ?_
  refine J_sld (v := xs 4) hK hX dL_law_672 rfl rfl ?_
  obtain ⟨ox, om, hx, hom, he⟩ := pe_9 (xs 1) (xs 2) (xs 3) (xs 4)
  refine J_callVd (m := 16) (ce' := 122) (sl' := 3685) (gr := [gLd d h2 0 0 0 10 (fun _ => 0) (fun _ => 0) (fun _ => 0) (fillV 12 9 (fun _ => 0)) (fillV 3 1 (fun _ => 0)) (fun _ => 0) 0, gTp d h3 (fun _ => 0) 0 0 0 0 0, gSh d h4 rE (fillV 8 (-1) (fun _ => 0)) (fun _ => 0), gridJ d rE 8 40 (fun _ _ => 0), gCh d h6 (h7 0) (h9 0) (h10 0) (fun _ => 0), gTr d h7 (h8 0) (fun _ => 0) (fun _ => 0) 0 0, gWy d h8 (fun _ => 0) (fun _ => 0) (fun _ => 0) (fun _ => 0) (fun _ => 0) (fun _ => 0) (fun _ => 0) (fun _ => 0) 0 (fun _ => 0) 0 0 0 (-1), gLd d h9 0 0 0 10 (fun _ => 0) (fun _ => 0) (fun _ => 0) (fillV 12 9 (fun _ => 0)) (fillV 3 1 (fun _ => 0)) (fun _ => 0) 0, gLd d h10 0 0 0 10 (fun _ => 0) (fun _ => 0) (fun _ => 0) (fillV 12 9 (fun _ => 0)) (fillV 3 1 (fun _ => 0)) (fun _ => 0) 0, gMd d hm none none none rr rl rg rw (fun _ => 0) (fun _ => 0) (fun _ => 0) (fun _ => 0) (fun _ => 0) (fun _ => 0) 0 (fun _ => 0) 0 (fillV 12 9 (fun _ => 0)) (va_up (va_up (va_up (fun _ => 0) 0 1) 1 1) 2 1) 0 0 10 0 0 0 0 0 0 0 (fun _ => 0) 0 (fun _ => 0) (fun _ => 0) 0 (fun _ => 0) 0 0 (fun _ => 0) (fun _ => 0), gridJ d rr 8 40 (fun _ _ => 0), gridI d rl 20 7 (fun _ _ => 0), gridI d rg 8 3 (fun _ _ => 0), gridI d rw 7 5 (fun _ _ => 0)]) (v := .int (ox.1)) (st := []) hK dL_law_673 cv_RL_58 iv_yX6_work (As := [.int (xs 1), .int (xs 2), .int (xs 3), .int (xs 4)]) (kX6_work _ d h0 (h2 0) (h3 0) (h4 0) (h6 0) (h7 0) h1 1000 (fun _ => 0) 0 0 0 0 0 0 10 (fun _ => 0) (fun _ => 0) (fun _ => 0) (fillV 12 9 (fun _ => 0)) (fillV 3 1 (fun _ => 0)) (fun _ => 0) 0 (xs 1) (xs 2) (xs 3) (xs 4) hx) (fun _ => rfl) rfl rfl (Nat.le_of_ble_eq_true rfl) (by decide) 0 0 rfl rfl rfl [0, 1] [2, 3, 4, 5, 6, 7, 8, 9, 10, 11, 12, 13, 14, 15] rfl (by decide +kernel) rfl rfl rfl rfl rfl ?_
  refine J_drp (gs2 := [gMd d hm none none none rr rl rg rw (fun _ => 0) (fun _ => 0) (fun _ => 0) (fun _ => 0) (fun _ => 0) (fun _ => 0) 0 (fun _ => 0) 0 (fillV 12 9 (fun _ => 0)) (va_up (va_up (va_up (fun _ => 0) 0 1) 1 1) 2 1) 0 0 10 0 0 0 0 0 0 0 (fun _ => 0) 0 (fun _ => 0) (fun _ => 0) 0 (fun _ => 0) 0 0 (fun _ => 0) (fun _ => 0), gridJ d rr 8 40 (fun _ _ => 0), gridI d rl 20 7 (fun _ _ => 0), gridI d rg 8 3 (fun _ _ => 0), gridI d rw 7 5 (fun _ _ => 0)]) 9 rfl ?_
  refine J_aload_n hK dL_law_676 rfl 1 rfl rfl ?_
  refine J_aload_n hK dL_law_677 rfl 3 rfl rfl ?_
  refine J_iload_n hK dL_law_678 rfl 0 rfl rfl ?_
  refine J_iconst (v := 1) hK dL_law_679 rfl (by decide) ?_
  refine J_iadd hK dL_law_680 rfl ?_
  refine J_sld (v := xs 1) hK hX dL_law_681 rfl rfl ?_
  refine J_aload_n hK dL_law_682 rfl 3 rfl rfl ?_
  refine J_iload_n hK dL_law_683 rfl 0 rfl rfl ?_
  refine J_iconst (v := 2) hK dL_law_684 rfl (by decide) ?_
  refine J_iadd hK dL_law_685 rfl ?_
  refine J_sld (v := xs 2) hK hX dL_law_686 rfl rfl ?_
  refine J_aload_n hK dL_law_687 rfl 3 rfl rfl ?_
  refine J_iload_n hK dL_law_688 rfl 0 rfl rfl ?_
  refine J_iconst (v := 3) hK dL_law_689 rfl (by decide) ?_
  refine J_iadd hK dL_law_690 rfl ?_
  refine J_sld (v := xs 3) hK hX dL_law_691 rfl rfl ?_
  refine J_aload_n hK dL_law_692 rfl 3 rfl rfl ?_
  refine J_iload_n hK dL_law_693 rfl 0 rfl rfl ?_
  refine J_iconst (v := 4) hK dL_law_694 rfl (by decide) ?_
  refine J_iadd hK dL_law_695 rfl ?_
  refine J_sld (v := xs 4) hK hX dL_law_696 rfl rfl ?_
  refine J_callVd (m := 5) (ce' := 122) (sl' := 3685) (gr := [gridJ d rr 8 40 (fun _ _ => 0), gridI d rl 20 7 (fun _ _ => 0), gridI d rg 8 3 (fun _ _ => 0)]) (v := .int (om.1)) (st := [.int (ox.1)]) hK dL_law_697 cv_RL_62 iv_yX7_work (As := [.int (xs 1), .int (xs 2), .int (xs 3), .int (xs 4)]) (kX7_work _ d hm rr rl rg rw none none none (fun _ => 0) (fun _ => 0) (fun _ => 0) (fun _ _ => 0) (fun _ => 0) (fun _ => 0) (fun _ => 0) 0 (fun _ => 0) 0 (fun _ _ => 0) (fillV 12 9 (fun _ => 0)) (va_up (va_up (va_up (fun _ => 0) 0 1) 1 1) 2 1) 0 (fun _ _ => 0) 0 (fun _ _ => 0) 10 0 0 0 0 0 0 0 (fun _ => 0) 0 (fun _ => 0) (fun _ => 0) 0 (fun _ => 0) 0 0 (fun _ => 0) (fun _ => 0) (xs 1) (xs 2) (xs 3) (xs 4) hom) (fun _ => rfl) rfl rfl (Nat.le_of_ble_eq_true rfl) (by decide) 0 0 rfl rfl rfl [0, 4] [1, 2, 3] rfl (by decide +kernel) rfl rfl rfl rfl rfl ?_
  refine J_icmp_eq (tg := 1595) hK dL_law_700 rfl rfl (fun _ => ?_) (fun h => absurd he h)
  exact J_nil (tail (by decide) (by decide))

set_option maxHeartbeats 4000000 in
set_option maxRecDepth 100000 in
theorem cs_10 {d : DT} {Φ : JC} {nm : String} (hK : Ok d Φ RL nm cL_law 4 (some .boolean) room_1) {b : Nat} {xs : Nat → Int32} (hX : Scr Φ b 7 xs) (h0 : Nat → Nat) (h1 : Nat → Nat) (h2 : Nat → Nat) (h3 : Nat → Nat) (h4 : Nat → Nat) (h6 : Nat → Nat) (h7 : Nat → Nat) (h8 : Nat → Nat) (h9 : Nat → Nat) (h10 : Nat → Nat) (rE hm rr rl rg rw : Nat → Nat) (tail : ∀ {ce sl : Nat}, ce ≤ 600000 → sl ≤ 7302250 → J d Φ 4 [] ce sl 1595 [(3, .int 0), (2, .ref (hm 0)), (1, .ref (h0 0)), (0, .ref b)] []) : J d Φ 4 [gTw d h0 (h1 0) (h2 0) (h3 0) (h4 0) (h6 0) (h7 0) (fun _ => 0) 0 0 0, gLd d h1 0 0 0 10 (fun _ => 0) (fun _ => 0) (fun _ => 0) (fillV 12 9 (fun _ => 0)) (fillV 3 1 (fun _ => 0)) (fun _ => 0) 0, gLd d h2 0 0 0 10 (fun _ => 0) (fun _ => 0) (fun _ => 0) (fillV 12 9 (fun _ => 0)) (fillV 3 1 (fun _ => 0)) (fun _ => 0) 0, gTp d h3 (fun _ => 0) 0 0 0 0 0, gSh d h4 rE (fillV 8 (-1) (fun _ => 0)) (fun _ => 0), gridJ d rE 8 40 (fun _ _ => 0), gCh d h6 (h7 0) (h9 0) (h10 0) (fun _ => 0), gTr d h7 (h8 0) (fun _ => 0) (fun _ => 0) 0 0, gWy d h8 (fun _ => 0) (fun _ => 0) (fun _ => 0) (fun _ => 0) (fun _ => 0) (fun _ => 0) (fun _ => 0) (fun _ => 0) 0 (fun _ => 0) 0 0 0 (-1), gLd d h9 0 0 0 10 (fun _ => 0) (fun _ => 0) (fun _ => 0) (fillV 12 9 (fun _ => 0)) (fillV 3 1 (fun _ => 0)) (fun _ => 0) 0, gLd d h10 0 0 0 10 (fun _ => 0) (fun _ => 0) (fun _ => 0) (fillV 12 9 (fun _ => 0)) (fillV 3 1 (fun _ => 0)) (fun _ => 0) 0, gMd d hm none none none rr rl rg rw (fun _ => 0) (fun _ => 0) (fun _ => 0) (fun _ => 0) (fun _ => 0) (fun _ => 0) 0 (fun _ => 0) 0 (fillV 12 9 (fun _ => 0)) (va_up (va_up (va_up (fun _ => 0) 0 1) 1 1) 2 1) 0 0 10 0 0 0 0 0 0 0 (fun _ => 0) 0 (fun _ => 0) (fun _ => 0) 0 (fun _ => 0) 0 0 (fun _ => 0) (fun _ => 0), gridJ d rr 8 40 (fun _ _ => 0), gridI d rl 20 7 (fun _ _ => 0), gridI d rg 8 3 (fun _ _ => 0), gridI d rw 7 5 (fun _ _ => 0)] 122 3685 705 [(3, .int 0), (2, .ref (hm 0)), (1, .ref (h0 0)), (0, .ref b)] [] := by
  refine J_aload_n hK dL_law_705 rfl 2 rfl rfl ?_
  refine J_aload_n hK dL_law_706 rfl 3 rfl rfl ?_
  refine J_iload_n hK dL_law_707 rfl 0 rfl rfl ?_
  refine J_iconst (v := 1) hK dL_law_708 rfl (by decide) ?_
  refine J_iadd hK dL_law_709 rfl ?_
  refine J_sld (v := xs 1) hK hX dL_law_710 rfl rfl ?_
  refine J_aload_n hK dL_law_711 rfl 3 rfl rfl ?_
  refine J_iload_n hK dL_law_712 rfl 0 rfl rfl ?_
  refine J_iconst (v := 2) hK dL_law_713 rfl (by decide) ?_
  refine J_iadd hK dL_law_714 rfl ?_
  refine J_sld (v := xs 2) hK hX dL_law_715 rfl rfl ?_
  obtain ⟨ox, om, hx, hom, he⟩ := pe_10 (xs 1) (xs 2)
  refine J_callVd (m := 16) (ce' := 122) (sl' := 3685) (gr := [gLd d h2 0 0 0 10 (fun _ => 0) (fun _ => 0) (fun _ => 0) (fillV 12 9 (fun _ => 0)) (fillV 3 1 (fun _ => 0)) (fun _ => 0) 0, gTp d h3 (fun _ => 0) 0 0 0 0 0, gSh d h4 rE (fillV 8 (-1) (fun _ => 0)) (fun _ => 0), gridJ d rE 8 40 (fun _ _ => 0), gCh d h6 (h7 0) (h9 0) (h10 0) (fun _ => 0), gTr d h7 (h8 0) (fun _ => 0) (fun _ => 0) 0 0, gWy d h8 (fun _ => 0) (fun _ => 0) (fun _ => 0) (fun _ => 0) (fun _ => 0) (fun _ => 0) (fun _ => 0) (fun _ => 0) 0 (fun _ => 0) 0 0 0 (-1), gLd d h9 0 0 0 10 (fun _ => 0) (fun _ => 0) (fun _ => 0) (fillV 12 9 (fun _ => 0)) (fillV 3 1 (fun _ => 0)) (fun _ => 0) 0, gLd d h10 0 0 0 10 (fun _ => 0) (fun _ => 0) (fun _ => 0) (fillV 12 9 (fun _ => 0)) (fillV 3 1 (fun _ => 0)) (fun _ => 0) 0, gMd d hm none none none rr rl rg rw (fun _ => 0) (fun _ => 0) (fun _ => 0) (fun _ => 0) (fun _ => 0) (fun _ => 0) 0 (fun _ => 0) 0 (fillV 12 9 (fun _ => 0)) (va_up (va_up (va_up (fun _ => 0) 0 1) 1 1) 2 1) 0 0 10 0 0 0 0 0 0 0 (fun _ => 0) 0 (fun _ => 0) (fun _ => 0) 0 (fun _ => 0) 0 0 (fun _ => 0) (fun _ => 0), gridJ d rr 8 40 (fun _ _ => 0), gridI d rl 20 7 (fun _ _ => 0), gridI d rg 8 3 (fun _ _ => 0), gridI d rw 7 5 (fun _ _ => 0)]) (v := .int (ox.1)) (st := []) hK dL_law_716 cv_RL_63 iv_yX6_change (As := [.int (xs 1), .int (xs 2)]) (kX6_change _ d h0 (h2 0) (h3 0) (h4 0) (h6 0) (h7 0) h1 (fun _ => 0) 0 0 0 0 0 0 10 (fun _ => 0) (fun _ => 0) (fun _ => 0) (fillV 12 9 (fun _ => 0)) (fillV 3 1 (fun _ => 0)) (fun _ => 0) 0 (xs 1) (xs 2) hx) (fun _ => rfl) rfl rfl (Nat.le_of_ble_eq_true rfl) (by decide) 0 0 rfl rfl rfl [0, 1] [2, 3, 4, 5, 6, 7, 8, 9, 10, 11, 12, 13, 14, 15] rfl (by decide +kernel) rfl rfl rfl rfl rfl ?_
  refine J_drp (gs2 := [gMd d hm none none none rr rl rg rw (fun _ => 0) (fun _ => 0) (fun _ => 0) (fun _ => 0) (fun _ => 0) (fun _ => 0) 0 (fun _ => 0) 0 (fillV 12 9 (fun _ => 0)) (va_up (va_up (va_up (fun _ => 0) 0 1) 1 1) 2 1) 0 0 10 0 0 0 0 0 0 0 (fun _ => 0) 0 (fun _ => 0) (fun _ => 0) 0 (fun _ => 0) 0 0 (fun _ => 0) (fun _ => 0), gridJ d rr 8 40 (fun _ _ => 0), gridI d rl 20 7 (fun _ _ => 0), gridI d rg 8 3 (fun _ _ => 0), gridI d rw 7 5 (fun _ _ => 0)]) 9 rfl ?_
  refine J_aload_n hK dL_law_719 rfl 1 rfl rfl ?_
  refine J_aload_n hK dL_law_720 rfl 3 rfl rfl ?_
  refine J_iload_n hK dL_law_721 rfl 0 rfl rfl ?_
  refine J_iconst (v := 1) hK dL_law_722 rfl (by decide) ?_
  refine J_iadd hK dL_law_723 rfl ?_
  refine J_sld (v := xs 1) hK hX dL_law_724 rfl rfl ?_
  refine J_aload_n hK dL_law_725 rfl 3 rfl rfl ?_
  refine J_iload_n hK dL_law_726 rfl 0 rfl rfl ?_
  refine J_iconst (v := 2) hK dL_law_727 rfl (by decide) ?_
  refine J_iadd hK dL_law_728 rfl ?_
  refine J_sld (v := xs 2) hK hX dL_law_729 rfl rfl ?_
  refine J_callVd (m := 5) (ce' := 122) (sl' := 3685) (gr := [gridJ d rr 8 40 (fun _ _ => 0), gridI d rl 20 7 (fun _ _ => 0), gridI d rg 8 3 (fun _ _ => 0), gridI d rw 7 5 (fun _ _ => 0)]) (v := .int (om.1)) (st := [.int (ox.1)]) hK dL_law_730 cv_RL_66 iv_yX7_change (As := [.int (xs 1), .int (xs 2)]) (kX7_change _ d hm rr rl rg rw none none none (fun _ => 0) (fun _ => 0) (fun _ => 0) (fun _ _ => 0) (fun _ => 0) (fun _ => 0) (fun _ => 0) 0 (fun _ => 0) 0 (fun _ _ => 0) (fillV 12 9 (fun _ => 0)) (va_up (va_up (va_up (fun _ => 0) 0 1) 1 1) 2 1) 0 (fun _ _ => 0) 0 (fun _ _ => 0) 10 0 0 0 0 0 0 0 (fun _ => 0) 0 (fun _ => 0) (fun _ => 0) 0 (fun _ => 0) 0 0 (fun _ => 0) (fun _ => 0) (xs 1) (xs 2) hom) (fun _ => rfl) rfl rfl (Nat.le_of_ble_eq_true rfl) (by decide) 0 0 rfl rfl rfl [0] [1, 2, 3, 4] rfl (by decide +kernel) rfl rfl rfl rfl rfl ?_
  refine J_icmp_eq (tg := 1595) hK dL_law_733 rfl rfl (fun _ => ?_) (fun h => absurd he h)
  exact J_nil (tail (by decide) (by decide))

set_option maxHeartbeats 4000000 in
set_option maxRecDepth 100000 in
theorem cs_11 {d : DT} {Φ : JC} {nm : String} (hK : Ok d Φ RL nm cL_law 4 (some .boolean) room_1) {b : Nat} {xs : Nat → Int32} (hX : Scr Φ b 7 xs) (h0 : Nat → Nat) (h1 : Nat → Nat) (h2 : Nat → Nat) (h3 : Nat → Nat) (h4 : Nat → Nat) (h6 : Nat → Nat) (h7 : Nat → Nat) (h8 : Nat → Nat) (h9 : Nat → Nat) (h10 : Nat → Nat) (rE hm rr rl rg rw : Nat → Nat) (tail : ∀ {ce sl : Nat}, ce ≤ 600000 → sl ≤ 7302250 → J d Φ 4 [] ce sl 1595 [(3, .int 0), (2, .ref (hm 0)), (1, .ref (h0 0)), (0, .ref b)] []) : J d Φ 4 [gTw d h0 (h1 0) (h2 0) (h3 0) (h4 0) (h6 0) (h7 0) (fun _ => 0) 0 0 0, gLd d h1 0 0 0 10 (fun _ => 0) (fun _ => 0) (fun _ => 0) (fillV 12 9 (fun _ => 0)) (fillV 3 1 (fun _ => 0)) (fun _ => 0) 0, gLd d h2 0 0 0 10 (fun _ => 0) (fun _ => 0) (fun _ => 0) (fillV 12 9 (fun _ => 0)) (fillV 3 1 (fun _ => 0)) (fun _ => 0) 0, gTp d h3 (fun _ => 0) 0 0 0 0 0, gSh d h4 rE (fillV 8 (-1) (fun _ => 0)) (fun _ => 0), gridJ d rE 8 40 (fun _ _ => 0), gCh d h6 (h7 0) (h9 0) (h10 0) (fun _ => 0), gTr d h7 (h8 0) (fun _ => 0) (fun _ => 0) 0 0, gWy d h8 (fun _ => 0) (fun _ => 0) (fun _ => 0) (fun _ => 0) (fun _ => 0) (fun _ => 0) (fun _ => 0) (fun _ => 0) 0 (fun _ => 0) 0 0 0 (-1), gLd d h9 0 0 0 10 (fun _ => 0) (fun _ => 0) (fun _ => 0) (fillV 12 9 (fun _ => 0)) (fillV 3 1 (fun _ => 0)) (fun _ => 0) 0, gLd d h10 0 0 0 10 (fun _ => 0) (fun _ => 0) (fun _ => 0) (fillV 12 9 (fun _ => 0)) (fillV 3 1 (fun _ => 0)) (fun _ => 0) 0, gMd d hm none none none rr rl rg rw (fun _ => 0) (fun _ => 0) (fun _ => 0) (fun _ => 0) (fun _ => 0) (fun _ => 0) 0 (fun _ => 0) 0 (fillV 12 9 (fun _ => 0)) (va_up (va_up (va_up (fun _ => 0) 0 1) 1 1) 2 1) 0 0 10 0 0 0 0 0 0 0 (fun _ => 0) 0 (fun _ => 0) (fun _ => 0) 0 (fun _ => 0) 0 0 (fun _ => 0) (fun _ => 0), gridJ d rr 8 40 (fun _ _ => 0), gridI d rl 20 7 (fun _ _ => 0), gridI d rg 8 3 (fun _ _ => 0), gridI d rw 7 5 (fun _ _ => 0)] 122 3685 738 [(3, .int 0), (2, .ref (hm 0)), (1, .ref (h0 0)), (0, .ref b)] [] := by
  refine J_aload_n hK dL_law_738 rfl 2 rfl rfl ?_
  refine J_aload_n hK dL_law_739 rfl 3 rfl rfl ?_
  refine J_iload_n hK dL_law_740 rfl 0 rfl rfl ?_
  refine J_iconst (v := 1) hK dL_law_741 rfl (by decide) ?_
  refine J_iadd hK dL_law_742 rfl ?_
  refine J_sld (v := xs 1) hK hX dL_law_743 rfl rfl ?_
  refine J_aload_n hK dL_law_744 rfl 3 rfl rfl ?_
  refine J_iload_n hK dL_law_745 rfl 0 rfl rfl ?_
  refine J_iconst (v := 2) hK dL_law_746 rfl (by decide) ?_
  refine J_iadd hK dL_law_747 rfl ?_
  refine J_sld (v := xs 2) hK hX dL_law_748 rfl rfl ?_
  obtain ⟨ox, om, hx, hom, he⟩ := pe_11 (xs 1) (xs 2)
  refine J_callVd (m := 16) (ce' := 122) (sl' := 3685) (gr := [gLd d h2 0 0 0 10 (fun _ => 0) (fun _ => 0) (fun _ => 0) (fillV 12 9 (fun _ => 0)) (fillV 3 1 (fun _ => 0)) (fun _ => 0) 0, gTp d h3 (fun _ => 0) 0 0 0 0 0, gSh d h4 rE (fillV 8 (-1) (fun _ => 0)) (fun _ => 0), gridJ d rE 8 40 (fun _ _ => 0), gCh d h6 (h7 0) (h9 0) (h10 0) (fun _ => 0), gTr d h7 (h8 0) (fun _ => 0) (fun _ => 0) 0 0, gWy d h8 (fun _ => 0) (fun _ => 0) (fun _ => 0) (fun _ => 0) (fun _ => 0) (fun _ => 0) (fun _ => 0) (fun _ => 0) 0 (fun _ => 0) 0 0 0 (-1), gLd d h9 0 0 0 10 (fun _ => 0) (fun _ => 0) (fun _ => 0) (fillV 12 9 (fun _ => 0)) (fillV 3 1 (fun _ => 0)) (fun _ => 0) 0, gLd d h10 0 0 0 10 (fun _ => 0) (fun _ => 0) (fun _ => 0) (fillV 12 9 (fun _ => 0)) (fillV 3 1 (fun _ => 0)) (fun _ => 0) 0, gMd d hm none none none rr rl rg rw (fun _ => 0) (fun _ => 0) (fun _ => 0) (fun _ => 0) (fun _ => 0) (fun _ => 0) 0 (fun _ => 0) 0 (fillV 12 9 (fun _ => 0)) (va_up (va_up (va_up (fun _ => 0) 0 1) 1 1) 2 1) 0 0 10 0 0 0 0 0 0 0 (fun _ => 0) 0 (fun _ => 0) (fun _ => 0) 0 (fun _ => 0) 0 0 (fun _ => 0) (fun _ => 0), gridJ d rr 8 40 (fun _ _ => 0), gridI d rl 20 7 (fun _ _ => 0), gridI d rg 8 3 (fun _ _ => 0), gridI d rw 7 5 (fun _ _ => 0)]) (v := .int (ox.1)) (st := []) hK dL_law_749 cv_RL_67 iv_yX6_coin (As := [.int (xs 1), .int (xs 2)]) (kX6_coin _ d h0 (h2 0) (h3 0) (h4 0) (h6 0) (h7 0) h1 (fun _ => 0) 0 0 0 0 0 0 10 (fun _ => 0) (fun _ => 0) (fun _ => 0) (fillV 12 9 (fun _ => 0)) (fillV 3 1 (fun _ => 0)) (fun _ => 0) 0 (xs 1) (xs 2) hx) (fun _ => rfl) rfl rfl (Nat.le_of_ble_eq_true rfl) (by decide) 0 0 rfl rfl rfl [0, 1] [2, 3, 4, 5, 6, 7, 8, 9, 10, 11, 12, 13, 14, 15] rfl (by decide +kernel) rfl rfl rfl rfl rfl ?_
  refine J_drp (gs2 := [gMd d hm none none none rr rl rg rw (fun _ => 0) (fun _ => 0) (fun _ => 0) (fun _ => 0) (fun _ => 0) (fun _ => 0) 0 (fun _ => 0) 0 (fillV 12 9 (fun _ => 0)) (va_up (va_up (va_up (fun _ => 0) 0 1) 1 1) 2 1) 0 0 10 0 0 0 0 0 0 0 (fun _ => 0) 0 (fun _ => 0) (fun _ => 0) 0 (fun _ => 0) 0 0 (fun _ => 0) (fun _ => 0), gridJ d rr 8 40 (fun _ _ => 0), gridI d rl 20 7 (fun _ _ => 0), gridI d rg 8 3 (fun _ _ => 0), gridI d rw 7 5 (fun _ _ => 0)]) 9 rfl ?_
  refine J_aload_n hK dL_law_752 rfl 1 rfl rfl ?_
  refine J_aload_n hK dL_law_753 rfl 3 rfl rfl ?_
  refine J_iload_n hK dL_law_754 rfl 0 rfl rfl ?_
  refine J_iconst (v := 1) hK dL_law_755 rfl (by decide) ?_
  refine J_iadd hK dL_law_756 rfl ?_
  refine J_sld (v := xs 1) hK hX dL_law_757 rfl rfl ?_
  refine J_aload_n hK dL_law_758 rfl 3 rfl rfl ?_
  refine J_iload_n hK dL_law_759 rfl 0 rfl rfl ?_
  refine J_iconst (v := 2) hK dL_law_760 rfl (by decide) ?_
  refine J_iadd hK dL_law_761 rfl ?_
  refine J_sld (v := xs 2) hK hX dL_law_762 rfl rfl ?_
  refine J_callVd (m := 5) (ce' := 122) (sl' := 3685) (gr := [gridJ d rr 8 40 (fun _ _ => 0), gridI d rl 20 7 (fun _ _ => 0), gridI d rg 8 3 (fun _ _ => 0), gridI d rw 7 5 (fun _ _ => 0)]) (v := .int (om.1)) (st := [.int (ox.1)]) hK dL_law_763 cv_RL_70 iv_yX7_coin (As := [.int (xs 1), .int (xs 2)]) (kX7_coin _ d hm rr rl rg rw none none none (fun _ => 0) (fun _ => 0) (fun _ => 0) (fun _ _ => 0) (fun _ => 0) (fun _ => 0) (fun _ => 0) 0 (fun _ => 0) 0 (fun _ _ => 0) (fillV 12 9 (fun _ => 0)) (va_up (va_up (va_up (fun _ => 0) 0 1) 1 1) 2 1) 0 (fun _ _ => 0) 0 (fun _ _ => 0) 10 0 0 0 0 0 0 0 (fun _ => 0) 0 (fun _ => 0) (fun _ => 0) 0 (fun _ => 0) 0 0 (fun _ => 0) (fun _ => 0) (xs 1) (xs 2) hom) (fun _ => rfl) rfl rfl (Nat.le_of_ble_eq_true rfl) (by decide) 0 0 rfl rfl rfl [0] [1, 2, 3, 4] rfl (by decide +kernel) rfl rfl rfl rfl rfl ?_
  refine J_icmp_eq (tg := 1595) hK dL_law_766 rfl rfl (fun _ => ?_) (fun h => absurd he h)
  exact J_nil (tail (by decide) (by decide))

set_option maxHeartbeats 4000000 in
set_option maxRecDepth 100000 in
theorem cs_12 {d : DT} {Φ : JC} {nm : String} (hK : Ok d Φ RL nm cL_law 4 (some .boolean) room_1) {b : Nat} {xs : Nat → Int32} (hX : Scr Φ b 7 xs) (h0 : Nat → Nat) (h1 : Nat → Nat) (h2 : Nat → Nat) (h3 : Nat → Nat) (h4 : Nat → Nat) (h6 : Nat → Nat) (h7 : Nat → Nat) (h8 : Nat → Nat) (h9 : Nat → Nat) (h10 : Nat → Nat) (rE hm rr rl rg rw : Nat → Nat) (tail : ∀ {ce sl : Nat}, ce ≤ 600000 → sl ≤ 7302250 → J d Φ 4 [] ce sl 1595 [(3, .int 0), (2, .ref (hm 0)), (1, .ref (h0 0)), (0, .ref b)] []) : J d Φ 4 [gTw d h0 (h1 0) (h2 0) (h3 0) (h4 0) (h6 0) (h7 0) (fun _ => 0) 0 0 0, gLd d h1 0 0 0 10 (fun _ => 0) (fun _ => 0) (fun _ => 0) (fillV 12 9 (fun _ => 0)) (fillV 3 1 (fun _ => 0)) (fun _ => 0) 0, gLd d h2 0 0 0 10 (fun _ => 0) (fun _ => 0) (fun _ => 0) (fillV 12 9 (fun _ => 0)) (fillV 3 1 (fun _ => 0)) (fun _ => 0) 0, gTp d h3 (fun _ => 0) 0 0 0 0 0, gSh d h4 rE (fillV 8 (-1) (fun _ => 0)) (fun _ => 0), gridJ d rE 8 40 (fun _ _ => 0), gCh d h6 (h7 0) (h9 0) (h10 0) (fun _ => 0), gTr d h7 (h8 0) (fun _ => 0) (fun _ => 0) 0 0, gWy d h8 (fun _ => 0) (fun _ => 0) (fun _ => 0) (fun _ => 0) (fun _ => 0) (fun _ => 0) (fun _ => 0) (fun _ => 0) 0 (fun _ => 0) 0 0 0 (-1), gLd d h9 0 0 0 10 (fun _ => 0) (fun _ => 0) (fun _ => 0) (fillV 12 9 (fun _ => 0)) (fillV 3 1 (fun _ => 0)) (fun _ => 0) 0, gLd d h10 0 0 0 10 (fun _ => 0) (fun _ => 0) (fun _ => 0) (fillV 12 9 (fun _ => 0)) (fillV 3 1 (fun _ => 0)) (fun _ => 0) 0, gMd d hm none none none rr rl rg rw (fun _ => 0) (fun _ => 0) (fun _ => 0) (fun _ => 0) (fun _ => 0) (fun _ => 0) 0 (fun _ => 0) 0 (fillV 12 9 (fun _ => 0)) (va_up (va_up (va_up (fun _ => 0) 0 1) 1 1) 2 1) 0 0 10 0 0 0 0 0 0 0 (fun _ => 0) 0 (fun _ => 0) (fun _ => 0) 0 (fun _ => 0) 0 0 (fun _ => 0) (fun _ => 0), gridJ d rr 8 40 (fun _ _ => 0), gridI d rl 20 7 (fun _ _ => 0), gridI d rg 8 3 (fun _ _ => 0), gridI d rw 7 5 (fun _ _ => 0)] 122 3685 771 [(3, .int 0), (2, .ref (hm 0)), (1, .ref (h0 0)), (0, .ref b)] [] := by
  refine J_aload_n hK dL_law_771 rfl 2 rfl rfl ?_
  refine J_aload_n hK dL_law_772 rfl 3 rfl rfl ?_
  refine J_iload_n hK dL_law_773 rfl 0 rfl rfl ?_
  refine J_iconst (v := 1) hK dL_law_774 rfl (by decide) ?_
  refine J_iadd hK dL_law_775 rfl ?_
  refine J_sld (v := xs 1) hK hX dL_law_776 rfl rfl ?_
  obtain ⟨ox, om, hx, hom, he⟩ := pe_12 (xs 1)
  refine J_callVd (m := 16) (ce' := 122) (sl' := 3685) (gr := [gLd d h2 0 0 0 10 (fun _ => 0) (fun _ => 0) (fun _ => 0) (fillV 12 9 (fun _ => 0)) (fillV 3 1 (fun _ => 0)) (fun _ => 0) 0, gTp d h3 (fun _ => 0) 0 0 0 0 0, gSh d h4 rE (fillV 8 (-1) (fun _ => 0)) (fun _ => 0), gridJ d rE 8 40 (fun _ _ => 0), gCh d h6 (h7 0) (h9 0) (h10 0) (fun _ => 0), gTr d h7 (h8 0) (fun _ => 0) (fun _ => 0) 0 0, gWy d h8 (fun _ => 0) (fun _ => 0) (fun _ => 0) (fun _ => 0) (fun _ => 0) (fun _ => 0) (fun _ => 0) (fun _ => 0) 0 (fun _ => 0) 0 0 0 (-1), gLd d h9 0 0 0 10 (fun _ => 0) (fun _ => 0) (fun _ => 0) (fillV 12 9 (fun _ => 0)) (fillV 3 1 (fun _ => 0)) (fun _ => 0) 0, gLd d h10 0 0 0 10 (fun _ => 0) (fun _ => 0) (fun _ => 0) (fillV 12 9 (fun _ => 0)) (fillV 3 1 (fun _ => 0)) (fun _ => 0) 0, gMd d hm none none none rr rl rg rw (fun _ => 0) (fun _ => 0) (fun _ => 0) (fun _ => 0) (fun _ => 0) (fun _ => 0) 0 (fun _ => 0) 0 (fillV 12 9 (fun _ => 0)) (va_up (va_up (va_up (fun _ => 0) 0 1) 1 1) 2 1) 0 0 10 0 0 0 0 0 0 0 (fun _ => 0) 0 (fun _ => 0) (fun _ => 0) 0 (fun _ => 0) 0 0 (fun _ => 0) (fun _ => 0), gridJ d rr 8 40 (fun _ _ => 0), gridI d rl 20 7 (fun _ _ => 0), gridI d rg 8 3 (fun _ _ => 0), gridI d rw 7 5 (fun _ _ => 0)]) (v := .int (ox.1)) (st := []) hK dL_law_777 cv_RL_71 iv_yX6_years (As := [.int (xs 1)]) (kX6_years _ d h0 (h2 0) (h3 0) (h4 0) (h6 0) (h7 0) h1 (fun _ => 0) 0 0 0 0 0 0 10 (fun _ => 0) (fun _ => 0) (fun _ => 0) (fillV 12 9 (fun _ => 0)) (fillV 3 1 (fun _ => 0)) (fun _ => 0) 0 (xs 1) hx) (fun _ => rfl) rfl rfl (Nat.le_of_ble_eq_true rfl) (by decide) 0 0 rfl rfl rfl [0, 1] [2, 3, 4, 5, 6, 7, 8, 9, 10, 11, 12, 13, 14, 15] rfl (by decide +kernel) rfl rfl rfl rfl rfl ?_
  refine J_drp (gs2 := [gMd d hm none none none rr rl rg rw (fun _ => 0) (fun _ => 0) (fun _ => 0) (fun _ => 0) (fun _ => 0) (fun _ => 0) 0 (fun _ => 0) 0 (fillV 12 9 (fun _ => 0)) (va_up (va_up (va_up (fun _ => 0) 0 1) 1 1) 2 1) 0 0 10 0 0 0 0 0 0 0 (fun _ => 0) 0 (fun _ => 0) (fun _ => 0) 0 (fun _ => 0) 0 0 (fun _ => 0) (fun _ => 0), gridJ d rr 8 40 (fun _ _ => 0), gridI d rl 20 7 (fun _ _ => 0), gridI d rg 8 3 (fun _ _ => 0), gridI d rw 7 5 (fun _ _ => 0)]) 9 rfl ?_
  refine J_aload_n hK dL_law_780 rfl 1 rfl rfl ?_
  refine J_aload_n hK dL_law_781 rfl 3 rfl rfl ?_
  refine J_iload_n hK dL_law_782 rfl 0 rfl rfl ?_
  refine J_iconst (v := 1) hK dL_law_783 rfl (by decide) ?_
  refine J_iadd hK dL_law_784 rfl ?_
  refine J_sld (v := xs 1) hK hX dL_law_785 rfl rfl ?_
  refine J_callVd (m := 5) (ce' := 122) (sl' := 3685) (gr := [gridJ d rr 8 40 (fun _ _ => 0), gridI d rl 20 7 (fun _ _ => 0), gridI d rg 8 3 (fun _ _ => 0), gridI d rw 7 5 (fun _ _ => 0)]) (v := .int (om.1)) (st := [.int (ox.1)]) hK dL_law_786 cv_RL_74 iv_yX7_years (As := [.int (xs 1)]) (kX7_years _ d hm rr rl rg rw none none none (fun _ => 0) (fun _ => 0) (fun _ => 0) (fun _ _ => 0) (fun _ => 0) (fun _ => 0) (fun _ => 0) 0 (fun _ => 0) 0 (fun _ _ => 0) (fillV 12 9 (fun _ => 0)) (va_up (va_up (va_up (fun _ => 0) 0 1) 1 1) 2 1) 0 (fun _ _ => 0) 0 (fun _ _ => 0) 10 0 0 0 0 0 0 0 (fun _ => 0) 0 (fun _ => 0) (fun _ => 0) 0 (fun _ => 0) 0 0 (fun _ => 0) (fun _ => 0) (xs 1) hom) (fun _ => rfl) rfl rfl (Nat.le_of_ble_eq_true rfl) (by decide) 0 0 rfl rfl rfl [0] [1, 2, 3, 4] rfl (by decide +kernel) rfl rfl rfl rfl rfl ?_
  refine J_icmp_eq (tg := 1595) hK dL_law_789 rfl rfl (fun _ => ?_) (fun h => absurd he h)
  exact J_nil (tail (by decide) (by decide))

set_option maxHeartbeats 4000000 in
set_option maxRecDepth 100000 in
theorem cs_13 {d : DT} {Φ : JC} {nm : String} (hK : Ok d Φ RL nm cL_law 4 (some .boolean) room_1) {b : Nat} {xs : Nat → Int32} (hX : Scr Φ b 7 xs) (h0 : Nat → Nat) (h1 : Nat → Nat) (h2 : Nat → Nat) (h3 : Nat → Nat) (h4 : Nat → Nat) (h6 : Nat → Nat) (h7 : Nat → Nat) (h8 : Nat → Nat) (h9 : Nat → Nat) (h10 : Nat → Nat) (rE hm rr rl rg rw : Nat → Nat) (tail : ∀ {ce sl : Nat}, ce ≤ 600000 → sl ≤ 7302250 → J d Φ 4 [] ce sl 1595 [(3, .int 0), (2, .ref (hm 0)), (1, .ref (h0 0)), (0, .ref b)] []) : J d Φ 4 [gTw d h0 (h1 0) (h2 0) (h3 0) (h4 0) (h6 0) (h7 0) (fun _ => 0) 0 0 0, gLd d h1 0 0 0 10 (fun _ => 0) (fun _ => 0) (fun _ => 0) (fillV 12 9 (fun _ => 0)) (fillV 3 1 (fun _ => 0)) (fun _ => 0) 0, gLd d h2 0 0 0 10 (fun _ => 0) (fun _ => 0) (fun _ => 0) (fillV 12 9 (fun _ => 0)) (fillV 3 1 (fun _ => 0)) (fun _ => 0) 0, gTp d h3 (fun _ => 0) 0 0 0 0 0, gSh d h4 rE (fillV 8 (-1) (fun _ => 0)) (fun _ => 0), gridJ d rE 8 40 (fun _ _ => 0), gCh d h6 (h7 0) (h9 0) (h10 0) (fun _ => 0), gTr d h7 (h8 0) (fun _ => 0) (fun _ => 0) 0 0, gWy d h8 (fun _ => 0) (fun _ => 0) (fun _ => 0) (fun _ => 0) (fun _ => 0) (fun _ => 0) (fun _ => 0) (fun _ => 0) 0 (fun _ => 0) 0 0 0 (-1), gLd d h9 0 0 0 10 (fun _ => 0) (fun _ => 0) (fun _ => 0) (fillV 12 9 (fun _ => 0)) (fillV 3 1 (fun _ => 0)) (fun _ => 0) 0, gLd d h10 0 0 0 10 (fun _ => 0) (fun _ => 0) (fun _ => 0) (fillV 12 9 (fun _ => 0)) (fillV 3 1 (fun _ => 0)) (fun _ => 0) 0, gMd d hm none none none rr rl rg rw (fun _ => 0) (fun _ => 0) (fun _ => 0) (fun _ => 0) (fun _ => 0) (fun _ => 0) 0 (fun _ => 0) 0 (fillV 12 9 (fun _ => 0)) (va_up (va_up (va_up (fun _ => 0) 0 1) 1 1) 2 1) 0 0 10 0 0 0 0 0 0 0 (fun _ => 0) 0 (fun _ => 0) (fun _ => 0) 0 (fun _ => 0) 0 0 (fun _ => 0) (fun _ => 0), gridJ d rr 8 40 (fun _ _ => 0), gridI d rl 20 7 (fun _ _ => 0), gridI d rg 8 3 (fun _ _ => 0), gridI d rw 7 5 (fun _ _ => 0)] 122 3685 794 [(3, .int 0), (2, .ref (hm 0)), (1, .ref (h0 0)), (0, .ref b)] [] := by
  refine J_aload_n hK dL_law_794 rfl 2 rfl rfl ?_
  refine J_aload_n hK dL_law_795 rfl 3 rfl rfl ?_
  refine J_iload_n hK dL_law_796 rfl 0 rfl rfl ?_
  refine J_iconst (v := 1) hK dL_law_797 rfl (by decide) ?_
  refine J_iadd hK dL_law_798 rfl ?_
  refine J_sld (v := xs 1) hK hX dL_law_799 rfl rfl ?_
  refine J_aload_n hK dL_law_800 rfl 3 rfl rfl ?_
  refine J_iload_n hK dL_law_801 rfl 0 rfl rfl ?_
  refine J_iconst (v := 2) hK dL_law_802 rfl (by decide) ?_
  refine J_iadd hK dL_law_803 rfl ?_
  refine J_sld (v := xs 2) hK hX dL_law_804 rfl rfl ?_
  refine J_if_eq (tg := 812) hK dL_law_805 rfl rfl (fun hz => ?_) (fun hz => ?_)
  · refine J_iconst (v := 0) hK dL_law_812 rfl (by decide) ?_
    obtain ⟨ox, om, hx, hom, he⟩ := pe_13 (xs 1) (0)
    refine J_callVd (m := 16) (ce' := 122) (sl' := 3685) (gr := [gLd d h2 0 0 0 10 (fun _ => 0) (fun _ => 0) (fun _ => 0) (fillV 12 9 (fun _ => 0)) (fillV 3 1 (fun _ => 0)) (fun _ => 0) 0, gTp d h3 (fun _ => 0) 0 0 0 0 0, gSh d h4 rE (fillV 8 (-1) (fun _ => 0)) (fun _ => 0), gridJ d rE 8 40 (fun _ _ => 0), gCh d h6 (h7 0) (h9 0) (h10 0) (fun _ => 0), gTr d h7 (h8 0) (fun _ => 0) (fun _ => 0) 0 0, gWy d h8 (fun _ => 0) (fun _ => 0) (fun _ => 0) (fun _ => 0) (fun _ => 0) (fun _ => 0) (fun _ => 0) (fun _ => 0) 0 (fun _ => 0) 0 0 0 (-1), gLd d h9 0 0 0 10 (fun _ => 0) (fun _ => 0) (fun _ => 0) (fillV 12 9 (fun _ => 0)) (fillV 3 1 (fun _ => 0)) (fun _ => 0) 0, gLd d h10 0 0 0 10 (fun _ => 0) (fun _ => 0) (fun _ => 0) (fillV 12 9 (fun _ => 0)) (fillV 3 1 (fun _ => 0)) (fun _ => 0) 0, gMd d hm none none none rr rl rg rw (fun _ => 0) (fun _ => 0) (fun _ => 0) (fun _ => 0) (fun _ => 0) (fun _ => 0) 0 (fun _ => 0) 0 (fillV 12 9 (fun _ => 0)) (va_up (va_up (va_up (fun _ => 0) 0 1) 1 1) 2 1) 0 0 10 0 0 0 0 0 0 0 (fun _ => 0) 0 (fun _ => 0) (fun _ => 0) 0 (fun _ => 0) 0 0 (fun _ => 0) (fun _ => 0), gridJ d rr 8 40 (fun _ _ => 0), gridI d rl 20 7 (fun _ _ => 0), gridI d rg 8 3 (fun _ _ => 0), gridI d rw 7 5 (fun _ _ => 0)]) (v := .int (ox.1)) (st := []) hK dL_law_813 cv_RL_75 iv_yX6_washed (As := [.int (xs 1), .int (0)]) (kX6_washed _ d h0 (h2 0) (h3 0) (h4 0) (h6 0) (h7 0) h1 (fun _ => 0) 0 0 0 0 0 0 10 (fun _ => 0) (fun _ => 0) (fun _ => 0) (fillV 12 9 (fun _ => 0)) (fillV 3 1 (fun _ => 0)) (fun _ => 0) 0 (xs 1) (0) hx) (fun _ => rfl) rfl rfl (Nat.le_of_ble_eq_true rfl) (by decide) 0 0 rfl rfl rfl [0, 1] [2, 3, 4, 5, 6, 7, 8, 9, 10, 11, 12, 13, 14, 15] rfl (by decide +kernel) rfl rfl rfl rfl rfl ?_
    refine J_drp (gs2 := [gMd d hm none none none rr rl rg rw (fun _ => 0) (fun _ => 0) (fun _ => 0) (fun _ => 0) (fun _ => 0) (fun _ => 0) 0 (fun _ => 0) 0 (fillV 12 9 (fun _ => 0)) (va_up (va_up (va_up (fun _ => 0) 0 1) 1 1) 2 1) 0 0 10 0 0 0 0 0 0 0 (fun _ => 0) 0 (fun _ => 0) (fun _ => 0) 0 (fun _ => 0) 0 0 (fun _ => 0) (fun _ => 0), gridJ d rr 8 40 (fun _ _ => 0), gridI d rl 20 7 (fun _ _ => 0), gridI d rg 8 3 (fun _ _ => 0), gridI d rw 7 5 (fun _ _ => 0)]) 9 rfl ?_
    refine J_aload_n hK dL_law_816 rfl 1 rfl rfl ?_
    refine J_aload_n hK dL_law_817 rfl 3 rfl rfl ?_
    refine J_iload_n hK dL_law_818 rfl 0 rfl rfl ?_
    refine J_iconst (v := 1) hK dL_law_819 rfl (by decide) ?_
    refine J_iadd hK dL_law_820 rfl ?_
    refine J_sld (v := xs 1) hK hX dL_law_821 rfl rfl ?_
    refine J_aload_n hK dL_law_822 rfl 3 rfl rfl ?_
    refine J_iload_n hK dL_law_823 rfl 0 rfl rfl ?_
    refine J_iconst (v := 2) hK dL_law_824 rfl (by decide) ?_
    refine J_iadd hK dL_law_825 rfl ?_
    refine J_sld (v := xs 2) hK hX dL_law_826 rfl rfl ?_
    refine J_if_eq (tg := 834) hK dL_law_827 rfl rfl (fun _ => ?_) (fun h => absurd hz h)
    refine J_iconst (v := 0) hK dL_law_834 rfl (by decide) ?_
    refine J_callVd (m := 5) (ce' := 122) (sl' := 3685) (gr := [gridJ d rr 8 40 (fun _ _ => 0), gridI d rg 8 3 (fun _ _ => 0), gridI d rw 7 5 (fun _ _ => 0)]) (v := .int (om.1)) (st := [.int (ox.1)]) hK dL_law_835 cv_RL_79 iv_yX7_washed (As := [.int (xs 1), .int (0)]) (kX7_washed _ d hm rr rl rg rw none none none (fun _ => 0) (fun _ => 0) (fun _ => 0) (fun _ _ => 0) (fun _ => 0) (fun _ => 0) (fun _ => 0) 0 (fun _ => 0) 0 (fun _ _ => 0) (fillV 12 9 (fun _ => 0)) (va_up (va_up (va_up (fun _ => 0) 0 1) 1 1) 2 1) 0 (fun _ _ => 0) 0 (fun _ _ => 0) 10 0 0 0 0 0 0 0 (fun _ => 0) 0 (fun _ => 0) (fun _ => 0) 0 (fun _ => 0) 0 0 (fun _ => 0) (fun _ => 0) (xs 1) (0) hom) (fun _ => rfl) rfl rfl (Nat.le_of_ble_eq_true rfl) (by decide) 0 0 rfl rfl rfl [0, 2] [1, 3, 4] rfl (by decide +kernel) rfl rfl rfl rfl rfl ?_
    refine J_icmp_eq (tg := 1595) hK dL_law_838 rfl rfl (fun _ => ?_) (fun h => absurd he h)
    exact J_nil (tail (by decide) (by decide))
  · refine J_iconst (v := 1) hK dL_law_808 rfl (by decide) ?_
    refine J_goto hK dL_law_809 (n := 813) rfl ?_
    obtain ⟨ox, om, hx, hom, he⟩ := pe_13 (xs 1) (1)
    refine J_callVd (m := 16) (ce' := 122) (sl' := 3685) (gr := [gLd d h2 0 0 0 10 (fun _ => 0) (fun _ => 0) (fun _ => 0) (fillV 12 9 (fun _ => 0)) (fillV 3 1 (fun _ => 0)) (fun _ => 0) 0, gTp d h3 (fun _ => 0) 0 0 0 0 0, gSh d h4 rE (fillV 8 (-1) (fun _ => 0)) (fun _ => 0), gridJ d rE 8 40 (fun _ _ => 0), gCh d h6 (h7 0) (h9 0) (h10 0) (fun _ => 0), gTr d h7 (h8 0) (fun _ => 0) (fun _ => 0) 0 0, gWy d h8 (fun _ => 0) (fun _ => 0) (fun _ => 0) (fun _ => 0) (fun _ => 0) (fun _ => 0) (fun _ => 0) (fun _ => 0) 0 (fun _ => 0) 0 0 0 (-1), gLd d h9 0 0 0 10 (fun _ => 0) (fun _ => 0) (fun _ => 0) (fillV 12 9 (fun _ => 0)) (fillV 3 1 (fun _ => 0)) (fun _ => 0) 0, gLd d h10 0 0 0 10 (fun _ => 0) (fun _ => 0) (fun _ => 0) (fillV 12 9 (fun _ => 0)) (fillV 3 1 (fun _ => 0)) (fun _ => 0) 0, gMd d hm none none none rr rl rg rw (fun _ => 0) (fun _ => 0) (fun _ => 0) (fun _ => 0) (fun _ => 0) (fun _ => 0) 0 (fun _ => 0) 0 (fillV 12 9 (fun _ => 0)) (va_up (va_up (va_up (fun _ => 0) 0 1) 1 1) 2 1) 0 0 10 0 0 0 0 0 0 0 (fun _ => 0) 0 (fun _ => 0) (fun _ => 0) 0 (fun _ => 0) 0 0 (fun _ => 0) (fun _ => 0), gridJ d rr 8 40 (fun _ _ => 0), gridI d rl 20 7 (fun _ _ => 0), gridI d rg 8 3 (fun _ _ => 0), gridI d rw 7 5 (fun _ _ => 0)]) (v := .int (ox.1)) (st := []) hK dL_law_813 cv_RL_75 iv_yX6_washed (As := [.int (xs 1), .int (1)]) (kX6_washed _ d h0 (h2 0) (h3 0) (h4 0) (h6 0) (h7 0) h1 (fun _ => 0) 0 0 0 0 0 0 10 (fun _ => 0) (fun _ => 0) (fun _ => 0) (fillV 12 9 (fun _ => 0)) (fillV 3 1 (fun _ => 0)) (fun _ => 0) 0 (xs 1) (1) hx) (fun _ => rfl) rfl rfl (Nat.le_of_ble_eq_true rfl) (by decide) 0 0 rfl rfl rfl [0, 1] [2, 3, 4, 5, 6, 7, 8, 9, 10, 11, 12, 13, 14, 15] rfl (by decide +kernel) rfl rfl rfl rfl rfl ?_
    refine J_drp (gs2 := [gMd d hm none none none rr rl rg rw (fun _ => 0) (fun _ => 0) (fun _ => 0) (fun _ => 0) (fun _ => 0) (fun _ => 0) 0 (fun _ => 0) 0 (fillV 12 9 (fun _ => 0)) (va_up (va_up (va_up (fun _ => 0) 0 1) 1 1) 2 1) 0 0 10 0 0 0 0 0 0 0 (fun _ => 0) 0 (fun _ => 0) (fun _ => 0) 0 (fun _ => 0) 0 0 (fun _ => 0) (fun _ => 0), gridJ d rr 8 40 (fun _ _ => 0), gridI d rl 20 7 (fun _ _ => 0), gridI d rg 8 3 (fun _ _ => 0), gridI d rw 7 5 (fun _ _ => 0)]) 9 rfl ?_
    refine J_aload_n hK dL_law_816 rfl 1 rfl rfl ?_
    refine J_aload_n hK dL_law_817 rfl 3 rfl rfl ?_
    refine J_iload_n hK dL_law_818 rfl 0 rfl rfl ?_
    refine J_iconst (v := 1) hK dL_law_819 rfl (by decide) ?_
    refine J_iadd hK dL_law_820 rfl ?_
    refine J_sld (v := xs 1) hK hX dL_law_821 rfl rfl ?_
    refine J_aload_n hK dL_law_822 rfl 3 rfl rfl ?_
    refine J_iload_n hK dL_law_823 rfl 0 rfl rfl ?_
    refine J_iconst (v := 2) hK dL_law_824 rfl (by decide) ?_
    refine J_iadd hK dL_law_825 rfl ?_
    refine J_sld (v := xs 2) hK hX dL_law_826 rfl rfl ?_
    refine J_if_eq (tg := 834) hK dL_law_827 rfl rfl (fun h => absurd h hz) (fun _ => ?_)
    refine J_iconst (v := 1) hK dL_law_830 rfl (by decide) ?_
    refine J_goto hK dL_law_831 (n := 835) rfl ?_
    refine J_callVd (m := 5) (ce' := 122) (sl' := 3685) (gr := [gridJ d rr 8 40 (fun _ _ => 0), gridI d rg 8 3 (fun _ _ => 0), gridI d rw 7 5 (fun _ _ => 0)]) (v := .int (om.1)) (st := [.int (ox.1)]) hK dL_law_835 cv_RL_79 iv_yX7_washed (As := [.int (xs 1), .int (1)]) (kX7_washed _ d hm rr rl rg rw none none none (fun _ => 0) (fun _ => 0) (fun _ => 0) (fun _ _ => 0) (fun _ => 0) (fun _ => 0) (fun _ => 0) 0 (fun _ => 0) 0 (fun _ _ => 0) (fillV 12 9 (fun _ => 0)) (va_up (va_up (va_up (fun _ => 0) 0 1) 1 1) 2 1) 0 (fun _ _ => 0) 0 (fun _ _ => 0) 10 0 0 0 0 0 0 0 (fun _ => 0) 0 (fun _ => 0) (fun _ => 0) 0 (fun _ => 0) 0 0 (fun _ => 0) (fun _ => 0) (xs 1) (1) hom) (fun _ => rfl) rfl rfl (Nat.le_of_ble_eq_true rfl) (by decide) 0 0 rfl rfl rfl [0, 2] [1, 3, 4] rfl (by decide +kernel) rfl rfl rfl rfl rfl ?_
    refine J_icmp_eq (tg := 1595) hK dL_law_838 rfl rfl (fun _ => ?_) (fun h => absurd he h)
    exact J_nil (tail (by decide) (by decide))

set_option maxHeartbeats 4000000 in
set_option maxRecDepth 100000 in
theorem cs_14 {d : DT} {Φ : JC} {nm : String} (hK : Ok d Φ RL nm cL_law 4 (some .boolean) room_1) {b : Nat} {xs : Nat → Int32} (hX : Scr Φ b 7 xs) (h0 : Nat → Nat) (h1 : Nat → Nat) (h2 : Nat → Nat) (h3 : Nat → Nat) (h4 : Nat → Nat) (h6 : Nat → Nat) (h7 : Nat → Nat) (h8 : Nat → Nat) (h9 : Nat → Nat) (h10 : Nat → Nat) (rE hm rr rl rg rw : Nat → Nat) (tail : ∀ {ce sl : Nat}, ce ≤ 600000 → sl ≤ 7302250 → J d Φ 4 [] ce sl 1595 [(3, .int 0), (2, .ref (hm 0)), (1, .ref (h0 0)), (0, .ref b)] []) : J d Φ 4 [gTw d h0 (h1 0) (h2 0) (h3 0) (h4 0) (h6 0) (h7 0) (fun _ => 0) 0 0 0, gLd d h1 0 0 0 10 (fun _ => 0) (fun _ => 0) (fun _ => 0) (fillV 12 9 (fun _ => 0)) (fillV 3 1 (fun _ => 0)) (fun _ => 0) 0, gLd d h2 0 0 0 10 (fun _ => 0) (fun _ => 0) (fun _ => 0) (fillV 12 9 (fun _ => 0)) (fillV 3 1 (fun _ => 0)) (fun _ => 0) 0, gTp d h3 (fun _ => 0) 0 0 0 0 0, gSh d h4 rE (fillV 8 (-1) (fun _ => 0)) (fun _ => 0), gridJ d rE 8 40 (fun _ _ => 0), gCh d h6 (h7 0) (h9 0) (h10 0) (fun _ => 0), gTr d h7 (h8 0) (fun _ => 0) (fun _ => 0) 0 0, gWy d h8 (fun _ => 0) (fun _ => 0) (fun _ => 0) (fun _ => 0) (fun _ => 0) (fun _ => 0) (fun _ => 0) (fun _ => 0) 0 (fun _ => 0) 0 0 0 (-1), gLd d h9 0 0 0 10 (fun _ => 0) (fun _ => 0) (fun _ => 0) (fillV 12 9 (fun _ => 0)) (fillV 3 1 (fun _ => 0)) (fun _ => 0) 0, gLd d h10 0 0 0 10 (fun _ => 0) (fun _ => 0) (fun _ => 0) (fillV 12 9 (fun _ => 0)) (fillV 3 1 (fun _ => 0)) (fun _ => 0) 0, gMd d hm none none none rr rl rg rw (fun _ => 0) (fun _ => 0) (fun _ => 0) (fun _ => 0) (fun _ => 0) (fun _ => 0) 0 (fun _ => 0) 0 (fillV 12 9 (fun _ => 0)) (va_up (va_up (va_up (fun _ => 0) 0 1) 1 1) 2 1) 0 0 10 0 0 0 0 0 0 0 (fun _ => 0) 0 (fun _ => 0) (fun _ => 0) 0 (fun _ => 0) 0 0 (fun _ => 0) (fun _ => 0), gridJ d rr 8 40 (fun _ _ => 0), gridI d rl 20 7 (fun _ _ => 0), gridI d rg 8 3 (fun _ _ => 0), gridI d rw 7 5 (fun _ _ => 0)] 122 3685 843 [(3, .int 0), (2, .ref (hm 0)), (1, .ref (h0 0)), (0, .ref b)] [] := by
  refine J_aload_n hK dL_law_843 rfl 2 rfl rfl ?_
  refine J_aload_n hK dL_law_844 rfl 3 rfl rfl ?_
  refine J_iload_n hK dL_law_845 rfl 0 rfl rfl ?_
  refine J_iconst (v := 1) hK dL_law_846 rfl (by decide) ?_
  refine J_iadd hK dL_law_847 rfl ?_
  refine J_sld (v := xs 1) hK hX dL_law_848 rfl rfl ?_
  refine J_aload_n hK dL_law_849 rfl 3 rfl rfl ?_
  refine J_iload_n hK dL_law_850 rfl 0 rfl rfl ?_
  refine J_iconst (v := 2) hK dL_law_851 rfl (by decide) ?_
  refine J_iadd hK dL_law_852 rfl ?_
  refine J_sld (v := xs 2) hK hX dL_law_853 rfl rfl ?_
  obtain ⟨ox, om, hx, hom, he⟩ := pe_14 (xs 1) (xs 2)
  refine J_callVd (m := 16) (ce' := 122) (sl' := 3685) (gr := [gLd d h1 0 0 0 10 (fun _ => 0) (fun _ => 0) (fun _ => 0) (fillV 12 9 (fun _ => 0)) (fillV 3 1 (fun _ => 0)) (fun _ => 0) 0, gLd d h2 0 0 0 10 (fun _ => 0) (fun _ => 0) (fun _ => 0) (fillV 12 9 (fun _ => 0)) (fillV 3 1 (fun _ => 0)) (fun _ => 0) 0, gSh d h4 rE (fillV 8 (-1) (fun _ => 0)) (fun _ => 0), gridJ d rE 8 40 (fun _ _ => 0), gCh d h6 (h7 0) (h9 0) (h10 0) (fun _ => 0), gTr d h7 (h8 0) (fun _ => 0) (fun _ => 0) 0 0, gWy d h8 (fun _ => 0) (fun _ => 0) (fun _ => 0) (fun _ => 0) (fun _ => 0) (fun _ => 0) (fun _ => 0) (fun _ => 0) 0 (fun _ => 0) 0 0 0 (-1), gLd d h9 0 0 0 10 (fun _ => 0) (fun _ => 0) (fun _ => 0) (fillV 12 9 (fun _ => 0)) (fillV 3 1 (fun _ => 0)) (fun _ => 0) 0, gLd d h10 0 0 0 10 (fun _ => 0) (fun _ => 0) (fun _ => 0) (fillV 12 9 (fun _ => 0)) (fillV 3 1 (fun _ => 0)) (fun _ => 0) 0, gMd d hm none none none rr rl rg rw (fun _ => 0) (fun _ => 0) (fun _ => 0) (fun _ => 0) (fun _ => 0) (fun _ => 0) 0 (fun _ => 0) 0 (fillV 12 9 (fun _ => 0)) (va_up (va_up (va_up (fun _ => 0) 0 1) 1 1) 2 1) 0 0 10 0 0 0 0 0 0 0 (fun _ => 0) 0 (fun _ => 0) (fun _ => 0) 0 (fun _ => 0) 0 0 (fun _ => 0) (fun _ => 0), gridJ d rr 8 40 (fun _ _ => 0), gridI d rl 20 7 (fun _ _ => 0), gridI d rg 8 3 (fun _ _ => 0), gridI d rw 7 5 (fun _ _ => 0)]) (v := .int (ox.1)) (st := []) hK dL_law_854 cv_RL_80 iv_yX6_feed (As := [.int (xs 1), .int (xs 2)]) (kX6_feed _ d h0 (h1 0) (h2 0) (h4 0) (h6 0) (h7 0) h3 1000 (fun _ => 0) 0 0 0 (fun _ => 0) 0 0 0 0 0 (xs 1) (xs 2) hx) (fun _ => rfl) rfl rfl (Nat.le_of_ble_eq_true rfl) (by decide) 0 0 rfl rfl rfl [0, 3] [1, 2, 4, 5, 6, 7, 8, 9, 10, 11, 12, 13, 14, 15] rfl (by decide +kernel) rfl rfl rfl rfl rfl ?_
  refine J_drp (gs2 := [gMd d hm none none none rr rl rg rw (fun _ => 0) (fun _ => 0) (fun _ => 0) (fun _ => 0) (fun _ => 0) (fun _ => 0) 0 (fun _ => 0) 0 (fillV 12 9 (fun _ => 0)) (va_up (va_up (va_up (fun _ => 0) 0 1) 1 1) 2 1) 0 0 10 0 0 0 0 0 0 0 (fun _ => 0) 0 (fun _ => 0) (fun _ => 0) 0 (fun _ => 0) 0 0 (fun _ => 0) (fun _ => 0), gridJ d rr 8 40 (fun _ _ => 0), gridI d rl 20 7 (fun _ _ => 0), gridI d rg 8 3 (fun _ _ => 0), gridI d rw 7 5 (fun _ _ => 0)]) 9 rfl ?_
  refine J_aload_n hK dL_law_857 rfl 1 rfl rfl ?_
  refine J_aload_n hK dL_law_858 rfl 3 rfl rfl ?_
  refine J_iload_n hK dL_law_859 rfl 0 rfl rfl ?_
  refine J_iconst (v := 1) hK dL_law_860 rfl (by decide) ?_
  refine J_iadd hK dL_law_861 rfl ?_
  refine J_sld (v := xs 1) hK hX dL_law_862 rfl rfl ?_
  refine J_aload_n hK dL_law_863 rfl 3 rfl rfl ?_
  refine J_iload_n hK dL_law_864 rfl 0 rfl rfl ?_
  refine J_iconst (v := 2) hK dL_law_865 rfl (by decide) ?_
  refine J_iadd hK dL_law_866 rfl ?_
  refine J_sld (v := xs 2) hK hX dL_law_867 rfl rfl ?_
  refine J_callVd (m := 5) (ce' := 122) (sl' := 3685) (gr := [gridJ d rr 8 40 (fun _ _ => 0), gridI d rl 20 7 (fun _ _ => 0), gridI d rg 8 3 (fun _ _ => 0), gridI d rw 7 5 (fun _ _ => 0)]) (v := .int (om.1)) (st := [.int (ox.1)]) hK dL_law_868 cv_RL_83 iv_yX7_feed (As := [.int (xs 1), .int (xs 2)]) (kX7_feed _ d hm rr rl rg rw none none none 1000 (fun _ => 0) (fun _ => 0) (fun _ => 0) (fun _ _ => 0) (fun _ => 0) (fun _ => 0) (fun _ => 0) 0 (fun _ => 0) 0 (fun _ _ => 0) (fillV 12 9 (fun _ => 0)) (va_up (va_up (va_up (fun _ => 0) 0 1) 1 1) 2 1) 0 (fun _ _ => 0) 0 (fun _ _ => 0) 10 0 0 0 0 0 0 0 (fun _ => 0) 0 (fun _ => 0) (fun _ => 0) 0 (fun _ => 0) 0 0 (fun _ => 0) (fun _ => 0) (xs 1) (xs 2) hom) (fun _ => rfl) rfl rfl (Nat.le_of_ble_eq_true rfl) (by decide) 0 0 rfl rfl rfl [0] [1, 2, 3, 4] rfl (by decide +kernel) rfl rfl rfl rfl rfl ?_
  refine J_icmp_eq (tg := 1595) hK dL_law_871 rfl rfl (fun _ => ?_) (fun h => absurd he h)
  exact J_nil (tail (by decide) (by decide))

set_option maxHeartbeats 4000000 in
set_option maxRecDepth 100000 in
theorem cs_15 {d : DT} {Φ : JC} {nm : String} (hK : Ok d Φ RL nm cL_law 4 (some .boolean) room_1) {b : Nat} {xs : Nat → Int32} (hX : Scr Φ b 7 xs) (h0 : Nat → Nat) (h1 : Nat → Nat) (h2 : Nat → Nat) (h3 : Nat → Nat) (h4 : Nat → Nat) (h6 : Nat → Nat) (h7 : Nat → Nat) (h8 : Nat → Nat) (h9 : Nat → Nat) (h10 : Nat → Nat) (rE hm rr rl rg rw : Nat → Nat) (tail : ∀ {ce sl : Nat}, ce ≤ 600000 → sl ≤ 7302250 → J d Φ 4 [] ce sl 1595 [(3, .int 0), (2, .ref (hm 0)), (1, .ref (h0 0)), (0, .ref b)] []) : J d Φ 4 [gTw d h0 (h1 0) (h2 0) (h3 0) (h4 0) (h6 0) (h7 0) (fun _ => 0) 0 0 0, gLd d h1 0 0 0 10 (fun _ => 0) (fun _ => 0) (fun _ => 0) (fillV 12 9 (fun _ => 0)) (fillV 3 1 (fun _ => 0)) (fun _ => 0) 0, gLd d h2 0 0 0 10 (fun _ => 0) (fun _ => 0) (fun _ => 0) (fillV 12 9 (fun _ => 0)) (fillV 3 1 (fun _ => 0)) (fun _ => 0) 0, gTp d h3 (fun _ => 0) 0 0 0 0 0, gSh d h4 rE (fillV 8 (-1) (fun _ => 0)) (fun _ => 0), gridJ d rE 8 40 (fun _ _ => 0), gCh d h6 (h7 0) (h9 0) (h10 0) (fun _ => 0), gTr d h7 (h8 0) (fun _ => 0) (fun _ => 0) 0 0, gWy d h8 (fun _ => 0) (fun _ => 0) (fun _ => 0) (fun _ => 0) (fun _ => 0) (fun _ => 0) (fun _ => 0) (fun _ => 0) 0 (fun _ => 0) 0 0 0 (-1), gLd d h9 0 0 0 10 (fun _ => 0) (fun _ => 0) (fun _ => 0) (fillV 12 9 (fun _ => 0)) (fillV 3 1 (fun _ => 0)) (fun _ => 0) 0, gLd d h10 0 0 0 10 (fun _ => 0) (fun _ => 0) (fun _ => 0) (fillV 12 9 (fun _ => 0)) (fillV 3 1 (fun _ => 0)) (fun _ => 0) 0, gMd d hm none none none rr rl rg rw (fun _ => 0) (fun _ => 0) (fun _ => 0) (fun _ => 0) (fun _ => 0) (fun _ => 0) 0 (fun _ => 0) 0 (fillV 12 9 (fun _ => 0)) (va_up (va_up (va_up (fun _ => 0) 0 1) 1 1) 2 1) 0 0 10 0 0 0 0 0 0 0 (fun _ => 0) 0 (fun _ => 0) (fun _ => 0) 0 (fun _ => 0) 0 0 (fun _ => 0) (fun _ => 0), gridJ d rr 8 40 (fun _ _ => 0), gridI d rl 20 7 (fun _ _ => 0), gridI d rg 8 3 (fun _ _ => 0), gridI d rw 7 5 (fun _ _ => 0)] 122 3685 876 [(3, .int 0), (2, .ref (hm 0)), (1, .ref (h0 0)), (0, .ref b)] [] := by
  refine J_aload_n hK dL_law_876 rfl 2 rfl rfl ?_
  obtain ⟨ox, om, hx, hom, he⟩ := pe_15 
  refine J_callVd (m := 16) (ce' := 122) (sl' := 3685) (gr := [gLd d h1 0 0 0 10 (fun _ => 0) (fun _ => 0) (fun _ => 0) (fillV 12 9 (fun _ => 0)) (fillV 3 1 (fun _ => 0)) (fun _ => 0) 0, gLd d h2 0 0 0 10 (fun _ => 0) (fun _ => 0) (fun _ => 0) (fillV 12 9 (fun _ => 0)) (fillV 3 1 (fun _ => 0)) (fun _ => 0) 0, gSh d h4 rE (fillV 8 (-1) (fun _ => 0)) (fun _ => 0), gridJ d rE 8 40 (fun _ _ => 0), gCh d h6 (h7 0) (h9 0) (h10 0) (fun _ => 0), gTr d h7 (h8 0) (fun _ => 0) (fun _ => 0) 0 0, gWy d h8 (fun _ => 0) (fun _ => 0) (fun _ => 0) (fun _ => 0) (fun _ => 0) (fun _ => 0) (fun _ => 0) (fun _ => 0) 0 (fun _ => 0) 0 0 0 (-1), gLd d h9 0 0 0 10 (fun _ => 0) (fun _ => 0) (fun _ => 0) (fillV 12 9 (fun _ => 0)) (fillV 3 1 (fun _ => 0)) (fun _ => 0) 0, gLd d h10 0 0 0 10 (fun _ => 0) (fun _ => 0) (fun _ => 0) (fillV 12 9 (fun _ => 0)) (fillV 3 1 (fun _ => 0)) (fun _ => 0) 0, gMd d hm none none none rr rl rg rw (fun _ => 0) (fun _ => 0) (fun _ => 0) (fun _ => 0) (fun _ => 0) (fun _ => 0) 0 (fun _ => 0) 0 (fillV 12 9 (fun _ => 0)) (va_up (va_up (va_up (fun _ => 0) 0 1) 1 1) 2 1) 0 0 10 0 0 0 0 0 0 0 (fun _ => 0) 0 (fun _ => 0) (fun _ => 0) 0 (fun _ => 0) 0 0 (fun _ => 0) (fun _ => 0), gridJ d rr 8 40 (fun _ _ => 0), gridI d rl 20 7 (fun _ _ => 0), gridI d rg 8 3 (fun _ _ => 0), gridI d rw 7 5 (fun _ _ => 0)]) (v := .int (ox.1)) (st := []) hK dL_law_877 cv_RL_84 iv_yX6_wipe (As := []) (kX6_wipe _ d h0 (h1 0) (h2 0) (h4 0) (h6 0) (h7 0) h3 (fun _ => 0) 0 0 0 (fun _ => 0) 0 0 0 0 0 hx) (fun _ => rfl) rfl rfl (Nat.le_of_ble_eq_true rfl) (by decide) 0 0 rfl rfl rfl [0, 3] [1, 2, 4, 5, 6, 7, 8, 9, 10, 11, 12, 13, 14, 15] rfl (by decide +kernel) rfl rfl rfl rfl rfl ?_
  refine J_drp (gs2 := [gMd d hm none none none rr rl rg rw (fun _ => 0) (fun _ => 0) (fun _ => 0) (fun _ => 0) (fun _ => 0) (fun _ => 0) 0 (fun _ => 0) 0 (fillV 12 9 (fun _ => 0)) (va_up (va_up (va_up (fun _ => 0) 0 1) 1 1) 2 1) 0 0 10 0 0 0 0 0 0 0 (fun _ => 0) 0 (fun _ => 0) (fun _ => 0) 0 (fun _ => 0) 0 0 (fun _ => 0) (fun _ => 0), gridJ d rr 8 40 (fun _ _ => 0), gridI d rl 20 7 (fun _ _ => 0), gridI d rg 8 3 (fun _ _ => 0), gridI d rw 7 5 (fun _ _ => 0)]) 9 rfl ?_
  refine J_aload_n hK dL_law_880 rfl 1 rfl rfl ?_
  refine J_callVd (m := 5) (ce' := 122) (sl' := 3685) (gr := [gridJ d rr 8 40 (fun _ _ => 0), gridI d rl 20 7 (fun _ _ => 0), gridI d rg 8 3 (fun _ _ => 0), gridI d rw 7 5 (fun _ _ => 0)]) (v := .int (om.1)) (st := [.int (ox.1)]) hK dL_law_881 cv_RL_88 iv_yX7_wipe (As := []) (kX7_wipe _ d hm rr rl rg rw none none none (fun _ => 0) (fun _ => 0) (fun _ => 0) (fun _ _ => 0) (fun _ => 0) (fun _ => 0) (fun _ => 0) 0 (fun _ => 0) 0 (fun _ _ => 0) (fillV 12 9 (fun _ => 0)) (va_up (va_up (va_up (fun _ => 0) 0 1) 1 1) 2 1) 0 (fun _ _ => 0) 0 (fun _ _ => 0) 10 0 0 0 0 0 0 0 (fun _ => 0) 0 (fun _ => 0) (fun _ => 0) 0 (fun _ => 0) 0 0 (fun _ => 0) (fun _ => 0) hom) (fun _ => rfl) rfl rfl (Nat.le_of_ble_eq_true rfl) (by decide) 0 0 rfl rfl rfl [0] [1, 2, 3, 4] rfl (by decide +kernel) rfl rfl rfl rfl rfl ?_
  refine J_icmp_eq (tg := 1595) hK dL_law_884 rfl rfl (fun _ => ?_) (fun h => absurd he h)
  exact J_nil (tail (by decide) (by decide))

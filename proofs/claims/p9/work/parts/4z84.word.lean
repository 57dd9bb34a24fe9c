theorem str_ok {p : Nat} (h : p < 20) : ∃ q, strT[p]? = some q ∧ q.2.2.2.length ≤ 6 := by
  have key : ∀ i : Fin 20, ((strT[i.1]?).map (fun q => decide (q.2.2.2.length ≤ 6))) = some true := by decide +kernel
  have k := key ⟨p, h⟩
  simp only [] at k
  cases e : strT[p]? with
  | none => rw [e] at k; cases k
  | some q =>
    rw [e] at k
    simp only [Option.map] at k
    exact ⟨q, rfl, of_decide_eq_true (Option.some.inj k)⟩
theorem slen_ok {p : Nat} (h : p < 20) : ∃ L : Int32, slen p = some L ∧ (0 ≤ L ∧ L ≤ 6) ∧ ∀ z : Int32, 0 ≤ z → z < L → ∃ c, schar p z = some c := by
  obtain ⟨q, e, hl⟩ := str_ok h
  have hi : (Int32.ofNat q.2.2.2.length).toInt = (q.2.2.2.length : Int) := Int32.toInt_ofNat_of_lt (by omega)
  refine ⟨Int32.ofNat q.2.2.2.length, by unfold slen; rw [e], ⟨Int32.le_iff_toInt_le.mpr ?_, Int32.le_iff_toInt_le.mpr ?_⟩, fun z h0 h1 => ?_⟩
  · rw [hi]; have z : (0 : Int32).toInt = 0 := by decide
    rw [z]; omega
  · rw [hi]; have z : (6 : Int32).toInt = 6 := by decide
    rw [z]; omega
  · refine ⟨q.2.2.2.getD z.toNatClampNeg 0, ?_⟩
    unfold schar
    rw [e]
    exact if_pos (inb_ok hi ⟨h0, h1⟩)
theorem TX3_isWord_s28 {p1 : Nat} {x0_bytes : Nat → Int32} {x0_start z3 L : Int32} (hL : slen p1 = some L) (hLb : 0 ≤ L ∧ L ≤ 6) (hc : ∀ z : Int32, 0 ≤ z → z < L → ∃ c, schar p1 z = some c) (hs : 0 ≤ x0_start ∧ x0_start ≤ 250) (hb : x0_start + L ≤ 250) (hz : 0 ≤ z3) : Sf (fX3_isWord_s28 p1 x0_bytes x0_start z3) (LQ (fun e => 0 ≤ e) (fun e => muUp e) (muUp z3) (fun _ => True)) := by
  unfold fX3_isWord_s28
  rw [hL]
  refine Sf.someb (fun v5 e5 => ?_)
  subst e5
  refine Sf.ite (fun h => Sf.inr trivial) (fun h => ?_)
  have h1 : z3 < v5 := Int32.not_le.mp h
  have hi : 0 ≤ x0_start + z3 ∧ x0_start + z3 < 250 := by grind
  refine Sf.rdb 250 rfl hi (fun v6 _ => ?_)
  obtain ⟨c, ec⟩ := hc z3 hz h1
  rw [ec]
  refine Sf.someb (fun v7 _ => ?_)
  refine Sf.ite (fun _ => Sf.inl (show 0 ≤ z3 + 1 by grind) (muUp_lt h)) (fun _ => Sf.inr trivial)
theorem sX3_isWord {n : Nat} {x0_bytes : Nat → Int32} {x0_size x0_start x0_end x0_token x0_value : Int32} {p1 : Nat} (hn : 1000000000000 ≤ n) (h_x0_start : 0 ≤ x0_start ∧ x0_start ≤ 250) (h_x0_end : 0 ≤ x0_end ∧ x0_end ≤ 250) (hp : p1 < 20) : Sf (fX3_isWord n (x0_bytes, x0_size, x0_start, x0_end, x0_token, x0_value) p1) (fun r => 0 ≤ r ∧ r ≤ 1) := by
  unfold fX3_isWord
  dsimp only [u6]
  have m0 : (0 : Int32) ≤ 0 ∧ (0 : Int32) ≤ 1 := by decide
  have m1 : (0 : Int32) ≤ 1 ∧ (1 : Int32) ≤ 1 := by decide
  refine Sf.ite (fun _ => ?_) (fun _ => Sf.ok m0)
  obtain ⟨L, eL, hL, hc⟩ := slen_ok hp
  rw [eL]
  refine Sf.someb (fun v1 e1 => ?_)
  subst e1
  refine Sf.ite (fun h => ?_) (fun _ => Sf.ok m0)
  have hb : x0_start + v1 ≤ 250 := by grind
  refine Sf.bind (Sf.loop (Q := fun _ => True) (fun e => 0 ≤ e) (fun e => muUp e) (fun e he => TX3_isWord_s28 eL hL hc h_x0_start hb he) n 0 (by decide) (muUp_n hn)) (fun r _ => ?_)
  cases r with
  | inl a => exact Sf.ok m0
  | inr a => exact Sf.ok m1

set_option maxHeartbeats 1000000 in
theorem sX3_put {x0_bytes : (Nat → Int32)} {x0_size x0_start x0_end x0_token x0_value p1 : Int32}  (h_x0_size : (0 ≤ x0_size ∧ x0_size ≤ 250)) (h_x0_start : (0 ≤ x0_start ∧ x0_start ≤ 250)) (h_x0_end : (0 ≤ x0_end ∧ x0_end ≤ 250)) : Sf (fX3_put (x0_bytes, x0_size, x0_start, x0_end, x0_token, x0_value) p1) (fun r => (0 ≤ r.2 ∧ r.2 ≤ 250)) := by
  unfold fX3_put
  dsimp only [u6]
  refine Sf.ite (fun hc1 => ?_) (fun hc1 => ?_)
  · exact Sf.ok (show (0 ≤ x0_size ∧ x0_size ≤ 250) from h_x0_size)
  · refine Sf.wrb 250 rfl (by grind) (fun f1 e_f1 => ?_)
    clear e_f1
    exact Sf.ok (show (0 ≤ (x0_size + 1) ∧ (x0_size + 1) ≤ 250) from (by grind))
set_option maxHeartbeats 1000000 in
theorem sX3_tokenAt {x0_bytes : (Nat → Int32)} {x0_size x0_start x0_end x0_token x0_value p1 : Int32}  (h_x0_size : (0 ≤ x0_size ∧ x0_size ≤ 250)) (h_x0_start : (0 ≤ x0_start ∧ x0_start ≤ 250)) (h_x0_end : (0 ≤ x0_end ∧ x0_end ≤ 250)) (h_p1 : (0 ≤ p1)) : Sf (fX3_tokenAt (x0_bytes, x0_size, x0_start, x0_end, x0_token, x0_value) p1) (fun r => (0 ≤ r ∧ r ≤ 4) ∧ (r = 0 ∨ p1 < x0_size)) := by
  unfold fX3_tokenAt
  dsimp only [u6]
  refine Sf.ite (fun hc1 => ?_) (fun hc1 => ?_)
  · refine Sf.rdb 250 rfl (by grind) (fun v1 e_v1 => ?_)
    clear e_v1
    refine Sf.ite (fun hc2 => ?_) (fun hc2 => ?_)
    · unfold fX3_tokenAt_j31
      refine Sf.ite (fun hc3 => ?_) (fun hc3 => ?_)
      · unfold fX3_tokenAt_j45
        refine Sf.ite (fun hc4 => ?_) (fun hc4 => ?_)
        · exact Sf.ok (show (0 ≤ 3 ∧ 3 ≤ 4) ∧ (3 = 0 ∨ p1 < x0_size) from ⟨(by decide), (by grind)⟩)
        · exact Sf.ok (show (0 ≤ 4 ∧ 4 ≤ 4) ∧ (4 = 0 ∨ p1 < x0_size) from ⟨(by decide), (by grind)⟩)
      · refine Sf.ite (fun hc5 => ?_) (fun hc5 => ?_)
        · unfold fX3_tokenAt_j45
          refine Sf.ite (fun hc6 => ?_) (fun hc6 => ?_)
          · exact Sf.ok (show (0 ≤ 3 ∧ 3 ≤ 4) ∧ (3 = 0 ∨ p1 < x0_size) from ⟨(by decide), (by grind)⟩)
          · exact Sf.ok (show (0 ≤ 4 ∧ 4 ≤ 4) ∧ (4 = 0 ∨ p1 < x0_size) from ⟨(by decide), (by grind)⟩)
        · exact Sf.ok (show (0 ≤ 2 ∧ 2 ≤ 4) ∧ (2 = 0 ∨ p1 < x0_size) from ⟨(by decide), (by grind)⟩)
    · refine Sf.ite (fun hc7 => ?_) (fun hc7 => ?_)
      · unfold fX3_tokenAt_j31
        refine Sf.ite (fun hc8 => ?_) (fun hc8 => ?_)
        · unfold fX3_tokenAt_j45
          refine Sf.ite (fun hc9 => ?_) (fun hc9 => ?_)
          · exact Sf.ok (show (0 ≤ 3 ∧ 3 ≤ 4) ∧ (3 = 0 ∨ p1 < x0_size) from ⟨(by decide), (by grind)⟩)
          · exact Sf.ok (show (0 ≤ 4 ∧ 4 ≤ 4) ∧ (4 = 0 ∨ p1 < x0_size) from ⟨(by decide), (by grind)⟩)
        · refine Sf.ite (fun hc10 => ?_) (fun hc10 => ?_)
          · unfold fX3_tokenAt_j45
            refine Sf.ite (fun hc11 => ?_) (fun hc11 => ?_)
            · exact Sf.ok (show (0 ≤ 3 ∧ 3 ≤ 4) ∧ (3 = 0 ∨ p1 < x0_size) from ⟨(by decide), (by grind)⟩)
            · exact Sf.ok (show (0 ≤ 4 ∧ 4 ≤ 4) ∧ (4 = 0 ∨ p1 < x0_size) from ⟨(by decide), (by grind)⟩)
          · exact Sf.ok (show (0 ≤ 2 ∧ 2 ≤ 4) ∧ (2 = 0 ∨ p1 < x0_size) from ⟨(by decide), (by grind)⟩)
      · exact Sf.ok (show (0 ≤ 1 ∧ 1 ≤ 4) ∧ (1 = 0 ∨ p1 < x0_size) from ⟨(by decide), (by grind)⟩)
  · exact Sf.ok (show (0 ≤ 0 ∧ 0 ≤ 4) ∧ (0 = 0 ∨ p1 < x0_size) from ⟨(by decide), (by grind)⟩)
theorem TX3_valueHere_s22 {x0_bytes : (Nat → Int32)} {x0_end z2 z3 : Int32}  (h_x0_end : (0 ≤ x0_end ∧ x0_end ≤ 250)) (h_z3 : (0 ≤ z3)) : Sf (fX3_valueHere_s22 x0_bytes x0_end z2 z3) (LQ (u2 (fun z2 z3 => (0 ≤ z3))) (u2 (fun z2 z3 => muUp z3)) (muUp z3) (fun e => True)) := by
  unfold fX3_valueHere_s22
  refine Sf.ite (fun hc1 => ?_) (fun hc1 => ?_)
  · exact Sf.inr trivial
  · refine Sf.rdb 250 rfl (by grind) (fun v6 e_v6 => ?_)
    clear e_v6
    exact Sf.inl (show (0 ≤ (z3 + 1)) from (by grind)) (muUp_lt hc1)
theorem LX3_valueHere_s22 {n : Nat} {x0_bytes : (Nat → Int32)} {x0_end z2 z3 : Int32} (hn : 1000000000000 ≤ n) (h_x0_end : (0 ≤ x0_end ∧ x0_end ≤ 250)) (h_z3 : (0 ≤ z3)) : Sf (lp (u2 (fX3_valueHere_s22 x0_bytes x0_end)) n (z2, z3)) (fun e => True) :=
  Sf.loop2 (fun z2 z3 => (0 ≤ z3)) (fun z2 z3 => muUp z3) (fun z2 z3 h => TX3_valueHere_s22 h_x0_end h) h_z3 (muUp_n hn)
set_option maxHeartbeats 1000000 in
theorem sX3_valueHere {n : Nat} {x0_bytes : (Nat → Int32)} {x0_size x0_start x0_end x0_token x0_value : Int32} (hn : 1000000000000 ≤ n) (h_x0_size : (0 ≤ x0_size ∧ x0_size ≤ 250)) (h_x0_start : (0 ≤ x0_start ∧ x0_start ≤ 250)) (h_x0_end : (0 ≤ x0_end ∧ x0_end ≤ 250)) : Sf (fX3_valueHere n (x0_bytes, x0_size, x0_start, x0_end, x0_token, x0_value)) (fun r => True) := by
  unfold fX3_valueHere
  dsimp only [u6]
  refine Sf.ite (fun hc1 => ?_) (fun hc1 => ?_)
  · refine Sf.bind (LX3_valueHere_s22 hn h_x0_end (by grind)) ?_
    intro w5 hr2
    exact Sf.ok trivial
  · exact Sf.ok trivial
theorem TX3_next_s5 {x0_bytes : (Nat → Int32)} {x0_size z2 : Int32}  (h_x0_size : (0 ≤ x0_size ∧ x0_size ≤ 250)) (h_z2 : (0 ≤ z2 ∧ z2 ≤ 250)) : Sf (fX3_next_s5 x0_bytes x0_size z2) (LQ (fun (e : Int32) => (0 ≤ e ∧ e ≤ 250)) (fun (e : Int32) => muUp e) (muUp z2) (fun e => (0 ≤ e ∧ e ≤ 250))) := by
  unfold fX3_next_s5
  refine Sf.ite (fun hc1 => ?_) (fun hc1 => ?_)
  · exact Sf.inr (show (0 ≤ z2 ∧ z2 ≤ 250) from h_z2)
  · refine Sf.rdb 250 rfl (by grind) (fun v23 e_v23 => ?_)
    clear e_v23
    refine Sf.ite (fun hc2 => ?_) (fun hc2 => ?_)
    · exact Sf.inl (show (0 ≤ (z2 + 1) ∧ (z2 + 1) ≤ 250) from (by grind)) (muUp_lt hc1)
    · exact Sf.inr (show (0 ≤ z2 ∧ z2 ≤ 250) from h_z2)
theorem LX3_next_s5 {n : Nat} {x0_bytes : (Nat → Int32)} {x0_size z2 : Int32} (hn : 1000000000000 ≤ n) (h_x0_size : (0 ≤ x0_size ∧ x0_size ≤ 250)) (h_z2 : (0 ≤ z2 ∧ z2 ≤ 250)) : Sf (lp (fX3_next_s5 x0_bytes x0_size) n z2) (fun e => (0 ≤ e ∧ e ≤ 250)) :=
  Sf.loop (fun e => (0 ≤ e ∧ e ≤ 250)) (fun e => muUp e) (fun e h => TX3_next_s5 h_x0_size h) n _ h_z2 (muUp_n hn)
theorem TX3_next_s70 {x0_bytes : (Nat → Int32)} {x0_size x0_end x0_value w4 v5 z12 : Int32}  (h_x0_size : (0 ≤ x0_size ∧ x0_size ≤ 250)) (h_x0_end : (0 ≤ x0_end ∧ x0_end ≤ 250)) (h_w4 : (0 ≤ w4 ∧ w4 ≤ 250)) (h_v5 : (0 ≤ v5 ∧ v5 ≤ 4)) (h_z12 : (0 ≤ z12 ∧ z12 ≤ 250)) : Sf (fX3_next_s70 x0_bytes x0_size x0_end x0_value w4 v5 z12) (LQ (fun (e : Int32) => (0 ≤ e ∧ e ≤ 250)) (fun (e : Int32) => muUp e) (muUp z12) (fun e => (0 ≤ e ∧ e ≤ 250))) := by
  unfold fX3_next_s70
  refine Sf.ite (fun hc1 => ?_) (fun hc1 => ?_)
  · exact Sf.inr (show (0 ≤ z12 ∧ z12 ≤ 250) from h_z12)
  · refine Sf.bind (sX3_tokenAt h_x0_size h_w4 h_x0_end (by grind)) ?_
    intro v15 hr2
    obtain ⟨h_v15, hx_v15⟩ : (0 ≤ v15 ∧ v15 ≤ 4) ∧ (v15 = 0 ∨ z12 < x0_size) := hr2
    refine Sf.ite (fun hc3 => ?_) (fun hc3 => ?_)
    · exact Sf.inl (show (0 ≤ (z12 + 1) ∧ (z12 + 1) ≤ 250) from (by grind)) (muUp_lt hc1)
    · exact Sf.inr (show (0 ≤ z12 ∧ z12 ≤ 250) from h_z12)
theorem LX3_next_s70 {n : Nat} {x0_bytes : (Nat → Int32)} {x0_size x0_end x0_value w4 v5 z12 : Int32} (hn : 1000000000000 ≤ n) (h_x0_size : (0 ≤ x0_size ∧ x0_size ≤ 250)) (h_x0_end : (0 ≤ x0_end ∧ x0_end ≤ 250)) (h_w4 : (0 ≤ w4 ∧ w4 ≤ 250)) (h_v5 : (0 ≤ v5 ∧ v5 ≤ 4)) (h_z12 : (0 ≤ z12 ∧ z12 ≤ 250)) : Sf (lp (fX3_next_s70 x0_bytes x0_size x0_end x0_value w4 v5) n z12) (fun e => (0 ≤ e ∧ e ≤ 250)) :=
  Sf.loop (fun e => (0 ≤ e ∧ e ≤ 250)) (fun e => muUp e) (fun e h => TX3_next_s70 h_x0_size h_x0_end h_w4 h_v5 h) n _ h_z12 (muUp_n hn)
theorem TX3_next_s70b {x0_bytes : (Nat → Int32)} {x0_size x0_end x0_value w4 v5 z18 : Int32}  (h_x0_size : (0 ≤ x0_size ∧ x0_size ≤ 250)) (h_x0_end : (0 ≤ x0_end ∧ x0_end ≤ 250)) (h_w4 : (0 ≤ w4 ∧ w4 ≤ 250)) (h_v5 : (0 ≤ v5 ∧ v5 ≤ 4)) (h_z18 : (0 ≤ z18 ∧ z18 ≤ 250)) : Sf (fX3_next_s70b x0_bytes x0_size x0_end x0_value w4 v5 z18) (LQ (fun (e : Int32) => (0 ≤ e ∧ e ≤ 250)) (fun (e : Int32) => muUp e) (muUp z18) (fun e => (0 ≤ e ∧ e ≤ 250))) := by
  unfold fX3_next_s70b
  refine Sf.ite (fun hc1 => ?_) (fun hc1 => ?_)
  · exact Sf.inr (show (0 ≤ z18 ∧ z18 ≤ 250) from h_z18)
  · refine Sf.bind (sX3_tokenAt h_x0_size h_w4 h_x0_end (by grind)) ?_
    intro v21 hr2
    obtain ⟨h_v21, hx_v21⟩ : (0 ≤ v21 ∧ v21 ≤ 4) ∧ (v21 = 0 ∨ z18 < x0_size) := hr2
    refine Sf.ite (fun hc3 => ?_) (fun hc3 => ?_)
    · exact Sf.inl (show (0 ≤ (z18 + 1) ∧ (z18 + 1) ≤ 250) from (by grind)) (muUp_lt hc1)
    · exact Sf.inr (show (0 ≤ z18 ∧ z18 ≤ 250) from h_z18)
theorem LX3_next_s70b {n : Nat} {x0_bytes : (Nat → Int32)} {x0_size x0_end x0_value w4 v5 z18 : Int32} (hn : 1000000000000 ≤ n) (h_x0_size : (0 ≤ x0_size ∧ x0_size ≤ 250)) (h_x0_end : (0 ≤ x0_end ∧ x0_end ≤ 250)) (h_w4 : (0 ≤ w4 ∧ w4 ≤ 250)) (h_v5 : (0 ≤ v5 ∧ v5 ≤ 4)) (h_z18 : (0 ≤ z18 ∧ z18 ≤ 250)) : Sf (lp (fX3_next_s70b x0_bytes x0_size x0_end x0_value w4 v5) n z18) (fun e => (0 ≤ e ∧ e ≤ 250)) :=
  Sf.loop (fun e => (0 ≤ e ∧ e ≤ 250)) (fun e => muUp e) (fun e h => TX3_next_s70b h_x0_size h_x0_end h_w4 h_v5 h) n _ h_z18 (muUp_n hn)
set_option maxHeartbeats 1000000 in
theorem sX3_next {n : Nat} {x0_bytes : (Nat → Int32)} {x0_size x0_start x0_end x0_token x0_value : Int32} (hn : 1000000000000 ≤ n) (h_x0_size : (0 ≤ x0_size ∧ x0_size ≤ 250)) (h_x0_start : (0 ≤ x0_start ∧ x0_start ≤ 250)) (h_x0_end : (0 ≤ x0_end ∧ x0_end ≤ 250)) : Sf (fX3_next n (x0_bytes, x0_size, x0_start, x0_end, x0_token, x0_value)) (fun r => (0 ≤ r.1 ∧ r.1 ≤ 250) ∧ (0 ≤ r.2.1 ∧ r.2.1 ≤ 250)) := by
  unfold fX3_next
  dsimp only [u6]
  refine Sf.bind (LX3_next_s5 hn h_x0_size h_x0_end) ?_
  intro w4 hr1
  have h_w4 : (0 ≤ w4 ∧ w4 ≤ 250) := hr1
  refine Sf.bind (sX3_tokenAt h_x0_size h_w4 h_x0_end (by grind)) ?_
  intro v5 hr2
  obtain ⟨h_v5, hx_v5⟩ : (0 ≤ v5 ∧ v5 ≤ 4) ∧ (v5 = 0 ∨ w4 < x0_size) := hr2
  refine Sf.ite (fun hc3 => ?_) (fun hc3 => ?_)
  · unfold fX3_next_j54
    refine Sf.ite (fun hc4 => ?_) (fun hc4 => ?_)
    · refine Sf.bind (LX3_next_s70 hn h_x0_size h_x0_end h_w4 h_v5 h_w4) ?_
      intro w14 hr5
      have h_w14 : (0 ≤ w14 ∧ w14 ≤ 250) := hr5
      unfold fX3_next_j96
      refine Sf.ite (fun hc6 => ?_) (fun hc6 => ?_)
      · refine Sf.bind (sX3_valueHere hn h_x0_size h_w4 h_w14) ?_
        intro v9 hr7
        exact Sf.ok (show (0 ≤ w4 ∧ w4 ≤ 250) ∧ (0 ≤ w14 ∧ w14 ≤ 250) from ⟨h_w4, h_w14⟩)
      · exact Sf.ok (show (0 ≤ w4 ∧ w4 ≤ 250) ∧ (0 ≤ w14 ∧ w14 ≤ 250) from ⟨h_w4, h_w14⟩)
    · refine Sf.ite (fun hc8 => ?_) (fun hc8 => ?_)
      · refine Sf.bind (LX3_next_s70b hn h_x0_size h_x0_end h_w4 h_v5 h_w4) ?_
        intro w20 hr9
        have h_w20 : (0 ≤ w20 ∧ w20 ≤ 250) := hr9
        unfold fX3_next_j96
        refine Sf.ite (fun hc10 => ?_) (fun hc10 => ?_)
        · refine Sf.bind (sX3_valueHere hn h_x0_size h_w4 h_w20) ?_
          intro v9 hr11
          exact Sf.ok (show (0 ≤ w4 ∧ w4 ≤ 250) ∧ (0 ≤ w20 ∧ w20 ≤ 250) from ⟨h_w4, h_w20⟩)
        · exact Sf.ok (show (0 ≤ w4 ∧ w4 ≤ 250) ∧ (0 ≤ w20 ∧ w20 ≤ 250) from ⟨h_w4, h_w20⟩)
      · unfold fX3_next_j96
        refine Sf.ite (fun hc12 => ?_) (fun hc12 => ?_)
        · refine Sf.bind (sX3_valueHere hn h_x0_size h_w4 h_w4) ?_
          intro v9 hr13
          exact Sf.ok (show (0 ≤ w4 ∧ w4 ≤ 250) ∧ (0 ≤ w4 ∧ w4 ≤ 250) from ⟨h_w4, h_w4⟩)
        · exact Sf.ok (show (0 ≤ w4 ∧ w4 ≤ 250) ∧ (0 ≤ w4 ∧ w4 ≤ 250) from ⟨h_w4, h_w4⟩)
  · unfold fX3_next_j54
    refine Sf.ite (fun hc14 => ?_) (fun hc14 => ?_)
    · refine Sf.bind (LX3_next_s70 hn h_x0_size h_x0_end h_w4 h_v5 (by grind)) ?_
      intro w14 hr15
      have h_w14 : (0 ≤ w14 ∧ w14 ≤ 250) := hr15
      unfold fX3_next_j96
      refine Sf.ite (fun hc16 => ?_) (fun hc16 => ?_)
      · refine Sf.bind (sX3_valueHere hn h_x0_size h_w4 h_w14) ?_
        intro v9 hr17
        exact Sf.ok (show (0 ≤ w4 ∧ w4 ≤ 250) ∧ (0 ≤ w14 ∧ w14 ≤ 250) from ⟨h_w4, h_w14⟩)
      · exact Sf.ok (show (0 ≤ w4 ∧ w4 ≤ 250) ∧ (0 ≤ w14 ∧ w14 ≤ 250) from ⟨h_w4, h_w14⟩)
    · refine Sf.ite (fun hc18 => ?_) (fun hc18 => ?_)
      · refine Sf.bind (LX3_next_s70b hn h_x0_size h_x0_end h_w4 h_v5 (by grind)) ?_
        intro w20 hr19
        have h_w20 : (0 ≤ w20 ∧ w20 ≤ 250) := hr19
        unfold fX3_next_j96
        refine Sf.ite (fun hc20 => ?_) (fun hc20 => ?_)
        · refine Sf.bind (sX3_valueHere hn h_x0_size h_w4 h_w20) ?_
          intro v9 hr21
          exact Sf.ok (show (0 ≤ w4 ∧ w4 ≤ 250) ∧ (0 ≤ w20 ∧ w20 ≤ 250) from ⟨h_w4, h_w20⟩)
        · exact Sf.ok (show (0 ≤ w4 ∧ w4 ≤ 250) ∧ (0 ≤ w20 ∧ w20 ≤ 250) from ⟨h_w4, h_w20⟩)
      · unfold fX3_next_j96
        refine Sf.ite (fun hc22 => ?_) (fun hc22 => ?_)
        · refine Sf.bind (sX3_valueHere hn h_x0_size h_w4 (by grind)) ?_
          intro v9 hr23
          exact Sf.ok (show (0 ≤ w4 ∧ w4 ≤ 250) ∧ (0 ≤ (w4 + 1) ∧ (w4 + 1) ≤ 250) from ⟨h_w4, (by grind)⟩)
        · exact Sf.ok (show (0 ≤ w4 ∧ w4 ≤ 250) ∧ (0 ≤ (w4 + 1) ∧ (w4 + 1) ≤ 250) from ⟨h_w4, (by grind)⟩)
set_option maxHeartbeats 1000000 in
theorem sX3_number {n : Nat} {x0_bytes : (Nat → Int32)} {x0_size x0_start x0_end x0_token x0_value p1 p2 : Int32} (hn : 1000000000000 ≤ n) (h_x0_size : (0 ≤ x0_size ∧ x0_size ≤ 250)) (h_x0_start : (0 ≤ x0_start ∧ x0_start ≤ 250)) (h_x0_end : (0 ≤ x0_end ∧ x0_end ≤ 250)) : Sf (fX3_number n (x0_bytes, x0_size, x0_start, x0_end, x0_token, x0_value) p1 p2) (fun r => (0 ≤ r.2.1 ∧ r.2.1 ≤ 250) ∧ (0 ≤ r.2.2.1 ∧ r.2.2.1 ≤ 250) ∧ (r.1 = (-1) ∨ (p1 ≤ r.1 ∧ r.1 ≤ p2))) := by
  unfold fX3_number
  dsimp only [u6]
  refine Sf.ite (fun hc1 => ?_) (fun hc1 => ?_)
  · refine Sf.bind (sX6_within ) ?_
    intro v1 hr2
    have hx_v1 : ((v1 = 1 ∧ p1 ≤ x0_value ∧ x0_value ≤ p2) ∨ (v1 = 0 ∧ (x0_value < p1 ∨ p2 < x0_value))) := hr2
    refine Sf.ite (fun hc3 => ?_) (fun hc3 => ?_)
    · exact Sf.ok (show (0 ≤ x0_start ∧ x0_start ≤ 250) ∧ (0 ≤ x0_end ∧ x0_end ≤ 250) ∧ ((-1) = (-1) ∨ (p1 ≤ (-1) ∧ (-1) ≤ p2)) from ⟨h_x0_start, h_x0_end, (by grind)⟩)
    · refine Sf.bind (sX3_next hn h_x0_size h_x0_start h_x0_end) ?_
      rintro ⟨g3, g4, g5, g6⟩ hr4
      obtain ⟨h_g3, h_g4⟩ : (0 ≤ g3 ∧ g3 ≤ 250) ∧ (0 ≤ g4 ∧ g4 ≤ 250) := hr4
      dsimp only [u4]
      exact Sf.ok (show (0 ≤ g3 ∧ g3 ≤ 250) ∧ (0 ≤ g4 ∧ g4 ≤ 250) ∧ (x0_value = (-1) ∨ (p1 ≤ x0_value ∧ x0_value ≤ p2)) from ⟨h_g3, h_g4, (by grind)⟩)
  · exact Sf.ok (show (0 ≤ x0_start ∧ x0_start ≤ 250) ∧ (0 ≤ x0_end ∧ x0_end ≤ 250) ∧ ((-1) = (-1) ∨ (p1 ≤ (-1) ∧ (-1) ≤ p2)) from ⟨h_x0_start, h_x0_end, (by grind)⟩)
set_option maxHeartbeats 1000000 in
theorem sX3_perhaps {n : Nat} {x0_bytes : (Nat → Int32)} {x0_size x0_start x0_end x0_token x0_value : Int32} {p1 : Nat} {p2 p3 p4 : Int32} (hn : 1000000000000 ≤ n) (h_x0_size : (0 ≤ x0_size ∧ x0_size ≤ 250)) (h_x0_start : (0 ≤ x0_start ∧ x0_start ≤ 250)) (h_x0_end : (0 ≤ x0_end ∧ x0_end ≤ 250)) (he_0 : p1 < 20) : Sf (fX3_perhaps n (x0_bytes, x0_size, x0_start, x0_end, x0_token, x0_value) p1 p2 p3 p4) (fun r => (0 ≤ r.2.1 ∧ r.2.1 ≤ 250) ∧ (0 ≤ r.2.2.1 ∧ r.2.2.1 ≤ 250) ∧ (r.1 = (-1) ∨ (p2 ≤ r.1 ∧ r.1 ≤ p3) ∨ r.1 = p4)) := by
  unfold fX3_perhaps
  dsimp only [u6]
  refine Sf.bind (sX3_isWord hn h_x0_start h_x0_end (by first | assumption | decide)) ?_
  intro v1 hr1
  have h_v1 : (0 ≤ v1 ∧ v1 ≤ 1) := hr1
  refine Sf.ite (fun hc2 => ?_) (fun hc2 => ?_)
  · exact Sf.ok (show (0 ≤ x0_start ∧ x0_start ≤ 250) ∧ (0 ≤ x0_end ∧ x0_end ≤ 250) ∧ (p4 = (-1) ∨ (p2 ≤ p4 ∧ p4 ≤ p3) ∨ p4 = p4) from ⟨h_x0_start, h_x0_end, (by grind)⟩)
  · refine Sf.bind (sX3_next hn h_x0_size h_x0_start h_x0_end) ?_
    rintro ⟨g3, g4, g5, g6⟩ hr3
    obtain ⟨h_g3, h_g4⟩ : (0 ≤ g3 ∧ g3 ≤ 250) ∧ (0 ≤ g4 ∧ g4 ≤ 250) := hr3
    dsimp only [u4]
    refine Sf.bind (sX3_number hn h_x0_size h_g3 h_g4) ?_
    rintro ⟨v8, g9, g10, g11, g12⟩ hr4
    obtain ⟨h_g9, h_g10, hx_v8⟩ : (0 ≤ g9 ∧ g9 ≤ 250) ∧ (0 ≤ g10 ∧ g10 ≤ 250) ∧ (v8 = (-1) ∨ (p2 ≤ v8 ∧ v8 ≤ p3)) := hr4
    dsimp only [u5]
    exact Sf.ok (show (0 ≤ g9 ∧ g9 ≤ 250) ∧ (0 ≤ g10 ∧ g10 ≤ 250) ∧ (v8 = (-1) ∨ (p2 ≤ v8 ∧ v8 ≤ p3) ∨ v8 = p4) from ⟨h_g9, h_g10, (by grind)⟩)
set_option maxHeartbeats 1000000 in
theorem sX3_numberUnlike {n : Nat} {x0_bytes : (Nat → Int32)} {x0_size x0_start x0_end x0_token x0_value p1 p2 : Int32} (hn : 1000000000000 ≤ n) (h_x0_size : (0 ≤ x0_size ∧ x0_size ≤ 250)) (h_x0_start : (0 ≤ x0_start ∧ x0_start ≤ 250)) (h_x0_end : (0 ≤ x0_end ∧ x0_end ≤ 250)) : Sf (fX3_numberUnlike n (x0_bytes, x0_size, x0_start, x0_end, x0_token, x0_value) p1 p2) (fun r => (0 ≤ r.2.1 ∧ r.2.1 ≤ 250) ∧ (0 ≤ r.2.2.1 ∧ r.2.2.1 ≤ 250) ∧ (r.1 = (-1) ∨ (0 ≤ r.1 ∧ r.1 ≤ p2))) := by
  unfold fX3_numberUnlike
  dsimp only [u6]
  refine Sf.ite (fun hc1 => ?_) (fun hc1 => ?_)
  · refine Sf.ite (fun hc2 => ?_) (fun hc2 => ?_)
    · exact Sf.ok (show (0 ≤ x0_start ∧ x0_start ≤ 250) ∧ (0 ≤ x0_end ∧ x0_end ≤ 250) ∧ ((-1) = (-1) ∨ (0 ≤ (-1) ∧ (-1) ≤ p2)) from ⟨h_x0_start, h_x0_end, (by grind)⟩)
    · refine Sf.bind (sX3_number hn h_x0_size h_x0_start h_x0_end) ?_
      rintro ⟨v7, g8, g9, g10, g11⟩ hr3
      obtain ⟨h_g8, h_g9, hx_v7⟩ : (0 ≤ g8 ∧ g8 ≤ 250) ∧ (0 ≤ g9 ∧ g9 ≤ 250) ∧ (v7 = (-1) ∨ (0 ≤ v7 ∧ v7 ≤ p2)) := hr3
      dsimp only [u5]
      exact Sf.ok (show (0 ≤ g8 ∧ g8 ≤ 250) ∧ (0 ≤ g9 ∧ g9 ≤ 250) ∧ (v7 = (-1) ∨ (0 ≤ v7 ∧ v7 ≤ p2)) from ⟨h_g8, h_g9, (by grind)⟩)
  · refine Sf.bind (sX3_number hn h_x0_size h_x0_start h_x0_end) ?_
    rintro ⟨v1, g2, g3, g4, g5⟩ hr4
    obtain ⟨h_g2, h_g3, hx_v1⟩ : (0 ≤ g2 ∧ g2 ≤ 250) ∧ (0 ≤ g3 ∧ g3 ≤ 250) ∧ (v1 = (-1) ∨ (0 ≤ v1 ∧ v1 ≤ p2)) := hr4
    dsimp only [u5]
    exact Sf.ok (show (0 ≤ g2 ∧ g2 ≤ 250) ∧ (0 ≤ g3 ∧ g3 ≤ 250) ∧ (v1 = (-1) ∨ (0 ≤ v1 ∧ v1 ≤ p2)) from ⟨h_g2, h_g3, (by grind)⟩)
set_option maxHeartbeats 1000000 in
theorem sX3_readLine {n : Nat} {x0_bytes : (Nat → Int32)} {x0_size x0_start x0_end x0_token x0_value x1_lineCount x1_goodsCount x1_workCount x1_years : Int32} {x1_lines x1_goods x1_works x1_change x1_coin x1_knownFree : (Nat → Int32)} {x1_isKnown : Int32} (hn : 1000000000000 ≤ n) (h_x0_size : (0 ≤ x0_size ∧ x0_size ≤ 250)) (h_x0_start : (0 ≤ x0_start ∧ x0_start ≤ 250)) (h_x0_end : (0 ≤ x0_end ∧ x0_end ≤ 250)) (h_x1_lineCount : (0 ≤ x1_lineCount ∧ x1_lineCount ≤ 20)) (h_x1_goodsCount : (0 ≤ x1_goodsCount ∧ x1_goodsCount ≤ 8)) (h_x1_workCount : (0 ≤ x1_workCount ∧ x1_workCount ≤ 7)) (h_x1_years : (1 ≤ x1_years ∧ x1_years ≤ 30)) (h_x1_lines : (LnOk x1_lines)) (h_x1_goods : (GdOk x1_goods)) (h_x1_works : (WkOk x1_works)) (h_x1_change : (AI 0 99 x1_change)) (h_x1_coin : (AI 0 9 x1_coin)) : Sf (fX3_readLine n (x0_bytes, x0_size, x0_start, x0_end, x0_token, x0_value) (x1_lineCount, x1_goodsCount, x1_workCount, x1_years, x1_lines, x1_goods, x1_works, x1_change, x1_coin, x1_knownFree, x1_isKnown)) (fun r => (0 ≤ r.1 ∧ r.1 ≤ 1) ∧ (0 ≤ r.2.1 ∧ r.2.1 ≤ 250) ∧ (0 ≤ r.2.2.1 ∧ r.2.2.1 ≤ 250) ∧ (0 ≤ r.2.2.2.2.2.1 ∧ r.2.2.2.2.2.1 ≤ 20) ∧ (LnOk r.2.2.2.2.2.2.1)) := by
  unfold fX3_readLine
  dsimp only [u11, u6]
  refine Sf.bind (sX3_next hn h_x0_size h_x0_start h_x0_end) ?_
  rintro ⟨g1, g2, g3, g4⟩ hr1
  obtain ⟨h_g1, h_g2⟩ : (0 ≤ g1 ∧ g1 ≤ 250) ∧ (0 ≤ g2 ∧ g2 ≤ 250) := hr1
  dsimp only [u4]
  refine Sf.bind (sX3_number hn h_x0_size h_g1 h_g2) ?_
  rintro ⟨v6, g7, g8, g9, g10⟩ hr2
  obtain ⟨h_g7, h_g8, hx_v6⟩ : (0 ≤ g7 ∧ g7 ≤ 250) ∧ (0 ≤ g8 ∧ g8 ≤ 250) ∧ (v6 = (-1) ∨ (0 ≤ v6 ∧ v6 ≤ 11)) := hr2
  dsimp only [u5]
  refine Sf.ite (fun hc3 => ?_) (fun hc3 => ?_)
  · unfold fX3_readLine_j28
    refine Sf.ite (fun hc4 => ?_) (fun hc4 => absurd (by decide) hc4)
    exact Sf.ok (show (0 ≤ 0 ∧ 0 ≤ 1) ∧ (0 ≤ g7 ∧ g7 ≤ 250) ∧ (0 ≤ g8 ∧ g8 ≤ 250) ∧ (0 ≤ x1_lineCount ∧ x1_lineCount ≤ 20) ∧ (LnOk x1_lines) from ⟨(by decide), h_g7, h_g8, h_x1_lineCount, h_x1_lines⟩)
  · refine Sf.bind (sX3_numberUnlike hn h_x0_size h_g7 h_g8) ?_
    rintro ⟨v64, g65, g66, g67, g68⟩ hr5
    obtain ⟨h_g65, h_g66, hx_v64⟩ : (0 ≤ g65 ∧ g65 ≤ 250) ∧ (0 ≤ g66 ∧ g66 ≤ 250) ∧ (v64 = (-1) ∨ (0 ≤ v64 ∧ v64 ≤ 11)) := hr5
    dsimp only [u5]
    unfold fX3_readLine_j28
    refine Sf.ite (fun hc6 => ?_) (fun hc6 => ?_)
    · exact Sf.ok (show (0 ≤ 0 ∧ 0 ≤ 1) ∧ (0 ≤ g65 ∧ g65 ≤ 250) ∧ (0 ≤ g66 ∧ g66 ≤ 250) ∧ (0 ≤ x1_lineCount ∧ x1_lineCount ≤ 20) ∧ (LnOk x1_lines) from ⟨(by decide), h_g65, h_g66, h_x1_lineCount, h_x1_lines⟩)
    · refine Sf.bind (sX3_isWord hn h_g65 h_g66 (by first | assumption | decide)) ?_
      intro v17 hr7
      have h_v17 : (0 ≤ v17 ∧ v17 ≤ 1) := hr7
      refine Sf.ite (fun hc8 => ?_) (fun hc8 => ?_)
      · exact Sf.ok (show (0 ≤ 0 ∧ 0 ≤ 1) ∧ (0 ≤ g65 ∧ g65 ≤ 250) ∧ (0 ≤ g66 ∧ g66 ≤ 250) ∧ (0 ≤ x1_lineCount ∧ x1_lineCount ≤ 20) ∧ (LnOk x1_lines) from ⟨(by decide), h_g65, h_g66, h_x1_lineCount, h_x1_lines⟩)
      · refine Sf.bind (sX3_next hn h_x0_size h_g65 h_g66) ?_
        rintro ⟨g19, g20, g21, g22⟩ hr9
        obtain ⟨h_g19, h_g20⟩ : (0 ≤ g19 ∧ g19 ≤ 250) ∧ (0 ≤ g20 ∧ g20 ≤ 250) := hr9
        dsimp only [u4]
        refine Sf.bind (sX3_number hn h_x0_size h_g19 h_g20) ?_
        rintro ⟨v24, g25, g26, g27, g28⟩ hr10
        obtain ⟨h_g25, h_g26, hx_v24⟩ : (0 ≤ g25 ∧ g25 ≤ 250) ∧ (0 ≤ g26 ∧ g26 ≤ 250) ∧ (v24 = (-1) ∨ (1 ≤ v24 ∧ v24 ≤ 7)) := hr10
        dsimp only [u5]
        refine Sf.ite (fun hc11 => ?_) (fun hc11 => ?_)
        · exact Sf.ok (show (0 ≤ 0 ∧ 0 ≤ 1) ∧ (0 ≤ g25 ∧ g25 ≤ 250) ∧ (0 ≤ g26 ∧ g26 ≤ 250) ∧ (0 ≤ x1_lineCount ∧ x1_lineCount ≤ 20) ∧ (LnOk x1_lines) from ⟨(by decide), h_g25, h_g26, h_x1_lineCount, h_x1_lines⟩)
        · refine Sf.bind (sX3_isWord hn h_g25 h_g26 (by first | assumption | decide)) ?_
          intro v30 hr12
          have h_v30 : (0 ≤ v30 ∧ v30 ≤ 1) := hr12
          refine Sf.ite (fun hc13 => ?_) (fun hc13 => ?_)
          · exact Sf.ok (show (0 ≤ 0 ∧ 0 ≤ 1) ∧ (0 ≤ g25 ∧ g25 ≤ 250) ∧ (0 ≤ g26 ∧ g26 ≤ 250) ∧ (0 ≤ x1_lineCount ∧ x1_lineCount ≤ 20) ∧ (LnOk x1_lines) from ⟨(by decide), h_g25, h_g26, h_x1_lineCount, h_x1_lines⟩)
          · refine Sf.bind (sX3_next hn h_x0_size h_g25 h_g26) ?_
            rintro ⟨g32, g33, g34, g35⟩ hr14
            obtain ⟨h_g32, h_g33⟩ : (0 ≤ g32 ∧ g32 ≤ 250) ∧ (0 ≤ g33 ∧ g33 ≤ 250) := hr14
            dsimp only [u4]
            refine Sf.bind (sX3_number hn h_x0_size h_g32 h_g33) ?_
            rintro ⟨v37, g38, g39, g40, g41⟩ hr15
            obtain ⟨h_g38, h_g39, hx_v37⟩ : (0 ≤ g38 ∧ g38 ≤ 250) ∧ (0 ≤ g39 ∧ g39 ≤ 250) ∧ (v37 = (-1) ∨ (1 ≤ v37 ∧ v37 ≤ 60)) := hr15
            dsimp only [u5]
            refine Sf.ite (fun hc16 => ?_) (fun hc16 => ?_)
            · exact Sf.ok (show (0 ≤ 0 ∧ 0 ≤ 1) ∧ (0 ≤ g38 ∧ g38 ≤ 250) ∧ (0 ≤ g39 ∧ g39 ≤ 250) ∧ (0 ≤ x1_lineCount ∧ x1_lineCount ≤ 20) ∧ (LnOk x1_lines) from ⟨(by decide), h_g38, h_g39, h_x1_lineCount, h_x1_lines⟩)
            · refine Sf.bind (sX3_perhaps hn h_x0_size h_g38 h_g39 (by first | assumption | decide)) ?_
              rintro ⟨v43, g44, g45, g46, g47⟩ hr17
              obtain ⟨h_g44, h_g45, hx_v43⟩ : (0 ≤ g44 ∧ g44 ≤ 250) ∧ (0 ≤ g45 ∧ g45 ≤ 250) ∧ (v43 = (-1) ∨ (1 ≤ v43 ∧ v43 ≤ 999) ∨ v43 = 999) := hr17
              dsimp only [u5]
              refine Sf.ite (fun hc18 => ?_) (fun hc18 => ?_)
              · unfold fX3_readLine_j130
                refine Sf.ite (fun hc19 => ?_) (fun hc19 => absurd (by decide) hc19)
                exact Sf.ok (show (0 ≤ 0 ∧ 0 ≤ 1) ∧ (0 ≤ g44 ∧ g44 ≤ 250) ∧ (0 ≤ g45 ∧ g45 ≤ 250) ∧ (0 ≤ x1_lineCount ∧ x1_lineCount ≤ 20) ∧ (LnOk x1_lines) from ⟨(by decide), h_g44, h_g45, h_x1_lineCount, h_x1_lines⟩)
              · refine Sf.bind (sX3_perhaps hn h_x0_size h_g44 h_g45 (by first | assumption | decide)) ?_
                rintro ⟨v58, g59, g60, g61, g62⟩ hr20
                obtain ⟨h_g59, h_g60, hx_v58⟩ : (0 ≤ g59 ∧ g59 ≤ 250) ∧ (0 ≤ g60 ∧ g60 ≤ 250) ∧ (v58 = (-1) ∨ (0 ≤ v58 ∧ v58 ≤ 5) ∨ v58 = 0) := hr20
                dsimp only [u5]
                unfold fX3_readLine_j130
                refine Sf.ite (fun hc21 => ?_) (fun hc21 => ?_)
                · exact Sf.ok (show (0 ≤ 0 ∧ 0 ≤ 1) ∧ (0 ≤ g59 ∧ g59 ≤ 250) ∧ (0 ≤ g60 ∧ g60 ≤ 250) ∧ (0 ≤ x1_lineCount ∧ x1_lineCount ≤ 20) ∧ (LnOk x1_lines) from ⟨(by decide), h_g59, h_g60, h_x1_lineCount, h_x1_lines⟩)
                · refine Sf.bind (sX1_addLine h_x1_lineCount h_x1_lines (by grind) (by grind) (by grind) (by grind) (by grind) (by grind)) ?_
                  rintro ⟨g54, g55, g56⟩ hr22
                  obtain ⟨h_g54, h_g55⟩ : (0 ≤ g54 ∧ g54 ≤ 20) ∧ (LnOk g55) := hr22
                  dsimp only [u3]
                  exact Sf.ok (show (0 ≤ 1 ∧ 1 ≤ 1) ∧ (0 ≤ g59 ∧ g59 ≤ 250) ∧ (0 ≤ g60 ∧ g60 ≤ 250) ∧ (0 ≤ g54 ∧ g54 ≤ 20) ∧ (LnOk g55) from ⟨(by decide), h_g59, h_g60, h_g54, h_g55⟩)
set_option maxHeartbeats 1000000 in
theorem sX3_readGoods {n : Nat} {x0_bytes : (Nat → Int32)} {x0_size x0_start x0_end x0_token x0_value x1_lineCount x1_goodsCount x1_workCount x1_years : Int32} {x1_lines x1_goods x1_works x1_change x1_coin x1_knownFree : (Nat → Int32)} {x1_isKnown : Int32} (hn : 1000000000000 ≤ n) (h_x0_size : (0 ≤ x0_size ∧ x0_size ≤ 250)) (h_x0_start : (0 ≤ x0_start ∧ x0_start ≤ 250)) (h_x0_end : (0 ≤ x0_end ∧ x0_end ≤ 250)) (h_x1_lineCount : (0 ≤ x1_lineCount ∧ x1_lineCount ≤ 20)) (h_x1_goodsCount : (0 ≤ x1_goodsCount ∧ x1_goodsCount ≤ 8)) (h_x1_workCount : (0 ≤ x1_workCount ∧ x1_workCount ≤ 7)) (h_x1_years : (1 ≤ x1_years ∧ x1_years ≤ 30)) (h_x1_lines : (LnOk x1_lines)) (h_x1_goods : (GdOk x1_goods)) (h_x1_works : (WkOk x1_works)) (h_x1_change : (AI 0 99 x1_change)) (h_x1_coin : (AI 0 9 x1_coin)) : Sf (fX3_readGoods n (x0_bytes, x0_size, x0_start, x0_end, x0_token, x0_value) (x1_lineCount, x1_goodsCount, x1_workCount, x1_years, x1_lines, x1_goods, x1_works, x1_change, x1_coin, x1_knownFree, x1_isKnown)) (fun r => (0 ≤ r.1 ∧ r.1 ≤ 1) ∧ (0 ≤ r.2.1 ∧ r.2.1 ≤ 250) ∧ (0 ≤ r.2.2.1 ∧ r.2.2.1 ≤ 250) ∧ (0 ≤ r.2.2.2.2.2.1 ∧ r.2.2.2.2.2.1 ≤ 8) ∧ (GdOk r.2.2.2.2.2.2.1)) := by
  unfold fX3_readGoods
  dsimp only [u11, u6]
  refine Sf.bind (sX3_next hn h_x0_size h_x0_start h_x0_end) ?_
  rintro ⟨g1, g2, g3, g4⟩ hr1
  obtain ⟨h_g1, h_g2⟩ : (0 ≤ g1 ∧ g1 ≤ 250) ∧ (0 ≤ g2 ∧ g2 ≤ 250) := hr1
  dsimp only [u4]
  refine Sf.bind (sX3_number hn h_x0_size h_g1 h_g2) ?_
  rintro ⟨v6, g7, g8, g9, g10⟩ hr2
  obtain ⟨h_g7, h_g8, hx_v6⟩ : (0 ≤ g7 ∧ g7 ≤ 250) ∧ (0 ≤ g8 ∧ g8 ≤ 250) ∧ (v6 = (-1) ∨ (0 ≤ v6 ∧ v6 ≤ 11)) := hr2
  dsimp only [u5]
  refine Sf.ite (fun hc3 => ?_) (fun hc3 => ?_)
  · unfold fX3_readGoods_j28
    refine Sf.ite (fun hc4 => ?_) (fun hc4 => absurd (by decide) hc4)
    unfold fX3_readGoods_j45
    refine Sf.ite (fun hc5 => ?_) (fun hc5 => absurd (by decide) hc5)
    exact Sf.ok (show (0 ≤ 0 ∧ 0 ≤ 1) ∧ (0 ≤ g7 ∧ g7 ≤ 250) ∧ (0 ≤ g8 ∧ g8 ≤ 250) ∧ (0 ≤ x1_goodsCount ∧ x1_goodsCount ≤ 8) ∧ (GdOk x1_goods) from ⟨(by decide), h_g7, h_g8, h_x1_goodsCount, h_x1_goods⟩)
  · refine Sf.bind (sX3_numberUnlike hn h_x0_size h_g7 h_g8) ?_
    rintro ⟨v32, g33, g34, g35, g36⟩ hr6
    obtain ⟨h_g33, h_g34, hx_v32⟩ : (0 ≤ g33 ∧ g33 ≤ 250) ∧ (0 ≤ g34 ∧ g34 ≤ 250) ∧ (v32 = (-1) ∨ (0 ≤ v32 ∧ v32 ≤ 11)) := hr6
    dsimp only [u5]
    unfold fX3_readGoods_j28
    refine Sf.ite (fun hc7 => ?_) (fun hc7 => ?_)
    · unfold fX3_readGoods_j45
      refine Sf.ite (fun hc8 => ?_) (fun hc8 => absurd (by decide) hc8)
      exact Sf.ok (show (0 ≤ 0 ∧ 0 ≤ 1) ∧ (0 ≤ g33 ∧ g33 ≤ 250) ∧ (0 ≤ g34 ∧ g34 ≤ 250) ∧ (0 ≤ x1_goodsCount ∧ x1_goodsCount ≤ 8) ∧ (GdOk x1_goods) from ⟨(by decide), h_g33, h_g34, h_x1_goodsCount, h_x1_goods⟩)
    · refine Sf.bind (sX3_number hn h_x0_size h_g33 h_g34) ?_
      rintro ⟨v26, g27, g28, g29, g30⟩ hr9
      obtain ⟨h_g27, h_g28, hx_v26⟩ : (0 ≤ g27 ∧ g27 ≤ 250) ∧ (0 ≤ g28 ∧ g28 ≤ 250) ∧ (v26 = (-1) ∨ (1 ≤ v26 ∧ v26 ≤ 99)) := hr9
      dsimp only [u5]
      unfold fX3_readGoods_j45
      refine Sf.ite (fun hc10 => ?_) (fun hc10 => ?_)
      · exact Sf.ok (show (0 ≤ 0 ∧ 0 ≤ 1) ∧ (0 ≤ g27 ∧ g27 ≤ 250) ∧ (0 ≤ g28 ∧ g28 ≤ 250) ∧ (0 ≤ x1_goodsCount ∧ x1_goodsCount ≤ 8) ∧ (GdOk x1_goods) from ⟨(by decide), h_g27, h_g28, h_x1_goodsCount, h_x1_goods⟩)
      · refine Sf.bind (sX1_addGoods h_x1_goodsCount h_x1_goods (by grind) (by grind) (by grind)) ?_
        rintro ⟨g22, g23, g24⟩ hr11
        obtain ⟨h_g22, h_g23⟩ : (0 ≤ g22 ∧ g22 ≤ 8) ∧ (GdOk g23) := hr11
        dsimp only [u3]
        exact Sf.ok (show (0 ≤ 1 ∧ 1 ≤ 1) ∧ (0 ≤ g27 ∧ g27 ≤ 250) ∧ (0 ≤ g28 ∧ g28 ≤ 250) ∧ (0 ≤ g22 ∧ g22 ≤ 8) ∧ (GdOk g23) from ⟨(by decide), h_g27, h_g28, h_g22, h_g23⟩)
set_option maxHeartbeats 1000000 in
theorem sX3_readWork {n : Nat} {x0_bytes : (Nat → Int32)} {x0_size x0_start x0_end x0_token x0_value x1_lineCount x1_goodsCount x1_workCount x1_years : Int32} {x1_lines x1_goods x1_works x1_change x1_coin x1_knownFree : (Nat → Int32)} {x1_isKnown : Int32} (hn : 1000000000000 ≤ n) (h_x0_size : (0 ≤ x0_size ∧ x0_size ≤ 250)) (h_x0_start : (0 ≤ x0_start ∧ x0_start ≤ 250)) (h_x0_end : (0 ≤ x0_end ∧ x0_end ≤ 250)) (h_x1_lineCount : (0 ≤ x1_lineCount ∧ x1_lineCount ≤ 20)) (h_x1_goodsCount : (0 ≤ x1_goodsCount ∧ x1_goodsCount ≤ 8)) (h_x1_workCount : (0 ≤ x1_workCount ∧ x1_workCount ≤ 7)) (h_x1_years : (1 ≤ x1_years ∧ x1_years ≤ 30)) (h_x1_lines : (LnOk x1_lines)) (h_x1_goods : (GdOk x1_goods)) (h_x1_works : (WkOk x1_works)) (h_x1_change : (AI 0 99 x1_change)) (h_x1_coin : (AI 0 9 x1_coin)) : Sf (fX3_readWork n (x0_bytes, x0_size, x0_start, x0_end, x0_token, x0_value) (x1_lineCount, x1_goodsCount, x1_workCount, x1_years, x1_lines, x1_goods, x1_works, x1_change, x1_coin, x1_knownFree, x1_isKnown)) (fun r => (0 ≤ r.1 ∧ r.1 ≤ 1) ∧ (0 ≤ r.2.1 ∧ r.2.1 ≤ 250) ∧ (0 ≤ r.2.2.1 ∧ r.2.2.1 ≤ 250) ∧ (0 ≤ r.2.2.2.2.2.1 ∧ r.2.2.2.2.2.1 ≤ 7) ∧ (WkOk r.2.2.2.2.2.2.1)) := by
  unfold fX3_readWork
  dsimp only [u11, u6]
  refine Sf.bind (sX3_next hn h_x0_size h_x0_start h_x0_end) ?_
  rintro ⟨g1, g2, g3, g4⟩ hr1
  obtain ⟨h_g1, h_g2⟩ : (0 ≤ g1 ∧ g1 ≤ 250) ∧ (0 ≤ g2 ∧ g2 ≤ 250) := hr1
  dsimp only [u4]
  refine Sf.bind (sX3_number hn h_x0_size h_g1 h_g2) ?_
  rintro ⟨v6, g7, g8, g9, g10⟩ hr2
  obtain ⟨h_g7, h_g8, hx_v6⟩ : (0 ≤ g7 ∧ g7 ≤ 250) ∧ (0 ≤ g8 ∧ g8 ≤ 250) ∧ (v6 = (-1) ∨ (1 ≤ v6 ∧ v6 ≤ 5)) := hr2
  dsimp only [u5]
  refine Sf.ite (fun hc3 => ?_) (fun hc3 => ?_)
  · unfold fX3_readWork_j30
    refine Sf.ite (fun hc4 => ?_) (fun hc4 => absurd (by decide) hc4)
    exact Sf.ok (show (0 ≤ 0 ∧ 0 ≤ 1) ∧ (0 ≤ g7 ∧ g7 ≤ 250) ∧ (0 ≤ g8 ∧ g8 ≤ 250) ∧ (0 ≤ x1_workCount ∧ x1_workCount ≤ 7) ∧ (WkOk x1_works) from ⟨(by decide), h_g7, h_g8, h_x1_workCount, h_x1_works⟩)
  · refine Sf.bind (sX1_greatestA h_x1_lineCount h_x1_goodsCount h_x1_workCount h_x1_years h_x1_lines h_x1_goods h_x1_works h_x1_change h_x1_coin) ?_
    intro v53 hr5
    have hx_v53 : (v53 ≤ 19 ∧ ((v6 = 1 ∨ v6 = 2) ∨ v53 ≤ 11)) := hr5
    refine Sf.bind (sX3_number hn h_x0_size h_g7 h_g8) ?_
    rintro ⟨v55, g56, g57, g58, g59⟩ hr6
    obtain ⟨h_g56, h_g57, hx_v55⟩ : (0 ≤ g56 ∧ g56 ≤ 250) ∧ (0 ≤ g57 ∧ g57 ≤ 250) ∧ (v55 = (-1) ∨ (0 ≤ v55 ∧ v55 ≤ v53)) := hr6
    dsimp only [u5]
    unfold fX3_readWork_j30
    refine Sf.ite (fun hc7 => ?_) (fun hc7 => ?_)
    · exact Sf.ok (show (0 ≤ 0 ∧ 0 ≤ 1) ∧ (0 ≤ g56 ∧ g56 ≤ 250) ∧ (0 ≤ g57 ∧ g57 ≤ 250) ∧ (0 ≤ x1_workCount ∧ x1_workCount ≤ 7) ∧ (WkOk x1_works) from ⟨(by decide), h_g56, h_g57, h_x1_workCount, h_x1_works⟩)
    · refine Sf.bind (sX1_greatestB ) ?_
      intro v17 hr8
      have hx_v17 : (v17 ≤ 99 ∧ (v6 = 1 ∨ v6 = 2 → v17 ≤ 2) ∧ (v6 = 1 ∨ v6 = 2 ∨ v6 = 3 ∨ v17 ≤ 11)) := hr8
      refine Sf.bind (sX6_isUnder hn ) ?_
      intro v19 hr9
      refine Sf.ite (fun hc10 => ?_) (fun hc10 => ?_)
      · refine Sf.bind (sX3_number hn h_x0_size h_g56 h_g57) ?_
        rintro ⟨v41, g42, g43, g44, g45⟩ hr11
        obtain ⟨h_g42, h_g43, hx_v41⟩ : (0 ≤ g42 ∧ g42 ≤ 250) ∧ (0 ≤ g43 ∧ g43 ≤ 250) ∧ (v41 = (-1) ∨ (0 ≤ v41 ∧ v41 ≤ v17)) := hr11
        dsimp only [u5]
        unfold fX3_readWork_j70
        refine Sf.ite (fun hc12 => ?_) (fun hc12 => ?_)
        · unfold fX3_readWork_j90
          refine Sf.ite (fun hc13 => ?_) (fun hc13 => absurd (by decide) hc13)
          exact Sf.ok (show (0 ≤ 0 ∧ 0 ≤ 1) ∧ (0 ≤ g42 ∧ g42 ≤ 250) ∧ (0 ≤ g43 ∧ g43 ≤ 250) ∧ (0 ≤ x1_workCount ∧ x1_workCount ≤ 7) ∧ (WkOk x1_works) from ⟨(by decide), h_g42, h_g43, h_x1_workCount, h_x1_works⟩)
        · refine Sf.bind (sX3_number hn h_x0_size h_g42 h_g43) ?_
          rintro ⟨v35, g36, g37, g38, g39⟩ hr14
          obtain ⟨h_g36, h_g37, hx_v35⟩ : (0 ≤ g36 ∧ g36 ≤ 250) ∧ (0 ≤ g37 ∧ g37 ≤ 250) ∧ (v35 = (-1) ∨ (0 ≤ v35 ∧ v35 ≤ 999)) := hr14
          dsimp only [u5]
          unfold fX3_readWork_j90
          refine Sf.ite (fun hc15 => ?_) (fun hc15 => ?_)
          · exact Sf.ok (show (0 ≤ 0 ∧ 0 ≤ 1) ∧ (0 ≤ g36 ∧ g36 ≤ 250) ∧ (0 ≤ g37 ∧ g37 ≤ 250) ∧ (0 ≤ x1_workCount ∧ x1_workCount ≤ 7) ∧ (WkOk x1_works) from ⟨(by decide), h_g36, h_g37, h_x1_workCount, h_x1_works⟩)
          · refine Sf.bind (sX1_addWork h_x1_workCount h_x1_works (by grind) (by grind) (by grind) (by grind) (by first | grind | (unfold WkR; grind))) ?_
            rintro ⟨g31, g32, g33⟩ hr16
            obtain ⟨h_g31, h_g32⟩ : (0 ≤ g31 ∧ g31 ≤ 7) ∧ (WkOk g32) := hr16
            dsimp only [u3]
            exact Sf.ok (show (0 ≤ 1 ∧ 1 ≤ 1) ∧ (0 ≤ g36 ∧ g36 ≤ 250) ∧ (0 ≤ g37 ∧ g37 ≤ 250) ∧ (0 ≤ g31 ∧ g31 ≤ 7) ∧ (WkOk g32) from ⟨(by decide), h_g36, h_g37, h_g31, h_g32⟩)
      · refine Sf.bind (sX3_numberUnlike hn h_x0_size h_g56 h_g57) ?_
        rintro ⟨v47, g48, g49, g50, g51⟩ hr17
        obtain ⟨h_g48, h_g49, hx_v47⟩ : (0 ≤ g48 ∧ g48 ≤ 250) ∧ (0 ≤ g49 ∧ g49 ≤ 250) ∧ (v47 = (-1) ∨ (0 ≤ v47 ∧ v47 ≤ v17)) := hr17
        dsimp only [u5]
        unfold fX3_readWork_j70
        refine Sf.ite (fun hc18 => ?_) (fun hc18 => ?_)
        · unfold fX3_readWork_j90
          refine Sf.ite (fun hc19 => ?_) (fun hc19 => absurd (by decide) hc19)
          exact Sf.ok (show (0 ≤ 0 ∧ 0 ≤ 1) ∧ (0 ≤ g48 ∧ g48 ≤ 250) ∧ (0 ≤ g49 ∧ g49 ≤ 250) ∧ (0 ≤ x1_workCount ∧ x1_workCount ≤ 7) ∧ (WkOk x1_works) from ⟨(by decide), h_g48, h_g49, h_x1_workCount, h_x1_works⟩)
        · refine Sf.bind (sX3_number hn h_x0_size h_g48 h_g49) ?_
          rintro ⟨v35, g36, g37, g38, g39⟩ hr20
          obtain ⟨h_g36, h_g37, hx_v35⟩ : (0 ≤ g36 ∧ g36 ≤ 250) ∧ (0 ≤ g37 ∧ g37 ≤ 250) ∧ (v35 = (-1) ∨ (0 ≤ v35 ∧ v35 ≤ 999)) := hr20
          dsimp only [u5]
          unfold fX3_readWork_j90
          refine Sf.ite (fun hc21 => ?_) (fun hc21 => ?_)
          · exact Sf.ok (show (0 ≤ 0 ∧ 0 ≤ 1) ∧ (0 ≤ g36 ∧ g36 ≤ 250) ∧ (0 ≤ g37 ∧ g37 ≤ 250) ∧ (0 ≤ x1_workCount ∧ x1_workCount ≤ 7) ∧ (WkOk x1_works) from ⟨(by decide), h_g36, h_g37, h_x1_workCount, h_x1_works⟩)
          · refine Sf.bind (sX1_addWork h_x1_workCount h_x1_works (by grind) (by grind) (by grind) (by grind) (by first | grind | (unfold WkR; grind))) ?_
            rintro ⟨g31, g32, g33⟩ hr22
            obtain ⟨h_g31, h_g32⟩ : (0 ≤ g31 ∧ g31 ≤ 7) ∧ (WkOk g32) := hr22
            dsimp only [u3]
            exact Sf.ok (show (0 ≤ 1 ∧ 1 ≤ 1) ∧ (0 ≤ g36 ∧ g36 ≤ 250) ∧ (0 ≤ g37 ∧ g37 ≤ 250) ∧ (0 ≤ g31 ∧ g31 ≤ 7) ∧ (WkOk g32) from ⟨(by decide), h_g36, h_g37, h_g31, h_g32⟩)
set_option maxHeartbeats 1000000 in
theorem sX3_readChange {n : Nat} {x0_bytes : (Nat → Int32)} {x0_size x0_start x0_end x0_token x0_value x1_lineCount x1_goodsCount x1_workCount x1_years : Int32} {x1_lines x1_goods x1_works x1_change x1_coin x1_knownFree : (Nat → Int32)} {x1_isKnown : Int32} (hn : 1000000000000 ≤ n) (h_x0_size : (0 ≤ x0_size ∧ x0_size ≤ 250)) (h_x0_start : (0 ≤ x0_start ∧ x0_start ≤ 250)) (h_x0_end : (0 ≤ x0_end ∧ x0_end ≤ 250)) (h_x1_lineCount : (0 ≤ x1_lineCount ∧ x1_lineCount ≤ 20)) (h_x1_goodsCount : (0 ≤ x1_goodsCount ∧ x1_goodsCount ≤ 8)) (h_x1_workCount : (0 ≤ x1_workCount ∧ x1_workCount ≤ 7)) (h_x1_years : (1 ≤ x1_years ∧ x1_years ≤ 30)) (h_x1_lines : (LnOk x1_lines)) (h_x1_goods : (GdOk x1_goods)) (h_x1_works : (WkOk x1_works)) (h_x1_change : (AI 0 99 x1_change)) (h_x1_coin : (AI 0 9 x1_coin)) : Sf (fX3_readChange n (x0_bytes, x0_size, x0_start, x0_end, x0_token, x0_value) (x1_lineCount, x1_goodsCount, x1_workCount, x1_years, x1_lines, x1_goods, x1_works, x1_change, x1_coin, x1_knownFree, x1_isKnown)) (fun r => (0 ≤ r.1 ∧ r.1 ≤ 1) ∧ (0 ≤ r.2.1 ∧ r.2.1 ≤ 250) ∧ (0 ≤ r.2.2.1 ∧ r.2.2.1 ≤ 250) ∧ (AI 0 99 r.2.2.2.2.2.1)) := by
  unfold fX3_readChange
  dsimp only [u11, u6]
  refine Sf.bind (sX3_next hn h_x0_size h_x0_start h_x0_end) ?_
  rintro ⟨g1, g2, g3, g4⟩ hr1
  obtain ⟨h_g1, h_g2⟩ : (0 ≤ g1 ∧ g1 ≤ 250) ∧ (0 ≤ g2 ∧ g2 ≤ 250) := hr1
  dsimp only [u4]
  refine Sf.bind (sX3_number hn h_x0_size h_g1 h_g2) ?_
  rintro ⟨v6, g7, g8, g9, g10⟩ hr2
  obtain ⟨h_g7, h_g8, hx_v6⟩ : (0 ≤ g7 ∧ g7 ≤ 250) ∧ (0 ≤ g8 ∧ g8 ≤ 250) ∧ (v6 = (-1) ∨ (0 ≤ v6 ∧ v6 ≤ 11)) := hr2
  dsimp only [u5]
  refine Sf.ite (fun hc3 => ?_) (fun hc3 => ?_)
  · unfold fX3_readChange_j28
    refine Sf.ite (fun hc4 => ?_) (fun hc4 => absurd (by decide) hc4)
    exact Sf.ok (show (0 ≤ 0 ∧ 0 ≤ 1) ∧ (0 ≤ g7 ∧ g7 ≤ 250) ∧ (0 ≤ g8 ∧ g8 ≤ 250) ∧ (AI 0 99 x1_change) from ⟨(by decide), h_g7, h_g8, h_x1_change⟩)
  · refine Sf.bind (sX3_number hn h_x0_size h_g7 h_g8) ?_
    rintro ⟨v20, g21, g22, g23, g24⟩ hr5
    obtain ⟨h_g21, h_g22, hx_v20⟩ : (0 ≤ g21 ∧ g21 ≤ 250) ∧ (0 ≤ g22 ∧ g22 ≤ 250) ∧ (v20 = (-1) ∨ (0 ≤ v20 ∧ v20 ≤ 99)) := hr5
    dsimp only [u5]
    unfold fX3_readChange_j28
    refine Sf.ite (fun hc6 => ?_) (fun hc6 => ?_)
    · exact Sf.ok (show (0 ≤ 0 ∧ 0 ≤ 1) ∧ (0 ≤ g21 ∧ g21 ≤ 250) ∧ (0 ≤ g22 ∧ g22 ≤ 250) ∧ (AI 0 99 x1_change) from ⟨(by decide), h_g21, h_g22, h_x1_change⟩)
    · refine Sf.bind (sX1_putChange h_x1_lineCount h_x1_goodsCount h_x1_workCount h_x1_years h_x1_lines h_x1_goods h_x1_works h_x1_change h_x1_coin (by grind)) ?_
      rintro ⟨g17, g18⟩ hr7
      have h_g17 : (AI 0 99 g17) := hr7
      dsimp only [u2]
      exact Sf.ok (show (0 ≤ 1 ∧ 1 ≤ 1) ∧ (0 ≤ g21 ∧ g21 ≤ 250) ∧ (0 ≤ g22 ∧ g22 ≤ 250) ∧ (AI 0 99 g17) from ⟨(by decide), h_g21, h_g22, h_g17⟩)
set_option maxHeartbeats 1000000 in
theorem sX3_readCoin {n : Nat} {x0_bytes : (Nat → Int32)} {x0_size x0_start x0_end x0_token x0_value x1_lineCount x1_goodsCount x1_workCount x1_years : Int32} {x1_lines x1_goods x1_works x1_change x1_coin x1_knownFree : (Nat → Int32)} {x1_isKnown : Int32} (hn : 1000000000000 ≤ n) (h_x0_size : (0 ≤ x0_size ∧ x0_size ≤ 250)) (h_x0_start : (0 ≤ x0_start ∧ x0_start ≤ 250)) (h_x0_end : (0 ≤ x0_end ∧ x0_end ≤ 250)) (h_x1_lineCount : (0 ≤ x1_lineCount ∧ x1_lineCount ≤ 20)) (h_x1_goodsCount : (0 ≤ x1_goodsCount ∧ x1_goodsCount ≤ 8)) (h_x1_workCount : (0 ≤ x1_workCount ∧ x1_workCount ≤ 7)) (h_x1_years : (1 ≤ x1_years ∧ x1_years ≤ 30)) (h_x1_lines : (LnOk x1_lines)) (h_x1_goods : (GdOk x1_goods)) (h_x1_works : (WkOk x1_works)) (h_x1_change : (AI 0 99 x1_change)) (h_x1_coin : (AI 0 9 x1_coin)) : Sf (fX3_readCoin n (x0_bytes, x0_size, x0_start, x0_end, x0_token, x0_value) (x1_lineCount, x1_goodsCount, x1_workCount, x1_years, x1_lines, x1_goods, x1_works, x1_change, x1_coin, x1_knownFree, x1_isKnown)) (fun r => (0 ≤ r.1 ∧ r.1 ≤ 1) ∧ (0 ≤ r.2.1 ∧ r.2.1 ≤ 250) ∧ (0 ≤ r.2.2.1 ∧ r.2.2.1 ≤ 250) ∧ (AI 0 9 r.2.2.2.2.2.1)) := by
  unfold fX3_readCoin
  dsimp only [u11, u6]
  refine Sf.bind (sX3_next hn h_x0_size h_x0_start h_x0_end) ?_
  rintro ⟨g1, g2, g3, g4⟩ hr1
  obtain ⟨h_g1, h_g2⟩ : (0 ≤ g1 ∧ g1 ≤ 250) ∧ (0 ≤ g2 ∧ g2 ≤ 250) := hr1
  dsimp only [u4]
  refine Sf.bind (sX3_number hn h_x0_size h_g1 h_g2) ?_
  rintro ⟨v6, g7, g8, g9, g10⟩ hr2
  obtain ⟨h_g7, h_g8, hx_v6⟩ : (0 ≤ g7 ∧ g7 ≤ 250) ∧ (0 ≤ g8 ∧ g8 ≤ 250) ∧ (v6 = (-1) ∨ (0 ≤ v6 ∧ v6 ≤ 2)) := hr2
  dsimp only [u5]
  refine Sf.ite (fun hc3 => ?_) (fun hc3 => ?_)
  · unfold fX3_readCoin_j27
    refine Sf.ite (fun hc4 => ?_) (fun hc4 => absurd (by decide) hc4)
    exact Sf.ok (show (0 ≤ 0 ∧ 0 ≤ 1) ∧ (0 ≤ g7 ∧ g7 ≤ 250) ∧ (0 ≤ g8 ∧ g8 ≤ 250) ∧ (AI 0 9 x1_coin) from ⟨(by decide), h_g7, h_g8, h_x1_coin⟩)
  · refine Sf.bind (sX3_number hn h_x0_size h_g7 h_g8) ?_
    rintro ⟨v20, g21, g22, g23, g24⟩ hr5
    obtain ⟨h_g21, h_g22, hx_v20⟩ : (0 ≤ g21 ∧ g21 ≤ 250) ∧ (0 ≤ g22 ∧ g22 ≤ 250) ∧ (v20 = (-1) ∨ (0 ≤ v20 ∧ v20 ≤ 9)) := hr5
    dsimp only [u5]
    unfold fX3_readCoin_j27
    refine Sf.ite (fun hc6 => ?_) (fun hc6 => ?_)
    · exact Sf.ok (show (0 ≤ 0 ∧ 0 ≤ 1) ∧ (0 ≤ g21 ∧ g21 ≤ 250) ∧ (0 ≤ g22 ∧ g22 ≤ 250) ∧ (AI 0 9 x1_coin) from ⟨(by decide), h_g21, h_g22, h_x1_coin⟩)
    · refine Sf.bind (sX1_putCoin h_x1_lineCount h_x1_goodsCount h_x1_workCount h_x1_years h_x1_lines h_x1_goods h_x1_works h_x1_change h_x1_coin (by grind)) ?_
      rintro ⟨g17, g18⟩ hr7
      have h_g17 : (AI 0 9 g17) := hr7
      dsimp only [u2]
      exact Sf.ok (show (0 ≤ 1 ∧ 1 ≤ 1) ∧ (0 ≤ g21 ∧ g21 ≤ 250) ∧ (0 ≤ g22 ∧ g22 ≤ 250) ∧ (AI 0 9 g17) from ⟨(by decide), h_g21, h_g22, h_g17⟩)
set_option maxHeartbeats 1000000 in
theorem sX3_readYears {n : Nat} {x0_bytes : (Nat → Int32)} {x0_size x0_start x0_end x0_token x0_value x1_lineCount x1_goodsCount x1_workCount x1_years : Int32} {x1_lines x1_goods x1_works x1_change x1_coin x1_knownFree : (Nat → Int32)} {x1_isKnown : Int32} (hn : 1000000000000 ≤ n) (h_x0_size : (0 ≤ x0_size ∧ x0_size ≤ 250)) (h_x0_start : (0 ≤ x0_start ∧ x0_start ≤ 250)) (h_x0_end : (0 ≤ x0_end ∧ x0_end ≤ 250)) (h_x1_lineCount : (0 ≤ x1_lineCount ∧ x1_lineCount ≤ 20)) (h_x1_goodsCount : (0 ≤ x1_goodsCount ∧ x1_goodsCount ≤ 8)) (h_x1_workCount : (0 ≤ x1_workCount ∧ x1_workCount ≤ 7)) (h_x1_years : (1 ≤ x1_years ∧ x1_years ≤ 30)) (h_x1_lines : (LnOk x1_lines)) (h_x1_goods : (GdOk x1_goods)) (h_x1_works : (WkOk x1_works)) (h_x1_change : (AI 0 99 x1_change)) (h_x1_coin : (AI 0 9 x1_coin)) : Sf (fX3_readYears n (x0_bytes, x0_size, x0_start, x0_end, x0_token, x0_value) (x1_lineCount, x1_goodsCount, x1_workCount, x1_years, x1_lines, x1_goods, x1_works, x1_change, x1_coin, x1_knownFree, x1_isKnown)) (fun r => (0 ≤ r.1 ∧ r.1 ≤ 1) ∧ (0 ≤ r.2.1 ∧ r.2.1 ≤ 250) ∧ (0 ≤ r.2.2.1 ∧ r.2.2.1 ≤ 250) ∧ (1 ≤ r.2.2.2.2.2 ∧ r.2.2.2.2.2 ≤ 30)) := by
  unfold fX3_readYears
  dsimp only [u11, u6]
  refine Sf.bind (sX3_next hn h_x0_size h_x0_start h_x0_end) ?_
  rintro ⟨g1, g2, g3, g4⟩ hr1
  obtain ⟨h_g1, h_g2⟩ : (0 ≤ g1 ∧ g1 ≤ 250) ∧ (0 ≤ g2 ∧ g2 ≤ 250) := hr1
  dsimp only [u4]
  refine Sf.bind (sX3_number hn h_x0_size h_g1 h_g2) ?_
  rintro ⟨v6, g7, g8, g9, g10⟩ hr2
  obtain ⟨h_g7, h_g8, hx_v6⟩ : (0 ≤ g7 ∧ g7 ≤ 250) ∧ (0 ≤ g8 ∧ g8 ≤ 250) ∧ (v6 = (-1) ∨ (1 ≤ v6 ∧ v6 ≤ 30)) := hr2
  dsimp only [u5]
  refine Sf.ite (fun hc3 => ?_) (fun hc3 => ?_)
  · exact Sf.ok (show (0 ≤ 0 ∧ 0 ≤ 1) ∧ (0 ≤ g7 ∧ g7 ≤ 250) ∧ (0 ≤ g8 ∧ g8 ≤ 250) ∧ (1 ≤ x1_years ∧ x1_years ≤ 30) from ⟨(by decide), h_g7, h_g8, h_x1_years⟩)
  · exact Sf.ok (show (0 ≤ 1 ∧ 1 ≤ 1) ∧ (0 ≤ g7 ∧ g7 ≤ 250) ∧ (0 ≤ g8 ∧ g8 ≤ 250) ∧ (1 ≤ v6 ∧ v6 ≤ 30) from ⟨(by decide), h_g7, h_g8, (by grind)⟩)
set_option maxHeartbeats 1000000 in
theorem sX3_readStatement {n : Nat} {x0_bytes : (Nat → Int32)} {x0_size x0_start x0_end x0_token x0_value x1_lineCount x1_goodsCount x1_workCount x1_years : Int32} {x1_lines x1_goods x1_works x1_change x1_coin x1_knownFree : (Nat → Int32)} {x1_isKnown : Int32} (hn : 1000000000000 ≤ n) (h_x0_size : (0 ≤ x0_size ∧ x0_size ≤ 250)) (h_x0_start : (0 ≤ x0_start ∧ x0_start ≤ 250)) (h_x0_end : (0 ≤ x0_end ∧ x0_end ≤ 250)) (h_x1_lineCount : (0 ≤ x1_lineCount ∧ x1_lineCount ≤ 20)) (h_x1_goodsCount : (0 ≤ x1_goodsCount ∧ x1_goodsCount ≤ 8)) (h_x1_workCount : (0 ≤ x1_workCount ∧ x1_workCount ≤ 7)) (h_x1_years : (1 ≤ x1_years ∧ x1_years ≤ 30)) (h_x1_lines : (LnOk x1_lines)) (h_x1_goods : (GdOk x1_goods)) (h_x1_works : (WkOk x1_works)) (h_x1_change : (AI 0 99 x1_change)) (h_x1_coin : (AI 0 9 x1_coin)) : Sf (fX3_readStatement n (x0_bytes, x0_size, x0_start, x0_end, x0_token, x0_value) (x1_lineCount, x1_goodsCount, x1_workCount, x1_years, x1_lines, x1_goods, x1_works, x1_change, x1_coin, x1_knownFree, x1_isKnown)) (fun r => (0 ≤ r.1 ∧ r.1 ≤ 1) ∧ (0 ≤ r.2.1 ∧ r.2.1 ≤ 250) ∧ (0 ≤ r.2.2.1 ∧ r.2.2.1 ≤ 250) ∧ (0 ≤ r.2.2.2.2.2.1 ∧ r.2.2.2.2.2.1 ≤ 20) ∧ (0 ≤ r.2.2.2.2.2.2.1 ∧ r.2.2.2.2.2.2.1 ≤ 8) ∧ (0 ≤ r.2.2.2.2.2.2.2.1 ∧ r.2.2.2.2.2.2.2.1 ≤ 7) ∧ (1 ≤ r.2.2.2.2.2.2.2.2.1 ∧ r.2.2.2.2.2.2.2.2.1 ≤ 30) ∧ (LnOk r.2.2.2.2.2.2.2.2.2.1) ∧ (GdOk r.2.2.2.2.2.2.2.2.2.2.1) ∧ (WkOk r.2.2.2.2.2.2.2.2.2.2.2.1) ∧ (AI 0 99 r.2.2.2.2.2.2.2.2.2.2.2.2.1) ∧ (AI 0 9 r.2.2.2.2.2.2.2.2.2.2.2.2.2.1)) := by
  unfold fX3_readStatement
  dsimp only [u11, u6]
  refine Sf.bind (sX3_isWord hn h_x0_start h_x0_end (by first | assumption | decide)) ?_
  intro v1 hr1
  have h_v1 : (0 ≤ v1 ∧ v1 ≤ 1) := hr1
  refine Sf.ite (fun hc2 => ?_) (fun hc2 => ?_)
  · refine Sf.bind (sX3_isWord hn h_x0_start h_x0_end (by first | assumption | decide)) ?_
    intro v3 hr3
    have h_v3 : (0 ≤ v3 ∧ v3 ≤ 1) := hr3
    refine Sf.ite (fun hc4 => ?_) (fun hc4 => ?_)
    · refine Sf.bind (sX3_isWord hn h_x0_start h_x0_end (by first | assumption | decide)) ?_
      intro v5 hr5
      have h_v5 : (0 ≤ v5 ∧ v5 ≤ 1) := hr5
      refine Sf.ite (fun hc6 => ?_) (fun hc6 => ?_)
      · refine Sf.bind (sX3_isWord hn h_x0_start h_x0_end (by first | assumption | decide)) ?_
        intro v7 hr7
        have h_v7 : (0 ≤ v7 ∧ v7 ≤ 1) := hr7
        refine Sf.ite (fun hc8 => ?_) (fun hc8 => ?_)
        · refine Sf.bind (sX3_isWord hn h_x0_start h_x0_end (by first | assumption | decide)) ?_
          intro v9 hr9
          have h_v9 : (0 ≤ v9 ∧ v9 ≤ 1) := hr9
          refine Sf.ite (fun hc10 => ?_) (fun hc10 => ?_)
          · refine Sf.bind (sX3_isWord hn h_x0_start h_x0_end (by first | assumption | decide)) ?_
            intro v11 hr11
            have h_v11 : (0 ≤ v11 ∧ v11 ≤ 1) := hr11
            refine Sf.ite (fun hc12 => ?_) (fun hc12 => ?_)
            · exact Sf.ok (show (0 ≤ 0 ∧ 0 ≤ 1) ∧ (0 ≤ x0_start ∧ x0_start ≤ 250) ∧ (0 ≤ x0_end ∧ x0_end ≤ 250) ∧ (0 ≤ x1_lineCount ∧ x1_lineCount ≤ 20) ∧ (0 ≤ x1_goodsCount ∧ x1_goodsCount ≤ 8) ∧ (0 ≤ x1_workCount ∧ x1_workCount ≤ 7) ∧ (1 ≤ x1_years ∧ x1_years ≤ 30) ∧ (LnOk x1_lines) ∧ (GdOk x1_goods) ∧ (WkOk x1_works) ∧ (AI 0 99 x1_change) ∧ (AI 0 9 x1_coin) from ⟨(by decide), h_x0_start, h_x0_end, h_x1_lineCount, h_x1_goodsCount, h_x1_workCount, h_x1_years, h_x1_lines, h_x1_goods, h_x1_works, h_x1_change, h_x1_coin⟩)
            · refine Sf.bind (sX3_readYears hn h_x0_size h_x0_start h_x0_end h_x1_lineCount h_x1_goodsCount h_x1_workCount h_x1_years h_x1_lines h_x1_goods h_x1_works h_x1_change h_x1_coin) ?_
              rintro ⟨v13, g14, g15, g16, g17, g18⟩ hr13
              obtain ⟨h_v13, h_g14, h_g15, h_g18⟩ : (0 ≤ v13 ∧ v13 ≤ 1) ∧ (0 ≤ g14 ∧ g14 ≤ 250) ∧ (0 ≤ g15 ∧ g15 ≤ 250) ∧ (1 ≤ g18 ∧ g18 ≤ 30) := hr13
              dsimp only [u6]
              refine Sf.ite (fun hc14 => ?_) (fun hc14 => ?_)
              · exact Sf.ok (show (0 ≤ 0 ∧ 0 ≤ 1) ∧ (0 ≤ g14 ∧ g14 ≤ 250) ∧ (0 ≤ g15 ∧ g15 ≤ 250) ∧ (0 ≤ x1_lineCount ∧ x1_lineCount ≤ 20) ∧ (0 ≤ x1_goodsCount ∧ x1_goodsCount ≤ 8) ∧ (0 ≤ x1_workCount ∧ x1_workCount ≤ 7) ∧ (1 ≤ g18 ∧ g18 ≤ 30) ∧ (LnOk x1_lines) ∧ (GdOk x1_goods) ∧ (WkOk x1_works) ∧ (AI 0 99 x1_change) ∧ (AI 0 9 x1_coin) from ⟨(by decide), h_g14, h_g15, h_x1_lineCount, h_x1_goodsCount, h_x1_workCount, h_g18, h_x1_lines, h_x1_goods, h_x1_works, h_x1_change, h_x1_coin⟩)
              · exact Sf.ok (show (0 ≤ 1 ∧ 1 ≤ 1) ∧ (0 ≤ g14 ∧ g14 ≤ 250) ∧ (0 ≤ g15 ∧ g15 ≤ 250) ∧ (0 ≤ x1_lineCount ∧ x1_lineCount ≤ 20) ∧ (0 ≤ x1_goodsCount ∧ x1_goodsCount ≤ 8) ∧ (0 ≤ x1_workCount ∧ x1_workCount ≤ 7) ∧ (1 ≤ g18 ∧ g18 ≤ 30) ∧ (LnOk x1_lines) ∧ (GdOk x1_goods) ∧ (WkOk x1_works) ∧ (AI 0 99 x1_change) ∧ (AI 0 9 x1_coin) from ⟨(by decide), h_g14, h_g15, h_x1_lineCount, h_x1_goodsCount, h_x1_workCount, h_g18, h_x1_lines, h_x1_goods, h_x1_works, h_x1_change, h_x1_coin⟩)
          · refine Sf.bind (sX3_readCoin hn h_x0_size h_x0_start h_x0_end h_x1_lineCount h_x1_goodsCount h_x1_workCount h_x1_years h_x1_lines h_x1_goods h_x1_works h_x1_change h_x1_coin) ?_
            rintro ⟨v20, g21, g22, g23, g24, g25, g26⟩ hr15
            obtain ⟨h_v20, h_g21, h_g22, h_g25⟩ : (0 ≤ v20 ∧ v20 ≤ 1) ∧ (0 ≤ g21 ∧ g21 ≤ 250) ∧ (0 ≤ g22 ∧ g22 ≤ 250) ∧ (AI 0 9 g25) := hr15
            dsimp only [u7]
            refine Sf.zbb (by grind) (fun v28 e_v28 => ?_)
            exact Sf.ok (show (0 ≤ v28 ∧ v28 ≤ 1) ∧ (0 ≤ g21 ∧ g21 ≤ 250) ∧ (0 ≤ g22 ∧ g22 ≤ 250) ∧ (0 ≤ x1_lineCount ∧ x1_lineCount ≤ 20) ∧ (0 ≤ x1_goodsCount ∧ x1_goodsCount ≤ 8) ∧ (0 ≤ x1_workCount ∧ x1_workCount ≤ 7) ∧ (1 ≤ x1_years ∧ x1_years ≤ 30) ∧ (LnOk x1_lines) ∧ (GdOk x1_goods) ∧ (WkOk x1_works) ∧ (AI 0 99 x1_change) ∧ (AI 0 9 g25) from ⟨(by grind), h_g21, h_g22, h_x1_lineCount, h_x1_goodsCount, h_x1_workCount, h_x1_years, h_x1_lines, h_x1_goods, h_x1_works, h_x1_change, h_g25⟩)
        · refine Sf.bind (sX3_readChange hn h_x0_size h_x0_start h_x0_end h_x1_lineCount h_x1_goodsCount h_x1_workCount h_x1_years h_x1_lines h_x1_goods h_x1_works h_x1_change h_x1_coin) ?_
          rintro ⟨v29, g30, g31, g32, g33, g34, g35⟩ hr16
          obtain ⟨h_v29, h_g30, h_g31, h_g34⟩ : (0 ≤ v29 ∧ v29 ≤ 1) ∧ (0 ≤ g30 ∧ g30 ≤ 250) ∧ (0 ≤ g31 ∧ g31 ≤ 250) ∧ (AI 0 99 g34) := hr16
          dsimp only [u7]
          refine Sf.zbb (by grind) (fun v37 e_v37 => ?_)
          exact Sf.ok (show (0 ≤ v37 ∧ v37 ≤ 1) ∧ (0 ≤ g30 ∧ g30 ≤ 250) ∧ (0 ≤ g31 ∧ g31 ≤ 250) ∧ (0 ≤ x1_lineCount ∧ x1_lineCount ≤ 20) ∧ (0 ≤ x1_goodsCount ∧ x1_goodsCount ≤ 8) ∧ (0 ≤ x1_workCount ∧ x1_workCount ≤ 7) ∧ (1 ≤ x1_years ∧ x1_years ≤ 30) ∧ (LnOk x1_lines) ∧ (GdOk x1_goods) ∧ (WkOk x1_works) ∧ (AI 0 99 g34) ∧ (AI 0 9 x1_coin) from ⟨(by grind), h_g30, h_g31, h_x1_lineCount, h_x1_goodsCount, h_x1_workCount, h_x1_years, h_x1_lines, h_x1_goods, h_x1_works, h_g34, h_x1_coin⟩)
      · refine Sf.ite (fun hc17 => ?_) (fun hc17 => ?_)
        · exact Sf.ok (show (0 ≤ 0 ∧ 0 ≤ 1) ∧ (0 ≤ x0_start ∧ x0_start ≤ 250) ∧ (0 ≤ x0_end ∧ x0_end ≤ 250) ∧ (0 ≤ x1_lineCount ∧ x1_lineCount ≤ 20) ∧ (0 ≤ x1_goodsCount ∧ x1_goodsCount ≤ 8) ∧ (0 ≤ x1_workCount ∧ x1_workCount ≤ 7) ∧ (1 ≤ x1_years ∧ x1_years ≤ 30) ∧ (LnOk x1_lines) ∧ (GdOk x1_goods) ∧ (WkOk x1_works) ∧ (AI 0 99 x1_change) ∧ (AI 0 9 x1_coin) from ⟨(by decide), h_x0_start, h_x0_end, h_x1_lineCount, h_x1_goodsCount, h_x1_workCount, h_x1_years, h_x1_lines, h_x1_goods, h_x1_works, h_x1_change, h_x1_coin⟩)
        · refine Sf.bind (sX3_readWork hn h_x0_size h_x0_start h_x0_end h_x1_lineCount h_x1_goodsCount h_x1_workCount h_x1_years h_x1_lines h_x1_goods h_x1_works h_x1_change h_x1_coin) ?_
          rintro ⟨v38, g39, g40, g41, g42, g43, g44, g45⟩ hr18
          obtain ⟨h_v38, h_g39, h_g40, h_g43, h_g44⟩ : (0 ≤ v38 ∧ v38 ≤ 1) ∧ (0 ≤ g39 ∧ g39 ≤ 250) ∧ (0 ≤ g40 ∧ g40 ≤ 250) ∧ (0 ≤ g43 ∧ g43 ≤ 7) ∧ (WkOk g44) := hr18
          dsimp only [u8]
          refine Sf.ite (fun hc19 => ?_) (fun hc19 => ?_)
          · exact Sf.ok (show (0 ≤ 0 ∧ 0 ≤ 1) ∧ (0 ≤ g39 ∧ g39 ≤ 250) ∧ (0 ≤ g40 ∧ g40 ≤ 250) ∧ (0 ≤ x1_lineCount ∧ x1_lineCount ≤ 20) ∧ (0 ≤ x1_goodsCount ∧ x1_goodsCount ≤ 8) ∧ (0 ≤ g43 ∧ g43 ≤ 7) ∧ (1 ≤ x1_years ∧ x1_years ≤ 30) ∧ (LnOk x1_lines) ∧ (GdOk x1_goods) ∧ (WkOk g44) ∧ (AI 0 99 x1_change) ∧ (AI 0 9 x1_coin) from ⟨(by decide), h_g39, h_g40, h_x1_lineCount, h_x1_goodsCount, h_g43, h_x1_years, h_x1_lines, h_x1_goods, h_g44, h_x1_change, h_x1_coin⟩)
          · exact Sf.ok (show (0 ≤ 1 ∧ 1 ≤ 1) ∧ (0 ≤ g39 ∧ g39 ≤ 250) ∧ (0 ≤ g40 ∧ g40 ≤ 250) ∧ (0 ≤ x1_lineCount ∧ x1_lineCount ≤ 20) ∧ (0 ≤ x1_goodsCount ∧ x1_goodsCount ≤ 8) ∧ (0 ≤ g43 ∧ g43 ≤ 7) ∧ (1 ≤ x1_years ∧ x1_years ≤ 30) ∧ (LnOk x1_lines) ∧ (GdOk x1_goods) ∧ (WkOk g44) ∧ (AI 0 99 x1_change) ∧ (AI 0 9 x1_coin) from ⟨(by decide), h_g39, h_g40, h_x1_lineCount, h_x1_goodsCount, h_g43, h_x1_years, h_x1_lines, h_x1_goods, h_g44, h_x1_change, h_x1_coin⟩)
    · refine Sf.ite (fun hc20 => ?_) (fun hc20 => ?_)
      · exact Sf.ok (show (0 ≤ 0 ∧ 0 ≤ 1) ∧ (0 ≤ x0_start ∧ x0_start ≤ 250) ∧ (0 ≤ x0_end ∧ x0_end ≤ 250) ∧ (0 ≤ x1_lineCount ∧ x1_lineCount ≤ 20) ∧ (0 ≤ x1_goodsCount ∧ x1_goodsCount ≤ 8) ∧ (0 ≤ x1_workCount ∧ x1_workCount ≤ 7) ∧ (1 ≤ x1_years ∧ x1_years ≤ 30) ∧ (LnOk x1_lines) ∧ (GdOk x1_goods) ∧ (WkOk x1_works) ∧ (AI 0 99 x1_change) ∧ (AI 0 9 x1_coin) from ⟨(by decide), h_x0_start, h_x0_end, h_x1_lineCount, h_x1_goodsCount, h_x1_workCount, h_x1_years, h_x1_lines, h_x1_goods, h_x1_works, h_x1_change, h_x1_coin⟩)
      · refine Sf.bind (sX3_readGoods hn h_x0_size h_x0_start h_x0_end h_x1_lineCount h_x1_goodsCount h_x1_workCount h_x1_years h_x1_lines h_x1_goods h_x1_works h_x1_change h_x1_coin) ?_
        rintro ⟨v47, g48, g49, g50, g51, g52, g53, g54⟩ hr21
        obtain ⟨h_v47, h_g48, h_g49, h_g52, h_g53⟩ : (0 ≤ v47 ∧ v47 ≤ 1) ∧ (0 ≤ g48 ∧ g48 ≤ 250) ∧ (0 ≤ g49 ∧ g49 ≤ 250) ∧ (0 ≤ g52 ∧ g52 ≤ 8) ∧ (GdOk g53) := hr21
        dsimp only [u8]
        refine Sf.ite (fun hc22 => ?_) (fun hc22 => ?_)
        · exact Sf.ok (show (0 ≤ 0 ∧ 0 ≤ 1) ∧ (0 ≤ g48 ∧ g48 ≤ 250) ∧ (0 ≤ g49 ∧ g49 ≤ 250) ∧ (0 ≤ x1_lineCount ∧ x1_lineCount ≤ 20) ∧ (0 ≤ g52 ∧ g52 ≤ 8) ∧ (0 ≤ x1_workCount ∧ x1_workCount ≤ 7) ∧ (1 ≤ x1_years ∧ x1_years ≤ 30) ∧ (LnOk x1_lines) ∧ (GdOk g53) ∧ (WkOk x1_works) ∧ (AI 0 99 x1_change) ∧ (AI 0 9 x1_coin) from ⟨(by decide), h_g48, h_g49, h_x1_lineCount, h_g52, h_x1_workCount, h_x1_years, h_x1_lines, h_g53, h_x1_works, h_x1_change, h_x1_coin⟩)
        · exact Sf.ok (show (0 ≤ 1 ∧ 1 ≤ 1) ∧ (0 ≤ g48 ∧ g48 ≤ 250) ∧ (0 ≤ g49 ∧ g49 ≤ 250) ∧ (0 ≤ x1_lineCount ∧ x1_lineCount ≤ 20) ∧ (0 ≤ g52 ∧ g52 ≤ 8) ∧ (0 ≤ x1_workCount ∧ x1_workCount ≤ 7) ∧ (1 ≤ x1_years ∧ x1_years ≤ 30) ∧ (LnOk x1_lines) ∧ (GdOk g53) ∧ (WkOk x1_works) ∧ (AI 0 99 x1_change) ∧ (AI 0 9 x1_coin) from ⟨(by decide), h_g48, h_g49, h_x1_lineCount, h_g52, h_x1_workCount, h_x1_years, h_x1_lines, h_g53, h_x1_works, h_x1_change, h_x1_coin⟩)
  · refine Sf.ite (fun hc23 => ?_) (fun hc23 => ?_)
    · exact Sf.ok (show (0 ≤ 0 ∧ 0 ≤ 1) ∧ (0 ≤ x0_start ∧ x0_start ≤ 250) ∧ (0 ≤ x0_end ∧ x0_end ≤ 250) ∧ (0 ≤ x1_lineCount ∧ x1_lineCount ≤ 20) ∧ (0 ≤ x1_goodsCount ∧ x1_goodsCount ≤ 8) ∧ (0 ≤ x1_workCount ∧ x1_workCount ≤ 7) ∧ (1 ≤ x1_years ∧ x1_years ≤ 30) ∧ (LnOk x1_lines) ∧ (GdOk x1_goods) ∧ (WkOk x1_works) ∧ (AI 0 99 x1_change) ∧ (AI 0 9 x1_coin) from ⟨(by decide), h_x0_start, h_x0_end, h_x1_lineCount, h_x1_goodsCount, h_x1_workCount, h_x1_years, h_x1_lines, h_x1_goods, h_x1_works, h_x1_change, h_x1_coin⟩)
    · refine Sf.bind (sX3_readLine hn h_x0_size h_x0_start h_x0_end h_x1_lineCount h_x1_goodsCount h_x1_workCount h_x1_years h_x1_lines h_x1_goods h_x1_works h_x1_change h_x1_coin) ?_
      rintro ⟨v56, g57, g58, g59, g60, g61, g62, g63⟩ hr24
      obtain ⟨h_v56, h_g57, h_g58, h_g61, h_g62⟩ : (0 ≤ v56 ∧ v56 ≤ 1) ∧ (0 ≤ g57 ∧ g57 ≤ 250) ∧ (0 ≤ g58 ∧ g58 ≤ 250) ∧ (0 ≤ g61 ∧ g61 ≤ 20) ∧ (LnOk g62) := hr24
      dsimp only [u8]
      refine Sf.ite (fun hc25 => ?_) (fun hc25 => ?_)
      · exact Sf.ok (show (0 ≤ 0 ∧ 0 ≤ 1) ∧ (0 ≤ g57 ∧ g57 ≤ 250) ∧ (0 ≤ g58 ∧ g58 ≤ 250) ∧ (0 ≤ g61 ∧ g61 ≤ 20) ∧ (0 ≤ x1_goodsCount ∧ x1_goodsCount ≤ 8) ∧ (0 ≤ x1_workCount ∧ x1_workCount ≤ 7) ∧ (1 ≤ x1_years ∧ x1_years ≤ 30) ∧ (LnOk g62) ∧ (GdOk x1_goods) ∧ (WkOk x1_works) ∧ (AI 0 99 x1_change) ∧ (AI 0 9 x1_coin) from ⟨(by decide), h_g57, h_g58, h_g61, h_x1_goodsCount, h_x1_workCount, h_x1_years, h_g62, h_x1_goods, h_x1_works, h_x1_change, h_x1_coin⟩)
      · exact Sf.ok (show (0 ≤ 1 ∧ 1 ≤ 1) ∧ (0 ≤ g57 ∧ g57 ≤ 250) ∧ (0 ≤ g58 ∧ g58 ≤ 250) ∧ (0 ≤ g61 ∧ g61 ≤ 20) ∧ (0 ≤ x1_goodsCount ∧ x1_goodsCount ≤ 8) ∧ (0 ≤ x1_workCount ∧ x1_workCount ≤ 7) ∧ (1 ≤ x1_years ∧ x1_years ≤ 30) ∧ (LnOk g62) ∧ (GdOk x1_goods) ∧ (WkOk x1_works) ∧ (AI 0 99 x1_change) ∧ (AI 0 9 x1_coin) from ⟨(by decide), h_g57, h_g58, h_g61, h_x1_goodsCount, h_x1_workCount, h_x1_years, h_g62, h_x1_goods, h_x1_works, h_x1_change, h_x1_coin⟩)
theorem TX3_readInto_s11 {n : Nat} {x0_bytes : (Nat → Int32)} {x0_size : Int32} {x1_knownFree : (Nat → Int32)} {z7 z8 z9 z10 z11 z12 z13 z14 z15 : Int32} {z16 z17 z18 z19 z20 : (Nat → Int32)} {z21 : Int32} (hn : 1000000000000 ≤ n) (h_x0_size : (0 ≤ x0_size ∧ x0_size ≤ 250)) (h_z7 : (0 ≤ z7)) (h_z8 : (0 ≤ z8 ∧ z8 ≤ 250)) (h_z9 : (0 ≤ z9 ∧ z9 ≤ 250)) (h_z12 : (0 ≤ z12 ∧ z12 ≤ 20)) (h_z13 : (0 ≤ z13 ∧ z13 ≤ 8)) (h_z14 : (0 ≤ z14 ∧ z14 ≤ 7)) (h_z15 : (1 ≤ z15 ∧ z15 ≤ 30)) (h_z16 : (LnOk z16)) (h_z17 : (GdOk z17)) (h_z18 : (WkOk z18)) (h_z19 : (AI 0 99 z19)) (h_z20 : (AI 0 9 z20)) : Sf (fX3_readInto_s11 n x0_bytes x0_size x1_knownFree z7 z8 z9 z10 z11 z12 z13 z14 z15 z16 z17 z18 z19 z20 z21) (LQ (u15 (fun z7 z8 z9 z10 z11 z12 z13 z14 z15 z16 z17 z18 z19 z20 z21 => (0 ≤ z7) ∧ (0 ≤ z8 ∧ z8 ≤ 250) ∧ (0 ≤ z9 ∧ z9 ≤ 250) ∧ (0 ≤ z12 ∧ z12 ≤ 20) ∧ (0 ≤ z13 ∧ z13 ≤ 8) ∧ (0 ≤ z14 ∧ z14 ≤ 7) ∧ (1 ≤ z15 ∧ z15 ≤ 30) ∧ (LnOk z16) ∧ (GdOk z17) ∧ (WkOk z18) ∧ (AI 0 99 z19) ∧ (AI 0 9 z20))) (u15 (fun z7 z8 z9 z10 z11 z12 z13 z14 z15 z16 z17 z18 z19 z20 z21 => muUp z7)) (muUp z7) ((Sum.elim (fun a => (0 ≤ a.1 ∧ a.1 ≤ 250) ∧ (0 ≤ a.2.1 ∧ a.2.1 ≤ 250) ∧ (0 ≤ a.2.2.2.2.1 ∧ a.2.2.2.2.1 ≤ 20) ∧ (0 ≤ a.2.2.2.2.2.1 ∧ a.2.2.2.2.2.1 ≤ 8) ∧ (0 ≤ a.2.2.2.2.2.2.1 ∧ a.2.2.2.2.2.2.1 ≤ 7) ∧ (1 ≤ a.2.2.2.2.2.2.2.1 ∧ a.2.2.2.2.2.2.2.1 ≤ 30) ∧ (LnOk a.2.2.2.2.2.2.2.2.1) ∧ (GdOk a.2.2.2.2.2.2.2.2.2.1) ∧ (WkOk a.2.2.2.2.2.2.2.2.2.2.1) ∧ (AI 0 99 a.2.2.2.2.2.2.2.2.2.2.2.1) ∧ (AI 0 9 a.2.2.2.2.2.2.2.2.2.2.2.2.1)) (Sum.elim (fun a => (0 ≤ a.1) ∧ (0 ≤ a.2.1 ∧ a.2.1 ≤ 250) ∧ (0 ≤ a.2.2.1 ∧ a.2.2.1 ≤ 250) ∧ (0 ≤ a.2.2.2.2.2.1 ∧ a.2.2.2.2.2.1 ≤ 20) ∧ (0 ≤ a.2.2.2.2.2.2.1 ∧ a.2.2.2.2.2.2.1 ≤ 8) ∧ (0 ≤ a.2.2.2.2.2.2.2.1 ∧ a.2.2.2.2.2.2.2.1 ≤ 7) ∧ (1 ≤ a.2.2.2.2.2.2.2.2.1 ∧ a.2.2.2.2.2.2.2.2.1 ≤ 30) ∧ (LnOk a.2.2.2.2.2.2.2.2.2.1) ∧ (GdOk a.2.2.2.2.2.2.2.2.2.2.1) ∧ (WkOk a.2.2.2.2.2.2.2.2.2.2.2.1) ∧ (AI 0 99 a.2.2.2.2.2.2.2.2.2.2.2.2.1) ∧ (AI 0 9 a.2.2.2.2.2.2.2.2.2.2.2.2.2.1)) (Sum.elim (fun a => (0 ≤ a.1 ∧ a.1 ≤ 250) ∧ (0 ≤ a.2.1 ∧ a.2.1 ≤ 250) ∧ (0 ≤ a.2.2.2.2.1 ∧ a.2.2.2.2.1 ≤ 20) ∧ (0 ≤ a.2.2.2.2.2.1 ∧ a.2.2.2.2.2.1 ≤ 8) ∧ (0 ≤ a.2.2.2.2.2.2.1 ∧ a.2.2.2.2.2.2.1 ≤ 7) ∧ (1 ≤ a.2.2.2.2.2.2.2.1 ∧ a.2.2.2.2.2.2.2.1 ≤ 30) ∧ (LnOk a.2.2.2.2.2.2.2.2.1) ∧ (GdOk a.2.2.2.2.2.2.2.2.2.1) ∧ (WkOk a.2.2.2.2.2.2.2.2.2.2.1) ∧ (AI 0 99 a.2.2.2.2.2.2.2.2.2.2.2.1) ∧ (AI 0 9 a.2.2.2.2.2.2.2.2.2.2.2.2.1)) (fun a => (0 ≤ a.1 ∧ a.1 ≤ 250) ∧ (0 ≤ a.2.1 ∧ a.2.1 ≤ 250) ∧ (0 ≤ a.2.2.2.2.1 ∧ a.2.2.2.2.1 ≤ 20) ∧ (0 ≤ a.2.2.2.2.2.1 ∧ a.2.2.2.2.2.1 ≤ 8) ∧ (0 ≤ a.2.2.2.2.2.2.1 ∧ a.2.2.2.2.2.2.1 ≤ 7) ∧ (1 ≤ a.2.2.2.2.2.2.2.1 ∧ a.2.2.2.2.2.2.2.1 ≤ 30) ∧ (LnOk a.2.2.2.2.2.2.2.2.1) ∧ (GdOk a.2.2.2.2.2.2.2.2.2.1) ∧ (WkOk a.2.2.2.2.2.2.2.2.2.2.1) ∧ (AI 0 99 a.2.2.2.2.2.2.2.2.2.2.2.1) ∧ (AI 0 9 a.2.2.2.2.2.2.2.2.2.2.2.2.1))))))) := by
  unfold fX3_readInto_s11
  refine Sf.ite (fun hc1 => ?_) (fun hc1 => ?_)
  · exact Sf.inr (show (0 ≤ z8 ∧ z8 ≤ 250) ∧ (0 ≤ z9 ∧ z9 ≤ 250) ∧ (0 ≤ z12 ∧ z12 ≤ 20) ∧ (0 ≤ z13 ∧ z13 ≤ 8) ∧ (0 ≤ z14 ∧ z14 ≤ 7) ∧ (1 ≤ z15 ∧ z15 ≤ 30) ∧ (LnOk z16) ∧ (GdOk z17) ∧ (WkOk z18) ∧ (AI 0 99 z19) ∧ (AI 0 9 z20) from ⟨h_z8, h_z9, h_z12, h_z13, h_z14, h_z15, h_z16, h_z17, h_z18, h_z19, h_z20⟩)
  · refine Sf.bind (sX3_readStatement hn h_x0_size h_z8 h_z9 h_z12 h_z13 h_z14 h_z15 h_z16 h_z17 h_z18 h_z19 h_z20) ?_
    rintro ⟨v80, g81, g82, g83, g84, ⟨g86, g87, g88, g89, g90, g91, g92, g93, g94, g95⟩⟩ hr2
    obtain ⟨h_v80, h_g81, h_g82, h_g86, h_g87, h_g88, h_g89, h_g90, h_g91, h_g92, h_g93, h_g94⟩ : (0 ≤ v80 ∧ v80 ≤ 1) ∧ (0 ≤ g81 ∧ g81 ≤ 250) ∧ (0 ≤ g82 ∧ g82 ≤ 250) ∧ (0 ≤ g86 ∧ g86 ≤ 20) ∧ (0 ≤ g87 ∧ g87 ≤ 8) ∧ (0 ≤ g88 ∧ g88 ≤ 7) ∧ (1 ≤ g89 ∧ g89 ≤ 30) ∧ (LnOk g90) ∧ (GdOk g91) ∧ (WkOk g92) ∧ (AI 0 99 g93) ∧ (AI 0 9 g94) := hr2
    dsimp only [u10, u6]
    refine Sf.ite (fun hc3 => ?_) (fun hc3 => ?_)
    · exact Sf.inr (show (0 ≤ g81 ∧ g81 ≤ 250) ∧ (0 ≤ g82 ∧ g82 ≤ 250) ∧ (0 ≤ g86 ∧ g86 ≤ 20) ∧ (0 ≤ g87 ∧ g87 ≤ 8) ∧ (0 ≤ g88 ∧ g88 ≤ 7) ∧ (1 ≤ g89 ∧ g89 ≤ 30) ∧ (LnOk g90) ∧ (GdOk g91) ∧ (WkOk g92) ∧ (AI 0 99 g93) ∧ (AI 0 9 g94) from ⟨h_g81, h_g82, h_g86, h_g87, h_g88, h_g89, h_g90, h_g91, h_g92, h_g93, h_g94⟩)
    · refine Sf.ite (fun hc4 => ?_) (fun hc4 => ?_)
      · exact Sf.inr (show (0 ≤ z7) ∧ (0 ≤ g81 ∧ g81 ≤ 250) ∧ (0 ≤ g82 ∧ g82 ≤ 250) ∧ (0 ≤ g86 ∧ g86 ≤ 20) ∧ (0 ≤ g87 ∧ g87 ≤ 8) ∧ (0 ≤ g88 ∧ g88 ≤ 7) ∧ (1 ≤ g89 ∧ g89 ≤ 30) ∧ (LnOk g90) ∧ (GdOk g91) ∧ (WkOk g92) ∧ (AI 0 99 g93) ∧ (AI 0 9 g94) from ⟨h_z7, h_g81, h_g82, h_g86, h_g87, h_g88, h_g89, h_g90, h_g91, h_g92, h_g93, h_g94⟩)
      · refine Sf.ite (fun hc5 => ?_) (fun hc5 => ?_)
        · refine Sf.bind (sX3_next hn h_x0_size h_g81 h_g82) ?_
          rintro ⟨g97, g98, g99, g100⟩ hr6
          obtain ⟨h_g97, h_g98⟩ : (0 ≤ g97 ∧ g97 ≤ 250) ∧ (0 ≤ g98 ∧ g98 ≤ 250) := hr6
          dsimp only [u4]
          exact Sf.inl (show (0 ≤ (z7 + 1)) ∧ (0 ≤ g97 ∧ g97 ≤ 250) ∧ (0 ≤ g98 ∧ g98 ≤ 250) ∧ (0 ≤ g86 ∧ g86 ≤ 20) ∧ (0 ≤ g87 ∧ g87 ≤ 8) ∧ (0 ≤ g88 ∧ g88 ≤ 7) ∧ (1 ≤ g89 ∧ g89 ≤ 30) ∧ (LnOk g90) ∧ (GdOk g91) ∧ (WkOk g92) ∧ (AI 0 99 g93) ∧ (AI 0 9 g94) from ⟨(by grind), h_g97, h_g98, h_g86, h_g87, h_g88, h_g89, h_g90, h_g91, h_g92, h_g93, h_g94⟩) (muUp_lt' (B := 2147483647) (by grind))
        · exact Sf.inr (show (0 ≤ g81 ∧ g81 ≤ 250) ∧ (0 ≤ g82 ∧ g82 ≤ 250) ∧ (0 ≤ g86 ∧ g86 ≤ 20) ∧ (0 ≤ g87 ∧ g87 ≤ 8) ∧ (0 ≤ g88 ∧ g88 ≤ 7) ∧ (1 ≤ g89 ∧ g89 ≤ 30) ∧ (LnOk g90) ∧ (GdOk g91) ∧ (WkOk g92) ∧ (AI 0 99 g93) ∧ (AI 0 9 g94) from ⟨h_g81, h_g82, h_g86, h_g87, h_g88, h_g89, h_g90, h_g91, h_g92, h_g93, h_g94⟩)
theorem LX3_readInto_s11 {n : Nat} {x0_bytes : (Nat → Int32)} {x0_size : Int32} {x1_knownFree : (Nat → Int32)} {z7 z8 z9 z10 z11 z12 z13 z14 z15 : Int32} {z16 z17 z18 z19 z20 : (Nat → Int32)} {z21 : Int32} (hn : 1000000000000 ≤ n) (h_x0_size : (0 ≤ x0_size ∧ x0_size ≤ 250)) (h_z7 : (0 ≤ z7)) (h_z8 : (0 ≤ z8 ∧ z8 ≤ 250)) (h_z9 : (0 ≤ z9 ∧ z9 ≤ 250)) (h_z12 : (0 ≤ z12 ∧ z12 ≤ 20)) (h_z13 : (0 ≤ z13 ∧ z13 ≤ 8)) (h_z14 : (0 ≤ z14 ∧ z14 ≤ 7)) (h_z15 : (1 ≤ z15 ∧ z15 ≤ 30)) (h_z16 : (LnOk z16)) (h_z17 : (GdOk z17)) (h_z18 : (WkOk z18)) (h_z19 : (AI 0 99 z19)) (h_z20 : (AI 0 9 z20)) : Sf (lp (u15 (fX3_readInto_s11 n x0_bytes x0_size x1_knownFree)) n (z7, z8, z9, z10, z11, z12, z13, z14, z15, z16, z17, z18, z19, z20, z21)) ((Sum.elim (fun a => (0 ≤ a.1 ∧ a.1 ≤ 250) ∧ (0 ≤ a.2.1 ∧ a.2.1 ≤ 250) ∧ (0 ≤ a.2.2.2.2.1 ∧ a.2.2.2.2.1 ≤ 20) ∧ (0 ≤ a.2.2.2.2.2.1 ∧ a.2.2.2.2.2.1 ≤ 8) ∧ (0 ≤ a.2.2.2.2.2.2.1 ∧ a.2.2.2.2.2.2.1 ≤ 7) ∧ (1 ≤ a.2.2.2.2.2.2.2.1 ∧ a.2.2.2.2.2.2.2.1 ≤ 30) ∧ (LnOk a.2.2.2.2.2.2.2.2.1) ∧ (GdOk a.2.2.2.2.2.2.2.2.2.1) ∧ (WkOk a.2.2.2.2.2.2.2.2.2.2.1) ∧ (AI 0 99 a.2.2.2.2.2.2.2.2.2.2.2.1) ∧ (AI 0 9 a.2.2.2.2.2.2.2.2.2.2.2.2.1)) (Sum.elim (fun a => (0 ≤ a.1) ∧ (0 ≤ a.2.1 ∧ a.2.1 ≤ 250) ∧ (0 ≤ a.2.2.1 ∧ a.2.2.1 ≤ 250) ∧ (0 ≤ a.2.2.2.2.2.1 ∧ a.2.2.2.2.2.1 ≤ 20) ∧ (0 ≤ a.2.2.2.2.2.2.1 ∧ a.2.2.2.2.2.2.1 ≤ 8) ∧ (0 ≤ a.2.2.2.2.2.2.2.1 ∧ a.2.2.2.2.2.2.2.1 ≤ 7) ∧ (1 ≤ a.2.2.2.2.2.2.2.2.1 ∧ a.2.2.2.2.2.2.2.2.1 ≤ 30) ∧ (LnOk a.2.2.2.2.2.2.2.2.2.1) ∧ (GdOk a.2.2.2.2.2.2.2.2.2.2.1) ∧ (WkOk a.2.2.2.2.2.2.2.2.2.2.2.1) ∧ (AI 0 99 a.2.2.2.2.2.2.2.2.2.2.2.2.1) ∧ (AI 0 9 a.2.2.2.2.2.2.2.2.2.2.2.2.2.1)) (Sum.elim (fun a => (0 ≤ a.1 ∧ a.1 ≤ 250) ∧ (0 ≤ a.2.1 ∧ a.2.1 ≤ 250) ∧ (0 ≤ a.2.2.2.2.1 ∧ a.2.2.2.2.1 ≤ 20) ∧ (0 ≤ a.2.2.2.2.2.1 ∧ a.2.2.2.2.2.1 ≤ 8) ∧ (0 ≤ a.2.2.2.2.2.2.1 ∧ a.2.2.2.2.2.2.1 ≤ 7) ∧ (1 ≤ a.2.2.2.2.2.2.2.1 ∧ a.2.2.2.2.2.2.2.1 ≤ 30) ∧ (LnOk a.2.2.2.2.2.2.2.2.1) ∧ (GdOk a.2.2.2.2.2.2.2.2.2.1) ∧ (WkOk a.2.2.2.2.2.2.2.2.2.2.1) ∧ (AI 0 99 a.2.2.2.2.2.2.2.2.2.2.2.1) ∧ (AI 0 9 a.2.2.2.2.2.2.2.2.2.2.2.2.1)) (fun a => (0 ≤ a.1 ∧ a.1 ≤ 250) ∧ (0 ≤ a.2.1 ∧ a.2.1 ≤ 250) ∧ (0 ≤ a.2.2.2.2.1 ∧ a.2.2.2.2.1 ≤ 20) ∧ (0 ≤ a.2.2.2.2.2.1 ∧ a.2.2.2.2.2.1 ≤ 8) ∧ (0 ≤ a.2.2.2.2.2.2.1 ∧ a.2.2.2.2.2.2.1 ≤ 7) ∧ (1 ≤ a.2.2.2.2.2.2.2.1 ∧ a.2.2.2.2.2.2.2.1 ≤ 30) ∧ (LnOk a.2.2.2.2.2.2.2.2.1) ∧ (GdOk a.2.2.2.2.2.2.2.2.2.1) ∧ (WkOk a.2.2.2.2.2.2.2.2.2.2.1) ∧ (AI 0 99 a.2.2.2.2.2.2.2.2.2.2.2.1) ∧ (AI 0 9 a.2.2.2.2.2.2.2.2.2.2.2.2.1)))))) :=
  Sf.loop15 (fun z7 z8 z9 z10 z11 z12 z13 z14 z15 z16 z17 z18 z19 z20 z21 => (0 ≤ z7) ∧ (0 ≤ z8 ∧ z8 ≤ 250) ∧ (0 ≤ z9 ∧ z9 ≤ 250) ∧ (0 ≤ z12 ∧ z12 ≤ 20) ∧ (0 ≤ z13 ∧ z13 ≤ 8) ∧ (0 ≤ z14 ∧ z14 ≤ 7) ∧ (1 ≤ z15 ∧ z15 ≤ 30) ∧ (LnOk z16) ∧ (GdOk z17) ∧ (WkOk z18) ∧ (AI 0 99 z19) ∧ (AI 0 9 z20)) (fun z7 z8 z9 z10 z11 z12 z13 z14 z15 z16 z17 z18 z19 z20 z21 => muUp z7) (fun z7 z8 z9 z10 z11 z12 z13 z14 z15 z16 z17 z18 z19 z20 z21 h => TX3_readInto_s11 hn h_x0_size h.1 h.2.1 h.2.2.1 h.2.2.2.1 h.2.2.2.2.1 h.2.2.2.2.2.1 h.2.2.2.2.2.2.1 h.2.2.2.2.2.2.2.1 h.2.2.2.2.2.2.2.2.1 h.2.2.2.2.2.2.2.2.2.1 h.2.2.2.2.2.2.2.2.2.2.1 h.2.2.2.2.2.2.2.2.2.2.2) (show (0 ≤ z7) ∧ (0 ≤ z8 ∧ z8 ≤ 250) ∧ (0 ≤ z9 ∧ z9 ≤ 250) ∧ (0 ≤ z12 ∧ z12 ≤ 20) ∧ (0 ≤ z13 ∧ z13 ≤ 8) ∧ (0 ≤ z14 ∧ z14 ≤ 7) ∧ (1 ≤ z15 ∧ z15 ≤ 30) ∧ (LnOk z16) ∧ (GdOk z17) ∧ (WkOk z18) ∧ (AI 0 99 z19) ∧ (AI 0 9 z20) from ⟨h_z7, h_z8, h_z9, h_z12, h_z13, h_z14, h_z15, h_z16, h_z17, h_z18, h_z19, h_z20⟩) (muUp_n hn)
set_option maxHeartbeats 1000000 in
theorem sX3_readInto {n : Nat} {x0_bytes : (Nat → Int32)} {x0_size x0_start x0_end x0_token x0_value x1_lineCount x1_goodsCount x1_workCount x1_years : Int32} {x1_lines x1_goods x1_works x1_change x1_coin x1_knownFree : (Nat → Int32)} {x1_isKnown : Int32} (hn : 1000000000000 ≤ n) (h_x0_size : (0 ≤ x0_size ∧ x0_size ≤ 250)) (h_x0_start : (0 ≤ x0_start ∧ x0_start ≤ 250)) (h_x0_end : (0 ≤ x0_end ∧ x0_end ≤ 250)) (h_x1_lineCount : (0 ≤ x1_lineCount ∧ x1_lineCount ≤ 20)) (h_x1_goodsCount : (0 ≤ x1_goodsCount ∧ x1_goodsCount ≤ 8)) (h_x1_workCount : (0 ≤ x1_workCount ∧ x1_workCount ≤ 7)) (h_x1_years : (1 ≤ x1_years ∧ x1_years ≤ 30)) (h_x1_lines : (LnOk x1_lines)) (h_x1_goods : (GdOk x1_goods)) (h_x1_works : (WkOk x1_works)) (h_x1_change : (AI 0 99 x1_change)) (h_x1_coin : (AI 0 9 x1_coin)) : Sf (fX3_readInto n (x0_bytes, x0_size, x0_start, x0_end, x0_token, x0_value) (x1_lineCount, x1_goodsCount, x1_workCount, x1_years, x1_lines, x1_goods, x1_works, x1_change, x1_coin, x1_knownFree, x1_isKnown)) (fun r => (0 ≤ r.2.1 ∧ r.2.1 ≤ 250) ∧ (0 ≤ r.2.2.1 ∧ r.2.2.1 ≤ 250) ∧ (0 ≤ r.2.2.2.2.2.1 ∧ r.2.2.2.2.2.1 ≤ 20) ∧ (0 ≤ r.2.2.2.2.2.2.1 ∧ r.2.2.2.2.2.2.1 ≤ 8) ∧ (0 ≤ r.2.2.2.2.2.2.2.1 ∧ r.2.2.2.2.2.2.2.1 ≤ 7) ∧ (1 ≤ r.2.2.2.2.2.2.2.2.1 ∧ r.2.2.2.2.2.2.2.2.1 ≤ 30) ∧ (LnOk r.2.2.2.2.2.2.2.2.2.1) ∧ (GdOk r.2.2.2.2.2.2.2.2.2.2.1) ∧ (WkOk r.2.2.2.2.2.2.2.2.2.2.2.1) ∧ (AI 0 99 r.2.2.2.2.2.2.2.2.2.2.2.2.1) ∧ (AI 0 9 r.2.2.2.2.2.2.2.2.2.2.2.2.2.1)) := by
  unfold fX3_readInto
  dsimp only [u11, u6]
  refine Sf.bind (sX3_next hn h_x0_size h_x0_start (by decide)) ?_
  rintro ⟨g1, g2, g3, g4⟩ hr1
  obtain ⟨h_g1, h_g2⟩ : (0 ≤ g1 ∧ g1 ≤ 250) ∧ (0 ≤ g2 ∧ g2 ≤ 250) := hr1
  dsimp only [u4]
  refine Sf.bindS (LX3_readInto_s11 hn h_x0_size (by decide) h_g1 h_g2 h_x1_lineCount h_x1_goodsCount h_x1_workCount h_x1_years h_x1_lines h_x1_goods h_x1_works h_x1_change h_x1_coin) ?_ ?_
  · rintro ⟨w23, w24, w25, w26, w27, w28, w29, w30, w31, w32, w33, w34, w35, w36⟩ hr2
    obtain ⟨h_w23, h_w24, h_w27, h_w28, h_w29, h_w30, h_w31, h_w32, h_w33, h_w34, h_w35⟩ : (0 ≤ w23 ∧ w23 ≤ 250) ∧ (0 ≤ w24 ∧ w24 ≤ 250) ∧ (0 ≤ w27 ∧ w27 ≤ 20) ∧ (0 ≤ w28 ∧ w28 ≤ 8) ∧ (0 ≤ w29 ∧ w29 ≤ 7) ∧ (1 ≤ w30 ∧ w30 ≤ 30) ∧ (LnOk w31) ∧ (GdOk w32) ∧ (WkOk w33) ∧ (AI 0 99 w34) ∧ (AI 0 9 w35) := hr2
    dsimp only [u14]
    exact Sf.ok (show (0 ≤ w23 ∧ w23 ≤ 250) ∧ (0 ≤ w24 ∧ w24 ≤ 250) ∧ (0 ≤ w27 ∧ w27 ≤ 20) ∧ (0 ≤ w28 ∧ w28 ≤ 8) ∧ (0 ≤ w29 ∧ w29 ≤ 7) ∧ (1 ≤ w30 ∧ w30 ≤ 30) ∧ (LnOk w31) ∧ (GdOk w32) ∧ (WkOk w33) ∧ (AI 0 99 w34) ∧ (AI 0 9 w35) from ⟨h_w23, h_w24, h_w27, h_w28, h_w29, h_w30, h_w31, h_w32, h_w33, h_w34, h_w35⟩)
  · refine Sf.elimS ?_ ?_
    · rintro ⟨w37, w38, w39, w40, w41, w42, w43, w44, w45, w46, w47, w48, w49, w50, w51⟩ hr3
      obtain ⟨h_w37, h_w38, h_w39, h_w42, h_w43, h_w44, h_w45, h_w46, h_w47, h_w48, h_w49, h_w50⟩ : (0 ≤ w37) ∧ (0 ≤ w38 ∧ w38 ≤ 250) ∧ (0 ≤ w39 ∧ w39 ≤ 250) ∧ (0 ≤ w42 ∧ w42 ≤ 20) ∧ (0 ≤ w43 ∧ w43 ≤ 8) ∧ (0 ≤ w44 ∧ w44 ≤ 7) ∧ (1 ≤ w45 ∧ w45 ≤ 30) ∧ (LnOk w46) ∧ (GdOk w47) ∧ (WkOk w48) ∧ (AI 0 99 w49) ∧ (AI 0 9 w50) := hr3
      dsimp only [u15]
      exact Sf.ok (show (0 ≤ w38 ∧ w38 ≤ 250) ∧ (0 ≤ w39 ∧ w39 ≤ 250) ∧ (0 ≤ w42 ∧ w42 ≤ 20) ∧ (0 ≤ w43 ∧ w43 ≤ 8) ∧ (0 ≤ w44 ∧ w44 ≤ 7) ∧ (1 ≤ w45 ∧ w45 ≤ 30) ∧ (LnOk w46) ∧ (GdOk w47) ∧ (WkOk w48) ∧ (AI 0 99 w49) ∧ (AI 0 9 w50) from ⟨h_w38, h_w39, h_w42, h_w43, h_w44, h_w45, h_w46, h_w47, h_w48, h_w49, h_w50⟩)
    · refine Sf.elimS ?_ ?_
      · rintro ⟨w52, w53, w54, w55, w56, w57, w58, w59, w60, w61, w62, w63, w64, w65⟩ hr4
        obtain ⟨h_w52, h_w53, h_w56, h_w57, h_w58, h_w59, h_w60, h_w61, h_w62, h_w63, h_w64⟩ : (0 ≤ w52 ∧ w52 ≤ 250) ∧ (0 ≤ w53 ∧ w53 ≤ 250) ∧ (0 ≤ w56 ∧ w56 ≤ 20) ∧ (0 ≤ w57 ∧ w57 ≤ 8) ∧ (0 ≤ w58 ∧ w58 ≤ 7) ∧ (1 ≤ w59 ∧ w59 ≤ 30) ∧ (LnOk w60) ∧ (GdOk w61) ∧ (WkOk w62) ∧ (AI 0 99 w63) ∧ (AI 0 9 w64) := hr4
        dsimp only [u14]
        exact Sf.ok (show (0 ≤ w52 ∧ w52 ≤ 250) ∧ (0 ≤ w53 ∧ w53 ≤ 250) ∧ (0 ≤ w56 ∧ w56 ≤ 20) ∧ (0 ≤ w57 ∧ w57 ≤ 8) ∧ (0 ≤ w58 ∧ w58 ≤ 7) ∧ (1 ≤ w59 ∧ w59 ≤ 30) ∧ (LnOk w60) ∧ (GdOk w61) ∧ (WkOk w62) ∧ (AI 0 99 w63) ∧ (AI 0 9 w64) from ⟨h_w52, h_w53, h_w56, h_w57, h_w58, h_w59, h_w60, h_w61, h_w62, h_w63, h_w64⟩)
      · rintro ⟨w66, w67, w68, w69, w70, w71, w72, w73, w74, w75, w76, w77, w78, w79⟩ hr5
        obtain ⟨h_w66, h_w67, h_w70, h_w71, h_w72, h_w73, h_w74, h_w75, h_w76, h_w77, h_w78⟩ : (0 ≤ w66 ∧ w66 ≤ 250) ∧ (0 ≤ w67 ∧ w67 ≤ 250) ∧ (0 ≤ w70 ∧ w70 ≤ 20) ∧ (0 ≤ w71 ∧ w71 ≤ 8) ∧ (0 ≤ w72 ∧ w72 ≤ 7) ∧ (1 ≤ w73 ∧ w73 ≤ 30) ∧ (LnOk w74) ∧ (GdOk w75) ∧ (WkOk w76) ∧ (AI 0 99 w77) ∧ (AI 0 9 w78) := hr5
        dsimp only [u14]
        exact Sf.ok (show (0 ≤ w66 ∧ w66 ≤ 250) ∧ (0 ≤ w67 ∧ w67 ≤ 250) ∧ (0 ≤ w70 ∧ w70 ≤ 20) ∧ (0 ≤ w71 ∧ w71 ≤ 8) ∧ (0 ≤ w72 ∧ w72 ≤ 7) ∧ (1 ≤ w73 ∧ w73 ≤ 30) ∧ (LnOk w74) ∧ (GdOk w75) ∧ (WkOk w76) ∧ (AI 0 99 w77) ∧ (AI 0 9 w78) from ⟨h_w66, h_w67, h_w70, h_w71, h_w72, h_w73, h_w74, h_w75, h_w76, h_w77, h_w78⟩)

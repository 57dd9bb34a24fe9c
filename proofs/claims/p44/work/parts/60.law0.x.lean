section
section BD
variable {d : DT} {Φ : JC} {own nm : String} {cc : ByteArray} {nL : Nat} {ret : Option FieldType} {rm : Room} {gs : List va_W} {ce sl pc n : Nat} {L : List (Nat × Value)} {st : List Value}
theorem J_coreD (hK : Ok d Φ own nm cc nL ret rm) {rm' : Room} {av : List Value} {gc gr : List va_W} {S : Type} {post : S → Option Value × List va_W} {st0 : List Value} {m : Nat} (isC isR : List Nat) (hn : gs.length = m) (hp : (isR ++ isC).isPerm (List.range m) = true) (hC : isC.map (fun i => gs[i]?) = gc.map some) (hR : isR.map (fun i => gs[i]?) = gr.map some)
    (hrun : ∀ (H : Heap) (locs : List Loc) (ls : Array Slot), va_P d.1 vwCl gs.flatten H → va_S Φ.2.2.2.2.2.2.2.2.2.2.1 Φ.2.2.2.2.1.heap H locs → lv_has ls nL L → PreS Φ.2.2.2.2.1 H (Pre d av gc H.size) av → va_Run Φ.1 Φ.2.1 Φ.2.2.1 Φ.2.2.2.1 Φ.2.2.2.2.1 Φ.2.2.2.2.2.1 Φ.2.2.2.2.2.2.1 Φ.2.2.2.2.2.2.2.1 Φ.2.2.2.2.2.2.2.2.1 Φ.2.2.2.2.2.2.2.2.2.1 H locs ce sl rm'.cells rm'.slots (F0 Φ.2.2.2.2.2.1 pc ls st0) st (Pst d post (va_A gc.flatten H.size) av.toArray) (va_A gc.flatten H.size))
    {v : Value} (hv : ∀ u, (post u).1 = some v)
    (kk : J d Φ nL gr (ce + rm'.cells) (sl + rm'.slots) (pc + 3) L (v :: st)) : J d Φ nL gs ce sl pc L st0 := by
  intro H locs ls hP hD hS hl
  have hpm : gs.Perm (gr ++ gc) := perm_pick (isR ++ isC) hn hp (by rw [List.map_append, List.map_append, hR, hC])
  have hpf : gs.flatten.Perm (gr.flatten ++ gc.flatten) := by rw [← List.flatten_append]; exact hpm.flatten
  have hP2 := va_P_perm hpf hP
  have hD2 := va_D_perm hpf hD
  have hPc : va_P d.1 vwCl gc.flatten H := va_P_iff.mpr fun q hq => va_P_iff.mp hP2 q (List.mem_append_right _ hq)
  have hD2' := va_D_iff.mp hD2
  have hDc : va_D (fun _ => True) gc.flatten := va_D_iff.mpr ⟨by have := hD2'.1; rw [List.map_append, List.nodup_append] at this; exact this.2.1, fun _ _ => trivial⟩
  have hF : ∀ q, va_A gc.flatten H.size q → Φ.2.2.2.2.2.2.2.2.2.2.1 q := by
    intro q hq
    rcases hq with ⟨k, e, hq⟩ | hq
    · exact hD2'.2 (q, e) (List.mem_append_right _ (List.mem_of_getElem? hq))
    · exact hK.2.2.2.2.2.2.2.2.2.1 q (Nat.le_trans hS.1 hq)
  have hG0 : Gl d (va_A gc.flatten H.size) Φ.2.2.2.2.1 H := (hK.2.2.2.2.2.2.2.2.2.2.kept hS.2.1).narrow hF
  refine run_go (hrun H locs ls hP hS hl ⟨Pre_blind, fun U hU hW => ?_⟩) hS (fun q _ h => hF q h) hF (fun u H1 locs1 g1 g2 g3 g4 => ?_)
  · subst hU
    exact ⟨rfl, rfl, hPc, hDc, hG0.warm hW⟩
  · obtain ⟨j1, j2⟩ := frame_join hP2 hD2 g3 hF g1 g2
    have hsb : gr.flatten.Sublist (gr.flatten ++ (post u).2.flatten) := List.sublist_append_left _ _
    have j2' := va_D_iff.mp j2
    have := kk H1 locs1 ls (va_P_iff.mpr fun q hq => va_P_iff.mp j1 q (hsb.subset hq)) (va_D_iff.mpr ⟨j2'.1.sublist (hsb.map Prod.fst), fun q hq => j2'.2 q (hsb.subset hq)⟩) g4 hl
    rw [hv u]
    exact this
theorem J_callVd (hK : Ok d Φ own nm cc nL ret rm) {ix na mL : Nat} {y : MethodName} {cc' : ByteArray} {rt : Option FieldType} {rm' : Room} (hd : decode cc pc = .ok (.invokevirtual ix, 3)) (hcv : CV own ix y cc' mL rt na) (hiv : Cond.instanceMethod y ∈ gW ∧ Cond.selects y.cls y y ∈ gW) {b : Nat} {As : List Value} {gc gr : List va_W} {S : Type} {post : S → Option Value × List va_W} (hct : Ct Φ.2.1 d y cc' mL rt rm' (.ref b :: As) gc post) {v : Value} (hv : ∀ u, (post u).1 = some v)
    {st0 : List Value} (hst : st0 = As.reverse ++ .ref b :: st) (hna : As.length = na) (hroom : (st.map fun v => v.category).sum ≤ 8) (hrm : (rm'.frames + 1 ≤ rm.frames ∧ 8 + (mL + 11) + rm'.locals ≤ rm.locals) ∧ ce + rm'.cells ≤ rm.cells ∧ sl + rm'.slots ≤ rm.slots) (i j : Nat) {g : va_W} (hi : gs[i]? = some g) {ci : Nat} {fs : List Value} (hj : g[j]? = some (b, .inr (ci, fs))) {T : u_T} {N : Nat} (hci : vwCl[ci]? = some (y.cls, T, N))
    {m : Nat} (isC isR : List Nat) (hn : gs.length = m) (hp : (isR ++ isC).isPerm (List.range m) = true) (hC : isC.map (fun i => gs[i]?) = gc.map some) (hR : isR.map (fun i => gs[i]?) = gr.map some)
    {ce' sl' : Nat} (hce : ce + rm'.cells = ce') (hsl : sl + rm'.slots = sl') (hpc : pc + 3 = n) (kk : J d Φ nL gr ce' sl' n L (v :: st)) : J d Φ nL gs ce sl pc L st0 := by
  subst hst; subst hce; subst hsl; subst hpc
  refine J_coreD (av := (.ref b :: As)) (rm' := rm') (st := st) hK isC isR hn hp hC hR (fun H locs ls hP hS hl hpre => ?_) hv kk
  obtain ⟨q, hq, -⟩ := fl_at hi hj
  have hRm := hK.2.2.2.2.2.1
  exact va_runV (C := y.cls) ⟨hK.1, hK.2.1, hK.2.2.1, hK.2.2.2.1, hK.2.2.2.2.1⟩ (hct H.size) ⟨hcv.B hK.2.2.2.2.1 (by rw [hRm]; exact hrm.1), hK.2.2.2.2.1 _ hiv.1, hK.2.2.2.2.1 _ hiv.2⟩ ⟨hpre.1, va_recv hK.2.2.2.2.2.2.2.2.2.2.1 hP hci hq, hpre.2⟩ rfl hna hl.1 rfl (lv_room hroom) hd (by rw [hRm]; exact hrm.2)
/-- the law's own script: outside the world, never written -/
def Scr (Φ : JC) (b N : Nat) (xs : Nat → Int32) : Prop := va_X b N xs Φ.2.2.2.2.1 Φ.2.2.2.2.1.heap ∧ b < Φ.2.2.2.2.1.heap.size ∧ ¬ Φ.2.2.2.2.2.2.2.2.2.2.1 b
theorem J_sld (hK : Ok d Φ own nm cc nL ret rm) {b N : Nat} {xs : Nat → Int32} (hX : Scr Φ b N xs) (hd : decode cc pc = .ok (.iaload, 1)) (hn : pc + 1 = n) {i v : Int32} (hr : rd N xs i = some v) (kk : J d Φ nL gs ce sl n L (.int v :: st)) : J d Φ nL gs ce sl pc L (.int i :: .ref b :: st) := by
  subst hn
  intro H locs ls hP hD hS hl
  obtain ⟨h1, rfl⟩ := rd_ok hr
  exact va_sld hK.1 hK.2.1 hX.1 hX.2.1 hX.2.2 hS (inb_vp h1) hd (kk H locs ls hP hD hS hl)
theorem J_slen (hK : Ok d Φ own nm cc nL ret rm) {b N : Nat} {xs : Nat → Int32} (hX : Scr Φ b N xs) (hd : decode cc pc = .ok (.arraylength, 1)) (hn : pc + 1 = n) (kk : J d Φ nL gs ce sl n L (.int (Int32.ofNat N) :: st)) : J d Φ nL gs ce sl pc L (.ref b :: st) := by
  subst hn
  intro H locs ls hP hD hS hl
  exact va_slen hK.1 hK.2.1 hX.1 hX.2.1 hX.2.2 hS hd (kk H locs ls hP hD hS hl)
end BD
/-! what the statement gives of the start: tables, constants -/
theorem sK_of {args : Array Value} {s : State} {A : Nat → Prop} {t : Term} {bs : List Int32} (hN : bs.length < 2 ^ 31) (hex : (Cond.exactly t "java/lang/String").before args s = true) (hco : (Cond.eq (.field t "java/lang/String" "coder" "B") (.int 0)).before args s = true)
    (har : (Cond.arrayOf (.field t "java/lang/String" "value" "[B") .byte).before args s = true) (hle : (Cond.eq (.length (.field t "java/lang/String" "value" "[B")) (.int (Int32.ofNat bs.length))).before args s = true)
    (hel : ∀ j : Nat, j < bs.length → (Cond.eq (.elem (.field t "java/lang/String" "value" "[B") (.int (Int32.ofNat j))) (.int (bs.getD j 0))).before args s = true) (hA : ∀ a : Nat, a < s.heap.size → ¬ A a) :
    ∃ q : Nat × Nat, t.eval args s none [] s = some (.ref q.1) ∧ va_O "java/lang/String" q.1 A s s.heap ∧ va_OF "java/lang/String" "coder" "B" (.int 0) q.1 A s s.heap ∧ va_OF "java/lang/String" "value" "[B" (.ref q.2) q.1 A s s.heap ∧ va_T .byte q.2 bs.length (sByte bs) A s s.heap := by
  obtain ⟨a, c, cA, kA, q1, q2, q3, q4, q5, q6, -⟩ := Cond.exactly_spec (args := args) (first := s) (o := none) (s := s) (idx := []) (t := t) (cls := "java/lang/String") hex
  obtain ⟨t', ht, hT⟩ := va_Tof (f := sByte bs) (A := A) hN har (va_eqt hle) (fun j hj => va_eqt (hel j hj)) hA
  exact ⟨(a, t'), q1, ⟨cA, q3, q5, by rw [q6]; exact q2, hA a (Array.getElem?_eq_some_iff.mp q3).1⟩, vk_OFof q1 (va_eqt hco) hA, vk_OFof q1 ht hA, hT⟩
theorem ar_of {args : Array Value} {s : State} {ty : FieldType} (h : (Cond.arrayClass ty).before args s = true) : ∃ c, s.vm.findClass ("[" ++ ty.toString) = some c ∧ ArrOfT s c ty := by
  obtain ⟨c, k, comp, h1, h2, h3⟩ := Cond.arrayClass_spec h
  exact ⟨c, h1, fun N z => ⟨(fun k h => by cases h), k, h2, comp, h3⟩⟩
theorem ao_of {args : Array Value} {s : State} {ty : FieldType} (h : (Cond.arrayOver (.array ty)).before args s = true) : ∃ c, s.vm.findClass ("[" ++ (FieldType.array ty).toString) = some c ∧ ArrOfT s c (.array ty) := by
  have h0 := h
  unfold Cond.before at h0
  simp only [Cond.holds, Cond.value, beq_iff_eq] at h0
  cases hc : s.vm.findClass (FieldType.array ty).toString with
  | none => simp [hc] at h0
  | some comp =>
    simp only [hc, Option.bind_some, Option.bind_eq_some_iff, Option.map_eq_some_iff] at h0
    obtain ⟨c, hi, k, hk, hb⟩ := h0
    cases hkind : k.kind with
    | array component ty2 =>
      rw [hkind] at hb
      simp at hb
      exact ⟨c, hb.2, fun N z => ⟨(fun k h => by cases h), k, hk, component, by rw [hkind, hb.1]⟩⟩
    | _ => rw [hkind] at hb; simp at hb
end
section
set_option maxRecDepth 100000 in
theorem win_X6 : Cond.instantiable RX6 10 ∈ gW := gW_t1 18 rfl rfl
set_option maxRecDepth 100000 in
theorem wm_RL_13 : Cond.methodLink RL 13 yX6_row ∈ gW := gW_t2 30 rfl rfl
set_option maxRecDepth 100000 in
theorem wc_yX6_row : Cond.code yX6_row cX6_row 4 (some .int) ∈ gW := gW_t2 33 rfl rfl
theorem cv_RL_13 : CV RL 13 yX6_row cX6_row 4 (some .int) 3 := ⟨wm_RL_13, wc_yX6_row, wi_TwoWidths, ⟨by decide, by decide⟩, by decide +kernel⟩
set_option maxRecDepth 100000 in
theorem wn_yX6_row : Cond.instanceMethod yX6_row ∈ gW := gW_t2 31 rfl rfl
set_option maxRecDepth 100000 in
theorem wv_yX6_row : Cond.selects RX6 yX6_row yX6_row ∈ gW := gW_t2 32 rfl rfl
theorem iv_yX6_row : Cond.instanceMethod yX6_row ∈ gW ∧ Cond.selects yX6_row.cls yX6_row yX6_row ∈ gW := ⟨wn_yX6_row, wv_yX6_row⟩
set_option maxRecDepth 100000 in
theorem wm_RL_17 : Cond.methodLink RL 17 yX7_row ∈ gW := gW_t5 156 rfl rfl
set_option maxRecDepth 100000 in
theorem wc_yX7_row : Cond.code yX7_row cX7_row 5 (some .int) ∈ gW := gW_t5 159 rfl rfl
theorem cv_RL_17 : CV RL 17 yX7_row cX7_row 5 (some .int) 3 := ⟨wm_RL_17, wc_yX7_row, wi_TwoWidthsModel, ⟨by decide, by decide⟩, by decide +kernel⟩
set_option maxRecDepth 100000 in
theorem wn_yX7_row : Cond.instanceMethod yX7_row ∈ gW := gW_t5 157 rfl rfl
set_option maxRecDepth 100000 in
theorem wv_yX7_row : Cond.selects RX7 yX7_row yX7_row ∈ gW := gW_t5 158 rfl rfl
theorem iv_yX7_row : Cond.instanceMethod yX7_row ∈ gW ∧ Cond.selects yX7_row.cls yX7_row yX7_row ∈ gW := ⟨wn_yX7_row, wv_yX7_row⟩
set_option maxRecDepth 100000 in
theorem wk_RL_18 : Cond.constantLong RL 18 (4294967295) ∈ gW := gW_t7 67 rfl rfl
set_option maxRecDepth 100000 in
theorem wm_RL_20 : Cond.methodLink RL 20 yX6_set ∈ gW := gW_t2 52 rfl rfl
set_option maxRecDepth 100000 in
theorem wc_yX6_set : Cond.code yX6_set cX6_set 6 (some .int) ∈ gW := gW_t2 55 rfl rfl
theorem cv_RL_20 : CV RL 20 yX6_set cX6_set 6 (some .int) 3 := ⟨wm_RL_20, wc_yX6_set, wi_TwoWidths, ⟨by decide, by decide⟩, by decide +kernel⟩
set_option maxRecDepth 100000 in
theorem wn_yX6_set : Cond.instanceMethod yX6_set ∈ gW := gW_t2 53 rfl rfl
set_option maxRecDepth 100000 in
theorem wv_yX6_set : Cond.selects RX6 yX6_set yX6_set ∈ gW := gW_t2 54 rfl rfl
theorem iv_yX6_set : Cond.instanceMethod yX6_set ∈ gW ∧ Cond.selects yX6_set.cls yX6_set yX6_set ∈ gW := ⟨wn_yX6_set, wv_yX6_set⟩
set_option maxRecDepth 100000 in
theorem wm_RL_24 : Cond.methodLink RL 24 yX7_set ∈ gW := gW_t5 170 rfl rfl
set_option maxRecDepth 100000 in
theorem wc_yX7_set : Cond.code yX7_set cX7_set 5 (some .int) ∈ gW := gW_t5 173 rfl rfl
theorem cv_RL_24 : CV RL 24 yX7_set cX7_set 5 (some .int) 3 := ⟨wm_RL_24, wc_yX7_set, wi_TwoWidthsModel, ⟨by decide, by decide⟩, by decide +kernel⟩
set_option maxRecDepth 100000 in
theorem wn_yX7_set : Cond.instanceMethod yX7_set ∈ gW := gW_t5 171 rfl rfl
set_option maxRecDepth 100000 in
theorem wv_yX7_set : Cond.selects RX7 yX7_set yX7_set ∈ gW := gW_t5 172 rfl rfl
theorem iv_yX7_set : Cond.instanceMethod yX7_set ∈ gW ∧ Cond.selects yX7_set.cls yX7_set yX7_set ∈ gW := ⟨wn_yX7_set, wv_yX7_set⟩
set_option maxRecDepth 100000 in
theorem wm_RL_25 : Cond.methodLink RL 25 yX6_copy ∈ gW := gW_t2 75 rfl rfl
set_option maxRecDepth 100000 in
theorem wc_yX6_copy : Cond.code yX6_copy cX6_copy 6 (some .int) ∈ gW := gW_t2 78 rfl rfl
theorem cv_RL_25 : CV RL 25 yX6_copy cX6_copy 6 (some .int) 5 := ⟨wm_RL_25, wc_yX6_copy, wi_TwoWidths, ⟨by decide, by decide⟩, by decide +kernel⟩
set_option maxRecDepth 100000 in
theorem wn_yX6_copy : Cond.instanceMethod yX6_copy ∈ gW := gW_t2 76 rfl rfl
set_option maxRecDepth 100000 in
theorem wv_yX6_copy : Cond.selects RX6 yX6_copy yX6_copy ∈ gW := gW_t2 77 rfl rfl
theorem iv_yX6_copy : Cond.instanceMethod yX6_copy ∈ gW ∧ Cond.selects yX6_copy.cls yX6_copy yX6_copy ∈ gW := ⟨wn_yX6_copy, wv_yX6_copy⟩
set_option maxRecDepth 100000 in
theorem wm_RL_29 : Cond.methodLink RL 29 yX7_copy ∈ gW := gW_t5 177 rfl rfl
set_option maxRecDepth 100000 in
theorem wc_yX7_copy : Cond.code yX7_copy cX7_copy 7 (some .int) ∈ gW := gW_t5 180 rfl rfl
theorem cv_RL_29 : CV RL 29 yX7_copy cX7_copy 7 (some .int) 5 := ⟨wm_RL_29, wc_yX7_copy, wi_TwoWidthsModel, ⟨by decide, by decide⟩, by decide +kernel⟩
set_option maxRecDepth 100000 in
theorem wn_yX7_copy : Cond.instanceMethod yX7_copy ∈ gW := gW_t5 178 rfl rfl
set_option maxRecDepth 100000 in
theorem wv_yX7_copy : Cond.selects RX7 yX7_copy yX7_copy ∈ gW := gW_t5 179 rfl rfl
theorem iv_yX7_copy : Cond.instanceMethod yX7_copy ∈ gW ∧ Cond.selects yX7_copy.cls yX7_copy yX7_copy ∈ gW := ⟨wn_yX7_copy, wv_yX7_copy⟩
set_option maxRecDepth 100000 in
theorem wm_RL_30 : Cond.methodLink RL 30 yX6_element ∈ gW := gW_t2 86 rfl rfl
set_option maxRecDepth 100000 in
theorem wc_yX6_element : Cond.code yX6_element cX6_element 3 (some .long) ∈ gW := gW_t2 89 rfl rfl
theorem cv_RL_30 : CV RL 30 yX6_element cX6_element 3 (some .long) 2 := ⟨wm_RL_30, wc_yX6_element, wi_TwoWidths, ⟨by decide, by decide⟩, by decide +kernel⟩
set_option maxRecDepth 100000 in
theorem wn_yX6_element : Cond.instanceMethod yX6_element ∈ gW := gW_t2 87 rfl rfl
set_option maxRecDepth 100000 in
theorem wv_yX6_element : Cond.selects RX6 yX6_element yX6_element ∈ gW := gW_t2 88 rfl rfl
theorem iv_yX6_element : Cond.instanceMethod yX6_element ∈ gW ∧ Cond.selects yX6_element.cls yX6_element yX6_element ∈ gW := ⟨wn_yX6_element, wv_yX6_element⟩
set_option maxRecDepth 100000 in
theorem wm_RL_34 : Cond.methodLink RL 34 yX7_element ∈ gW := gW_t5 181 rfl rfl
set_option maxRecDepth 100000 in
theorem wc_yX7_element : Cond.code yX7_element cX7_element 3 (some .long) ∈ gW := gW_t5 184 rfl rfl
theorem cv_RL_34 : CV RL 34 yX7_element cX7_element 3 (some .long) 2 := ⟨wm_RL_34, wc_yX7_element, wi_TwoWidthsModel, ⟨by decide, by decide⟩, by decide +kernel⟩
set_option maxRecDepth 100000 in
theorem wn_yX7_element : Cond.instanceMethod yX7_element ∈ gW := gW_t5 182 rfl rfl
set_option maxRecDepth 100000 in
theorem wv_yX7_element : Cond.selects RX7 yX7_element yX7_element ∈ gW := gW_t5 183 rfl rfl
theorem iv_yX7_element : Cond.instanceMethod yX7_element ∈ gW ∧ Cond.selects yX7_element.cls yX7_element yX7_element ∈ gW := ⟨wn_yX7_element, wv_yX7_element⟩
set_option maxRecDepth 100000 in
theorem wm_RL_35 : Cond.methodLink RL 35 yX6_holds ∈ gW := gW_t2 90 rfl rfl
set_option maxRecDepth 100000 in
theorem wc_yX6_holds : Cond.code yX6_holds cX6_holds 2 (some .int) ∈ gW := gW_t2 93 rfl rfl
theorem cv_RL_35 : CV RL 35 yX6_holds cX6_holds 2 (some .int) 1 := ⟨wm_RL_35, wc_yX6_holds, wi_TwoWidths, ⟨by decide, by decide⟩, by decide +kernel⟩
set_option maxRecDepth 100000 in
theorem wn_yX6_holds : Cond.instanceMethod yX6_holds ∈ gW := gW_t2 91 rfl rfl
set_option maxRecDepth 100000 in
theorem wv_yX6_holds : Cond.selects RX6 yX6_holds yX6_holds ∈ gW := gW_t2 92 rfl rfl
theorem iv_yX6_holds : Cond.instanceMethod yX6_holds ∈ gW ∧ Cond.selects yX6_holds.cls yX6_holds yX6_holds ∈ gW := ⟨wn_yX6_holds, wv_yX6_holds⟩
set_option maxRecDepth 100000 in
theorem wm_RL_39 : Cond.methodLink RL 39 yX7_holds ∈ gW := gW_t5 185 rfl rfl
set_option maxRecDepth 100000 in
theorem wc_yX7_holds : Cond.code yX7_holds cX7_holds 2 (some .int) ∈ gW := gW_t5 188 rfl rfl
theorem cv_RL_39 : CV RL 39 yX7_holds cX7_holds 2 (some .int) 1 := ⟨wm_RL_39, wc_yX7_holds, wi_TwoWidthsModel, ⟨by decide, by decide⟩, by decide +kernel⟩
set_option maxRecDepth 100000 in
theorem wn_yX7_holds : Cond.instanceMethod yX7_holds ∈ gW := gW_t5 186 rfl rfl
set_option maxRecDepth 100000 in
theorem wv_yX7_holds : Cond.selects RX7 yX7_holds yX7_holds ∈ gW := gW_t5 187 rfl rfl
theorem iv_yX7_holds : Cond.instanceMethod yX7_holds ∈ gW ∧ Cond.selects yX7_holds.cls yX7_holds yX7_holds ∈ gW := ⟨wn_yX7_holds, wv_yX7_holds⟩
set_option maxRecDepth 100000 in
theorem wm_RL_40 : Cond.methodLink RL 40 yX6_show ∈ gW := gW_t2 94 rfl rfl
set_option maxRecDepth 100000 in
theorem wc_yX6_show : Cond.code yX6_show cX6_show 3 (some .int) ∈ gW := gW_t2 97 rfl rfl
theorem cv_RL_40 : CV RL 40 yX6_show cX6_show 3 (some .int) 2 := ⟨wm_RL_40, wc_yX6_show, wi_TwoWidths, ⟨by decide, by decide⟩, by decide +kernel⟩
set_option maxRecDepth 100000 in
theorem wn_yX6_show : Cond.instanceMethod yX6_show ∈ gW := gW_t2 95 rfl rfl
set_option maxRecDepth 100000 in
theorem wv_yX6_show : Cond.selects RX6 yX6_show yX6_show ∈ gW := gW_t2 96 rfl rfl
theorem iv_yX6_show : Cond.instanceMethod yX6_show ∈ gW ∧ Cond.selects yX6_show.cls yX6_show yX6_show ∈ gW := ⟨wn_yX6_show, wv_yX6_show⟩
set_option maxRecDepth 100000 in
theorem wm_RL_44 : Cond.methodLink RL 44 yX7_show ∈ gW := gW_t5 189 rfl rfl
set_option maxRecDepth 100000 in
theorem wc_yX7_show : Cond.code yX7_show cX7_show 3 (some .int) ∈ gW := gW_t5 192 rfl rfl
theorem cv_RL_44 : CV RL 44 yX7_show cX7_show 3 (some .int) 2 := ⟨wm_RL_44, wc_yX7_show, wi_TwoWidthsModel, ⟨by decide, by decide⟩, by decide +kernel⟩
set_option maxRecDepth 100000 in
theorem wn_yX7_show : Cond.instanceMethod yX7_show ∈ gW := gW_t5 190 rfl rfl
set_option maxRecDepth 100000 in
theorem wv_yX7_show : Cond.selects RX7 yX7_show yX7_show ∈ gW := gW_t5 191 rfl rfl
theorem iv_yX7_show : Cond.instanceMethod yX7_show ∈ gW ∧ Cond.selects yX7_show.cls yX7_show yX7_show ∈ gW := ⟨wn_yX7_show, wv_yX7_show⟩
set_option maxRecDepth 100000 in
theorem wm_RL_45 : Cond.methodLink RL 45 yX6_says ∈ gW := gW_t2 103 rfl rfl
set_option maxRecDepth 100000 in
theorem wc_yX6_says : Cond.code yX6_says cX6_says 4 (some .int) ∈ gW := gW_t2 106 rfl rfl
theorem cv_RL_45 : CV RL 45 yX6_says cX6_says 4 (some .int) 2 := ⟨wm_RL_45, wc_yX6_says, wi_TwoWidths, ⟨by decide, by decide⟩, by decide +kernel⟩
set_option maxRecDepth 100000 in
theorem wn_yX6_says : Cond.instanceMethod yX6_says ∈ gW := gW_t2 104 rfl rfl
set_option maxRecDepth 100000 in
theorem wv_yX6_says : Cond.selects RX6 yX6_says yX6_says ∈ gW := gW_t2 105 rfl rfl
theorem iv_yX6_says : Cond.instanceMethod yX6_says ∈ gW ∧ Cond.selects yX6_says.cls yX6_says yX6_says ∈ gW := ⟨wn_yX6_says, wv_yX6_says⟩
set_option maxRecDepth 100000 in
theorem wm_RL_48 : Cond.methodLink RL 48 yX7_says ∈ gW := gW_t5 197 rfl rfl
set_option maxRecDepth 100000 in
theorem wc_yX7_says : Cond.code yX7_says cX7_says 4 (some .int) ∈ gW := gW_t5 200 rfl rfl
theorem cv_RL_48 : CV RL 48 yX7_says cX7_says 4 (some .int) 2 := ⟨wm_RL_48, wc_yX7_says, wi_TwoWidthsModel, ⟨by decide, by decide⟩, by decide +kernel⟩
set_option maxRecDepth 100000 in
theorem wn_yX7_says : Cond.instanceMethod yX7_says ∈ gW := gW_t5 198 rfl rfl
set_option maxRecDepth 100000 in
theorem wv_yX7_says : Cond.selects RX7 yX7_says yX7_says ∈ gW := gW_t5 199 rfl rfl
theorem iv_yX7_says : Cond.instanceMethod yX7_says ∈ gW ∧ Cond.selects yX7_says.cls yX7_says yX7_says ∈ gW := ⟨wn_yX7_says, wv_yX7_says⟩
set_option maxRecDepth 100000 in
theorem wm_RL_49 : Cond.methodLink RL 49 yX6_line ∈ gW := gW_t2 121 rfl rfl
set_option maxRecDepth 100000 in
theorem wc_yX6_line : Cond.code yX6_line cX6_line 7 (some .int) ∈ gW := gW_t2 124 rfl rfl
theorem cv_RL_49 : CV RL 49 yX6_line cX6_line 7 (some .int) 6 := ⟨wm_RL_49, wc_yX6_line, wi_TwoWidths, ⟨by decide, by decide⟩, by decide +kernel⟩
set_option maxRecDepth 100000 in
theorem wn_yX6_line : Cond.instanceMethod yX6_line ∈ gW := gW_t2 122 rfl rfl
set_option maxRecDepth 100000 in
theorem wv_yX6_line : Cond.selects RX6 yX6_line yX6_line ∈ gW := gW_t2 123 rfl rfl
theorem iv_yX6_line : Cond.instanceMethod yX6_line ∈ gW ∧ Cond.selects yX6_line.cls yX6_line yX6_line ∈ gW := ⟨wn_yX6_line, wv_yX6_line⟩
set_option maxRecDepth 100000 in
theorem wm_RL_53 : Cond.methodLink RL 53 yX7_line ∈ gW := gW_t5 205 rfl rfl
set_option maxRecDepth 100000 in
theorem wc_yX7_line : Cond.code yX7_line cX7_line 8 (some .int) ∈ gW := gW_t5 208 rfl rfl
theorem cv_RL_53 : CV RL 53 yX7_line cX7_line 8 (some .int) 6 := ⟨wm_RL_53, wc_yX7_line, wi_TwoWidthsModel, ⟨by decide, by decide⟩, by decide +kernel⟩
set_option maxRecDepth 100000 in
theorem wn_yX7_line : Cond.instanceMethod yX7_line ∈ gW := gW_t5 206 rfl rfl
set_option maxRecDepth 100000 in
theorem wv_yX7_line : Cond.selects RX7 yX7_line yX7_line ∈ gW := gW_t5 207 rfl rfl
theorem iv_yX7_line : Cond.instanceMethod yX7_line ∈ gW ∧ Cond.selects yX7_line.cls yX7_line yX7_line ∈ gW := ⟨wn_yX7_line, wv_yX7_line⟩
set_option maxRecDepth 100000 in
theorem wm_RL_54 : Cond.methodLink RL 54 yX6_goods ∈ gW := gW_t2 132 rfl rfl
set_option maxRecDepth 100000 in
theorem wc_yX6_goods : Cond.code yX6_goods cX6_goods 4 (some .int) ∈ gW := gW_t2 135 rfl rfl
theorem cv_RL_54 : CV RL 54 yX6_goods cX6_goods 4 (some .int) 3 := ⟨wm_RL_54, wc_yX6_goods, wi_TwoWidths, ⟨by decide, by decide⟩, by decide +kernel⟩
set_option maxRecDepth 100000 in
theorem wn_yX6_goods : Cond.instanceMethod yX6_goods ∈ gW := gW_t2 133 rfl rfl
set_option maxRecDepth 100000 in
theorem wv_yX6_goods : Cond.selects RX6 yX6_goods yX6_goods ∈ gW := gW_t2 134 rfl rfl
theorem iv_yX6_goods : Cond.instanceMethod yX6_goods ∈ gW ∧ Cond.selects yX6_goods.cls yX6_goods yX6_goods ∈ gW := ⟨wn_yX6_goods, wv_yX6_goods⟩
set_option maxRecDepth 100000 in
theorem wm_RL_57 : Cond.methodLink RL 57 yX7_goods ∈ gW := gW_t5 219 rfl rfl
set_option maxRecDepth 100000 in
theorem wc_yX7_goods : Cond.code yX7_goods cX7_goods 4 (some .int) ∈ gW := gW_t5 222 rfl rfl
theorem cv_RL_57 : CV RL 57 yX7_goods cX7_goods 4 (some .int) 3 := ⟨wm_RL_57, wc_yX7_goods, wi_TwoWidthsModel, ⟨by decide, by decide⟩, by decide +kernel⟩
set_option maxRecDepth 100000 in
theorem wn_yX7_goods : Cond.instanceMethod yX7_goods ∈ gW := gW_t5 220 rfl rfl
set_option maxRecDepth 100000 in
theorem wv_yX7_goods : Cond.selects RX7 yX7_goods yX7_goods ∈ gW := gW_t5 221 rfl rfl
theorem iv_yX7_goods : Cond.instanceMethod yX7_goods ∈ gW ∧ Cond.selects yX7_goods.cls yX7_goods yX7_goods ∈ gW := ⟨wn_yX7_goods, wv_yX7_goods⟩
set_option maxRecDepth 100000 in
theorem wm_RL_58 : Cond.methodLink RL 58 yX6_work ∈ gW := gW_t2 140 rfl rfl
set_option maxRecDepth 100000 in
theorem wc_yX6_work : Cond.code yX6_work cX6_work 5 (some .int) ∈ gW := gW_t2 143 rfl rfl
theorem cv_RL_58 : CV RL 58 yX6_work cX6_work 5 (some .int) 4 := ⟨wm_RL_58, wc_yX6_work, wi_TwoWidths, ⟨by decide, by decide⟩, by decide +kernel⟩
set_option maxRecDepth 100000 in
theorem wn_yX6_work : Cond.instanceMethod yX6_work ∈ gW := gW_t2 141 rfl rfl
set_option maxRecDepth 100000 in
theorem wv_yX6_work : Cond.selects RX6 yX6_work yX6_work ∈ gW := gW_t2 142 rfl rfl
theorem iv_yX6_work : Cond.instanceMethod yX6_work ∈ gW ∧ Cond.selects yX6_work.cls yX6_work yX6_work ∈ gW := ⟨wn_yX6_work, wv_yX6_work⟩
set_option maxRecDepth 100000 in
theorem wm_RL_62 : Cond.methodLink RL 62 yX7_work ∈ gW := gW_t5 224 rfl rfl
set_option maxRecDepth 100000 in
theorem wc_yX7_work : Cond.code yX7_work cX7_work 6 (some .int) ∈ gW := gW_t5 227 rfl rfl
theorem cv_RL_62 : CV RL 62 yX7_work cX7_work 6 (some .int) 4 := ⟨wm_RL_62, wc_yX7_work, wi_TwoWidthsModel, ⟨by decide, by decide⟩, by decide +kernel⟩
set_option maxRecDepth 100000 in
theorem wn_yX7_work : Cond.instanceMethod yX7_work ∈ gW := gW_t5 225 rfl rfl
set_option maxRecDepth 100000 in
theorem wv_yX7_work : Cond.selects RX7 yX7_work yX7_work ∈ gW := gW_t5 226 rfl rfl
theorem iv_yX7_work : Cond.instanceMethod yX7_work ∈ gW ∧ Cond.selects yX7_work.cls yX7_work yX7_work ∈ gW := ⟨wn_yX7_work, wv_yX7_work⟩
set_option maxRecDepth 100000 in
theorem wm_RL_63 : Cond.methodLink RL 63 yX6_change ∈ gW := gW_t2 161 rfl rfl
set_option maxRecDepth 100000 in
theorem wc_yX6_change : Cond.code yX6_change cX6_change 4 (some .int) ∈ gW := gW_t2 164 rfl rfl
theorem cv_RL_63 : CV RL 63 yX6_change cX6_change 4 (some .int) 2 := ⟨wm_RL_63, wc_yX6_change, wi_TwoWidths, ⟨by decide, by decide⟩, by decide +kernel⟩
set_option maxRecDepth 100000 in
theorem wn_yX6_change : Cond.instanceMethod yX6_change ∈ gW := gW_t2 162 rfl rfl
set_option maxRecDepth 100000 in
theorem wv_yX6_change : Cond.selects RX6 yX6_change yX6_change ∈ gW := gW_t2 163 rfl rfl
theorem iv_yX6_change : Cond.instanceMethod yX6_change ∈ gW ∧ Cond.selects yX6_change.cls yX6_change yX6_change ∈ gW := ⟨wn_yX6_change, wv_yX6_change⟩
set_option maxRecDepth 100000 in
theorem wm_RL_66 : Cond.methodLink RL 66 yX7_change ∈ gW := gW_t6 2 rfl rfl
set_option maxRecDepth 100000 in
theorem wc_yX7_change : Cond.code yX7_change cX7_change 4 (some .int) ∈ gW := gW_t6 5 rfl rfl
theorem cv_RL_66 : CV RL 66 yX7_change cX7_change 4 (some .int) 2 := ⟨wm_RL_66, wc_yX7_change, wi_TwoWidthsModel, ⟨by decide, by decide⟩, by decide +kernel⟩
set_option maxRecDepth 100000 in
theorem wn_yX7_change : Cond.instanceMethod yX7_change ∈ gW := gW_t6 3 rfl rfl
set_option maxRecDepth 100000 in
theorem wv_yX7_change : Cond.selects RX7 yX7_change yX7_change ∈ gW := gW_t6 4 rfl rfl
theorem iv_yX7_change : Cond.instanceMethod yX7_change ∈ gW ∧ Cond.selects yX7_change.cls yX7_change yX7_change ∈ gW := ⟨wn_yX7_change, wv_yX7_change⟩
set_option maxRecDepth 100000 in
theorem wm_RL_67 : Cond.methodLink RL 67 yX6_coin ∈ gW := gW_t2 169 rfl rfl
set_option maxRecDepth 100000 in
theorem wc_yX6_coin : Cond.code yX6_coin cX6_coin 4 (some .int) ∈ gW := gW_t2 172 rfl rfl
theorem cv_RL_67 : CV RL 67 yX6_coin cX6_coin 4 (some .int) 2 := ⟨wm_RL_67, wc_yX6_coin, wi_TwoWidths, ⟨by decide, by decide⟩, by decide +kernel⟩
set_option maxRecDepth 100000 in
theorem wn_yX6_coin : Cond.instanceMethod yX6_coin ∈ gW := gW_t2 170 rfl rfl
set_option maxRecDepth 100000 in
theorem wv_yX6_coin : Cond.selects RX6 yX6_coin yX6_coin ∈ gW := gW_t2 171 rfl rfl
theorem iv_yX6_coin : Cond.instanceMethod yX6_coin ∈ gW ∧ Cond.selects yX6_coin.cls yX6_coin yX6_coin ∈ gW := ⟨wn_yX6_coin, wv_yX6_coin⟩
set_option maxRecDepth 100000 in
theorem wm_RL_70 : Cond.methodLink RL 70 yX7_coin ∈ gW := gW_t6 6 rfl rfl
set_option maxRecDepth 100000 in
theorem wc_yX7_coin : Cond.code yX7_coin cX7_coin 4 (some .int) ∈ gW := gW_t6 9 rfl rfl
theorem cv_RL_70 : CV RL 70 yX7_coin cX7_coin 4 (some .int) 2 := ⟨wm_RL_70, wc_yX7_coin, wi_TwoWidthsModel, ⟨by decide, by decide⟩, by decide +kernel⟩
set_option maxRecDepth 100000 in
theorem wn_yX7_coin : Cond.instanceMethod yX7_coin ∈ gW := gW_t6 7 rfl rfl
set_option maxRecDepth 100000 in
theorem wv_yX7_coin : Cond.selects RX7 yX7_coin yX7_coin ∈ gW := gW_t6 8 rfl rfl
theorem iv_yX7_coin : Cond.instanceMethod yX7_coin ∈ gW ∧ Cond.selects yX7_coin.cls yX7_coin yX7_coin ∈ gW := ⟨wn_yX7_coin, wv_yX7_coin⟩
set_option maxRecDepth 100000 in
theorem wm_RL_71 : Cond.methodLink RL 71 yX6_years ∈ gW := gW_t2 177 rfl rfl
set_option maxRecDepth 100000 in
theorem wc_yX6_years : Cond.code yX6_years cX6_years 3 (some .int) ∈ gW := gW_t2 180 rfl rfl
theorem cv_RL_71 : CV RL 71 yX6_years cX6_years 3 (some .int) 1 := ⟨wm_RL_71, wc_yX6_years, wi_TwoWidths, ⟨by decide, by decide⟩, by decide +kernel⟩
set_option maxRecDepth 100000 in
theorem wn_yX6_years : Cond.instanceMethod yX6_years ∈ gW := gW_t2 178 rfl rfl
set_option maxRecDepth 100000 in
theorem wv_yX6_years : Cond.selects RX6 yX6_years yX6_years ∈ gW := gW_t2 179 rfl rfl
theorem iv_yX6_years : Cond.instanceMethod yX6_years ∈ gW ∧ Cond.selects yX6_years.cls yX6_years yX6_years ∈ gW := ⟨wn_yX6_years, wv_yX6_years⟩
set_option maxRecDepth 100000 in
theorem wm_RL_74 : Cond.methodLink RL 74 yX7_years ∈ gW := gW_t6 11 rfl rfl
set_option maxRecDepth 100000 in
theorem wc_yX7_years : Cond.code yX7_years cX7_years 3 (some .int) ∈ gW := gW_t6 14 rfl rfl
theorem cv_RL_74 : CV RL 74 yX7_years cX7_years 3 (some .int) 1 := ⟨wm_RL_74, wc_yX7_years, wi_TwoWidthsModel, ⟨by decide, by decide⟩, by decide +kernel⟩
set_option maxRecDepth 100000 in
theorem wn_yX7_years : Cond.instanceMethod yX7_years ∈ gW := gW_t6 12 rfl rfl
set_option maxRecDepth 100000 in
theorem wv_yX7_years : Cond.selects RX7 yX7_years yX7_years ∈ gW := gW_t6 13 rfl rfl
theorem iv_yX7_years : Cond.instanceMethod yX7_years ∈ gW ∧ Cond.selects yX7_years.cls yX7_years yX7_years ∈ gW := ⟨wn_yX7_years, wv_yX7_years⟩
set_option maxRecDepth 100000 in
theorem wm_RL_75 : Cond.methodLink RL 75 yX6_washed ∈ gW := gW_t2 181 rfl rfl
set_option maxRecDepth 100000 in
theorem wc_yX6_washed : Cond.code yX6_washed cX6_washed 4 (some .int) ∈ gW := gW_t2 184 rfl rfl
theorem cv_RL_75 : CV RL 75 yX6_washed cX6_washed 4 (some .int) 2 := ⟨wm_RL_75, wc_yX6_washed, wi_TwoWidths, ⟨by decide, by decide⟩, by decide +kernel⟩
set_option maxRecDepth 100000 in
theorem wn_yX6_washed : Cond.instanceMethod yX6_washed ∈ gW := gW_t2 182 rfl rfl
set_option maxRecDepth 100000 in
theorem wv_yX6_washed : Cond.selects RX6 yX6_washed yX6_washed ∈ gW := gW_t2 183 rfl rfl
theorem iv_yX6_washed : Cond.instanceMethod yX6_washed ∈ gW ∧ Cond.selects yX6_washed.cls yX6_washed yX6_washed ∈ gW := ⟨wn_yX6_washed, wv_yX6_washed⟩
set_option maxRecDepth 100000 in
theorem wm_RL_79 : Cond.methodLink RL 79 yX7_washed ∈ gW := gW_t6 16 rfl rfl
set_option maxRecDepth 100000 in
theorem wc_yX7_washed : Cond.code yX7_washed cX7_washed 4 (some .int) ∈ gW := gW_t6 19 rfl rfl
theorem cv_RL_79 : CV RL 79 yX7_washed cX7_washed 4 (some .int) 2 := ⟨wm_RL_79, wc_yX7_washed, wi_TwoWidthsModel, ⟨by decide, by decide⟩, by decide +kernel⟩
set_option maxRecDepth 100000 in
theorem wn_yX7_washed : Cond.instanceMethod yX7_washed ∈ gW := gW_t6 17 rfl rfl
set_option maxRecDepth 100000 in
theorem wv_yX7_washed : Cond.selects RX7 yX7_washed yX7_washed ∈ gW := gW_t6 18 rfl rfl
theorem iv_yX7_washed : Cond.instanceMethod yX7_washed ∈ gW ∧ Cond.selects yX7_washed.cls yX7_washed yX7_washed ∈ gW := ⟨wn_yX7_washed, wv_yX7_washed⟩
set_option maxRecDepth 100000 in
theorem wm_RL_80 : Cond.methodLink RL 80 yX6_feed ∈ gW := gW_t2 197 rfl rfl
set_option maxRecDepth 100000 in
theorem wc_yX6_feed : Cond.code yX6_feed cX6_feed 4 (some .int) ∈ gW := gW_t2 200 rfl rfl
theorem cv_RL_80 : CV RL 80 yX6_feed cX6_feed 4 (some .int) 2 := ⟨wm_RL_80, wc_yX6_feed, wi_TwoWidths, ⟨by decide, by decide⟩, by decide +kernel⟩
set_option maxRecDepth 100000 in
theorem wn_yX6_feed : Cond.instanceMethod yX6_feed ∈ gW := gW_t2 198 rfl rfl
set_option maxRecDepth 100000 in
theorem wv_yX6_feed : Cond.selects RX6 yX6_feed yX6_feed ∈ gW := gW_t2 199 rfl rfl
theorem iv_yX6_feed : Cond.instanceMethod yX6_feed ∈ gW ∧ Cond.selects yX6_feed.cls yX6_feed yX6_feed ∈ gW := ⟨wn_yX6_feed, wv_yX6_feed⟩
set_option maxRecDepth 100000 in
theorem wm_RL_83 : Cond.methodLink RL 83 yX7_feed ∈ gW := gW_t6 20 rfl rfl
set_option maxRecDepth 100000 in
theorem wc_yX7_feed : Cond.code yX7_feed cX7_feed 4 (some .int) ∈ gW := gW_t6 23 rfl rfl
theorem cv_RL_83 : CV RL 83 yX7_feed cX7_feed 4 (some .int) 2 := ⟨wm_RL_83, wc_yX7_feed, wi_TwoWidthsModel, ⟨by decide, by decide⟩, by decide +kernel⟩
set_option maxRecDepth 100000 in
theorem wn_yX7_feed : Cond.instanceMethod yX7_feed ∈ gW := gW_t6 21 rfl rfl
set_option maxRecDepth 100000 in
theorem wv_yX7_feed : Cond.selects RX7 yX7_feed yX7_feed ∈ gW := gW_t6 22 rfl rfl
theorem iv_yX7_feed : Cond.instanceMethod yX7_feed ∈ gW ∧ Cond.selects yX7_feed.cls yX7_feed yX7_feed ∈ gW := ⟨wn_yX7_feed, wv_yX7_feed⟩
set_option maxRecDepth 100000 in
theorem wm_RL_84 : Cond.methodLink RL 84 yX6_wipe ∈ gW := gW_t2 205 rfl rfl
set_option maxRecDepth 100000 in
theorem wc_yX6_wipe : Cond.code yX6_wipe cX6_wipe 2 (some .int) ∈ gW := gW_t2 208 rfl rfl
theorem cv_RL_84 : CV RL 84 yX6_wipe cX6_wipe 2 (some .int) 0 := ⟨wm_RL_84, wc_yX6_wipe, wi_TwoWidths, ⟨by decide, by decide⟩, by decide +kernel⟩
set_option maxRecDepth 100000 in
theorem wn_yX6_wipe : Cond.instanceMethod yX6_wipe ∈ gW := gW_t2 206 rfl rfl
set_option maxRecDepth 100000 in
theorem wv_yX6_wipe : Cond.selects RX6 yX6_wipe yX6_wipe ∈ gW := gW_t2 207 rfl rfl
theorem iv_yX6_wipe : Cond.instanceMethod yX6_wipe ∈ gW ∧ Cond.selects yX6_wipe.cls yX6_wipe yX6_wipe ∈ gW := ⟨wn_yX6_wipe, wv_yX6_wipe⟩
set_option maxRecDepth 100000 in
theorem wm_RL_88 : Cond.methodLink RL 88 yX7_wipe ∈ gW := gW_t6 24 rfl rfl
set_option maxRecDepth 100000 in
theorem wc_yX7_wipe : Cond.code yX7_wipe cX7_wipe 2 (some .int) ∈ gW := gW_t6 27 rfl rfl
theorem cv_RL_88 : CV RL 88 yX7_wipe cX7_wipe 2 (some .int) 0 := ⟨wm_RL_88, wc_yX7_wipe, wi_TwoWidthsModel, ⟨by decide, by decide⟩, by decide +kernel⟩
set_option maxRecDepth 100000 in
theorem wn_yX7_wipe : Cond.instanceMethod yX7_wipe ∈ gW := gW_t6 25 rfl rfl
set_option maxRecDepth 100000 in
theorem wv_yX7_wipe : Cond.selects RX7 yX7_wipe yX7_wipe ∈ gW := gW_t6 26 rfl rfl
theorem iv_yX7_wipe : Cond.instanceMethod yX7_wipe ∈ gW ∧ Cond.selects yX7_wipe.cls yX7_wipe yX7_wipe ∈ gW := ⟨wn_yX7_wipe, wv_yX7_wipe⟩
set_option maxRecDepth 100000 in
theorem wm_RL_89 : Cond.methodLink RL 89 yX6_land ∈ gW := gW_t2 209 rfl rfl
set_option maxRecDepth 100000 in
theorem wc_yX6_land : Cond.code yX6_land cX6_land 3 (some .int) ∈ gW := gW_t2 212 rfl rfl
theorem cv_RL_89 : CV RL 89 yX6_land cX6_land 3 (some .int) 0 := ⟨wm_RL_89, wc_yX6_land, wi_TwoWidths, ⟨by decide, by decide⟩, by decide +kernel⟩
set_option maxRecDepth 100000 in
theorem wn_yX6_land : Cond.instanceMethod yX6_land ∈ gW := gW_t2 210 rfl rfl
set_option maxRecDepth 100000 in
theorem wv_yX6_land : Cond.selects RX6 yX6_land yX6_land ∈ gW := gW_t2 211 rfl rfl
theorem iv_yX6_land : Cond.instanceMethod yX6_land ∈ gW ∧ Cond.selects yX6_land.cls yX6_land yX6_land ∈ gW := ⟨wn_yX6_land, wv_yX6_land⟩
set_option maxRecDepth 100000 in
theorem wm_RL_92 : Cond.methodLink RL 92 yX7_land ∈ gW := gW_t6 28 rfl rfl
set_option maxRecDepth 100000 in
theorem wc_yX7_land : Cond.code yX7_land cX7_land 3 (some .int) ∈ gW := gW_t6 31 rfl rfl
theorem cv_RL_92 : CV RL 92 yX7_land cX7_land 3 (some .int) 0 := ⟨wm_RL_92, wc_yX7_land, wi_TwoWidthsModel, ⟨by decide, by decide⟩, by decide +kernel⟩
set_option maxRecDepth 100000 in
theorem wn_yX7_land : Cond.instanceMethod yX7_land ∈ gW := gW_t6 29 rfl rfl
set_option maxRecDepth 100000 in
theorem wv_yX7_land : Cond.selects RX7 yX7_land yX7_land ∈ gW := gW_t6 30 rfl rfl
theorem iv_yX7_land : Cond.instanceMethod yX7_land ∈ gW ∧ Cond.selects yX7_land.cls yX7_land yX7_land ∈ gW := ⟨wn_yX7_land, wv_yX7_land⟩
set_option maxRecDepth 100000 in
theorem wm_RL_93 : Cond.methodLink RL 93 yX6_lineOf ∈ gW := gW_t3 106 rfl rfl
set_option maxRecDepth 100000 in
theorem wc_yX6_lineOf : Cond.code yX6_lineOf cX6_lineOf 3 (some .int) ∈ gW := gW_t3 109 rfl rfl
theorem cv_RL_93 : CV RL 93 yX6_lineOf cX6_lineOf 3 (some .int) 2 := ⟨wm_RL_93, wc_yX6_lineOf, wi_TwoWidths, ⟨by decide, by decide⟩, by decide +kernel⟩
set_option maxRecDepth 100000 in
theorem wn_yX6_lineOf : Cond.instanceMethod yX6_lineOf ∈ gW := gW_t3 107 rfl rfl
set_option maxRecDepth 100000 in
theorem wv_yX6_lineOf : Cond.selects RX6 yX6_lineOf yX6_lineOf ∈ gW := gW_t3 108 rfl rfl
theorem iv_yX6_lineOf : Cond.instanceMethod yX6_lineOf ∈ gW ∧ Cond.selects yX6_lineOf.cls yX6_lineOf yX6_lineOf ∈ gW := ⟨wn_yX6_lineOf, wv_yX6_lineOf⟩
set_option maxRecDepth 100000 in
theorem wm_RL_96 : Cond.methodLink RL 96 yX7_lineOf ∈ gW := gW_t6 109 rfl rfl
set_option maxRecDepth 100000 in
theorem wc_yX7_lineOf : Cond.code yX7_lineOf cX7_lineOf 3 (some .int) ∈ gW := gW_t6 112 rfl rfl
theorem cv_RL_96 : CV RL 96 yX7_lineOf cX7_lineOf 3 (some .int) 2 := ⟨wm_RL_96, wc_yX7_lineOf, wi_TwoWidthsModel, ⟨by decide, by decide⟩, by decide +kernel⟩
set_option maxRecDepth 100000 in
theorem wn_yX7_lineOf : Cond.instanceMethod yX7_lineOf ∈ gW := gW_t6 110 rfl rfl
set_option maxRecDepth 100000 in
theorem wv_yX7_lineOf : Cond.selects RX7 yX7_lineOf yX7_lineOf ∈ gW := gW_t6 111 rfl rfl
theorem iv_yX7_lineOf : Cond.instanceMethod yX7_lineOf ∈ gW ∧ Cond.selects yX7_lineOf.cls yX7_lineOf yX7_lineOf ∈ gW := ⟨wn_yX7_lineOf, wv_yX7_lineOf⟩
set_option maxRecDepth 100000 in
theorem wm_RL_97 : Cond.methodLink RL 97 yX6_goodsOf ∈ gW := gW_t3 110 rfl rfl
set_option maxRecDepth 100000 in
theorem wc_yX6_goodsOf : Cond.code yX6_goodsOf cX6_goodsOf 3 (some .int) ∈ gW := gW_t3 113 rfl rfl
theorem cv_RL_97 : CV RL 97 yX6_goodsOf cX6_goodsOf 3 (some .int) 2 := ⟨wm_RL_97, wc_yX6_goodsOf, wi_TwoWidths, ⟨by decide, by decide⟩, by decide +kernel⟩
set_option maxRecDepth 100000 in
theorem wn_yX6_goodsOf : Cond.instanceMethod yX6_goodsOf ∈ gW := gW_t3 111 rfl rfl
set_option maxRecDepth 100000 in
theorem wv_yX6_goodsOf : Cond.selects RX6 yX6_goodsOf yX6_goodsOf ∈ gW := gW_t3 112 rfl rfl
theorem iv_yX6_goodsOf : Cond.instanceMethod yX6_goodsOf ∈ gW ∧ Cond.selects yX6_goodsOf.cls yX6_goodsOf yX6_goodsOf ∈ gW := ⟨wn_yX6_goodsOf, wv_yX6_goodsOf⟩
set_option maxRecDepth 100000 in
theorem wm_RL_100 : Cond.methodLink RL 100 yX7_goodsOf ∈ gW := gW_t6 114 rfl rfl
set_option maxRecDepth 100000 in
theorem wc_yX7_goodsOf : Cond.code yX7_goodsOf cX7_goodsOf 3 (some .int) ∈ gW := gW_t6 117 rfl rfl
theorem cv_RL_100 : CV RL 100 yX7_goodsOf cX7_goodsOf 3 (some .int) 2 := ⟨wm_RL_100, wc_yX7_goodsOf, wi_TwoWidthsModel, ⟨by decide, by decide⟩, by decide +kernel⟩
set_option maxRecDepth 100000 in
theorem wn_yX7_goodsOf : Cond.instanceMethod yX7_goodsOf ∈ gW := gW_t6 115 rfl rfl
set_option maxRecDepth 100000 in
theorem wv_yX7_goodsOf : Cond.selects RX7 yX7_goodsOf yX7_goodsOf ∈ gW := gW_t6 116 rfl rfl
theorem iv_yX7_goodsOf : Cond.instanceMethod yX7_goodsOf ∈ gW ∧ Cond.selects yX7_goodsOf.cls yX7_goodsOf yX7_goodsOf ∈ gW := ⟨wn_yX7_goodsOf, wv_yX7_goodsOf⟩
set_option maxRecDepth 100000 in
theorem wm_RL_101 : Cond.methodLink RL 101 yX6_workOf ∈ gW := gW_t3 122 rfl rfl
set_option maxRecDepth 100000 in
theorem wc_yX6_workOf : Cond.code yX6_workOf cX6_workOf 3 (some .int) ∈ gW := gW_t3 125 rfl rfl
theorem cv_RL_101 : CV RL 101 yX6_workOf cX6_workOf 3 (some .int) 2 := ⟨wm_RL_101, wc_yX6_workOf, wi_TwoWidths, ⟨by decide, by decide⟩, by decide +kernel⟩
set_option maxRecDepth 100000 in
theorem wn_yX6_workOf : Cond.instanceMethod yX6_workOf ∈ gW := gW_t3 123 rfl rfl
set_option maxRecDepth 100000 in
theorem wv_yX6_workOf : Cond.selects RX6 yX6_workOf yX6_workOf ∈ gW := gW_t3 124 rfl rfl
theorem iv_yX6_workOf : Cond.instanceMethod yX6_workOf ∈ gW ∧ Cond.selects yX6_workOf.cls yX6_workOf yX6_workOf ∈ gW := ⟨wn_yX6_workOf, wv_yX6_workOf⟩
set_option maxRecDepth 100000 in
theorem wm_RL_104 : Cond.methodLink RL 104 yX7_workOf ∈ gW := gW_t6 118 rfl rfl
set_option maxRecDepth 100000 in
theorem wc_yX7_workOf : Cond.code yX7_workOf cX7_workOf 3 (some .int) ∈ gW := gW_t6 121 rfl rfl
theorem cv_RL_104 : CV RL 104 yX7_workOf cX7_workOf 3 (some .int) 2 := ⟨wm_RL_104, wc_yX7_workOf, wi_TwoWidthsModel, ⟨by decide, by decide⟩, by decide +kernel⟩
set_option maxRecDepth 100000 in
theorem wn_yX7_workOf : Cond.instanceMethod yX7_workOf ∈ gW := gW_t6 119 rfl rfl
set_option maxRecDepth 100000 in
theorem wv_yX7_workOf : Cond.selects RX7 yX7_workOf yX7_workOf ∈ gW := gW_t6 120 rfl rfl
theorem iv_yX7_workOf : Cond.instanceMethod yX7_workOf ∈ gW ∧ Cond.selects yX7_workOf.cls yX7_workOf yX7_workOf ∈ gW := ⟨wn_yX7_workOf, wv_yX7_workOf⟩
set_option maxRecDepth 100000 in
theorem wm_RL_105 : Cond.methodLink RL 105 yX6_cheapest ∈ gW := gW_t3 126 rfl rfl
set_option maxRecDepth 100000 in
theorem wc_yX6_cheapest : Cond.code yX6_cheapest cX6_cheapest 4 (some .int) ∈ gW := gW_t3 129 rfl rfl
theorem cv_RL_105 : CV RL 105 yX6_cheapest cX6_cheapest 4 (some .int) 2 := ⟨wm_RL_105, wc_yX6_cheapest, wi_TwoWidths, ⟨by decide, by decide⟩, by decide +kernel⟩
set_option maxRecDepth 100000 in
theorem wn_yX6_cheapest : Cond.instanceMethod yX6_cheapest ∈ gW := gW_t3 127 rfl rfl
set_option maxRecDepth 100000 in
theorem wv_yX6_cheapest : Cond.selects RX6 yX6_cheapest yX6_cheapest ∈ gW := gW_t3 128 rfl rfl
theorem iv_yX6_cheapest : Cond.instanceMethod yX6_cheapest ∈ gW ∧ Cond.selects yX6_cheapest.cls yX6_cheapest yX6_cheapest ∈ gW := ⟨wn_yX6_cheapest, wv_yX6_cheapest⟩
set_option maxRecDepth 100000 in
theorem wm_RL_108 : Cond.methodLink RL 108 yX7_cheapest ∈ gW := gW_t6 122 rfl rfl
set_option maxRecDepth 100000 in
theorem wc_yX7_cheapest : Cond.code yX7_cheapest cX7_cheapest 3 (some .int) ∈ gW := gW_t6 125 rfl rfl
theorem cv_RL_108 : CV RL 108 yX7_cheapest cX7_cheapest 3 (some .int) 2 := ⟨wm_RL_108, wc_yX7_cheapest, wi_TwoWidthsModel, ⟨by decide, by decide⟩, by decide +kernel⟩
set_option maxRecDepth 100000 in
theorem wn_yX7_cheapest : Cond.instanceMethod yX7_cheapest ∈ gW := gW_t6 123 rfl rfl
set_option maxRecDepth 100000 in
theorem wv_yX7_cheapest : Cond.selects RX7 yX7_cheapest yX7_cheapest ∈ gW := gW_t6 124 rfl rfl
theorem iv_yX7_cheapest : Cond.instanceMethod yX7_cheapest ∈ gW ∧ Cond.selects yX7_cheapest.cls yX7_cheapest yX7_cheapest ∈ gW := ⟨wn_yX7_cheapest, wv_yX7_cheapest⟩
set_option maxRecDepth 100000 in
theorem wm_RL_109 : Cond.methodLink RL 109 yX6_way ∈ gW := gW_t3 163 rfl rfl
set_option maxRecDepth 100000 in
theorem wc_yX6_way : Cond.code yX6_way cX6_way 6 (some .int) ∈ gW := gW_t3 166 rfl rfl
theorem cv_RL_109 : CV RL 109 yX6_way cX6_way 6 (some .int) 2 := ⟨wm_RL_109, wc_yX6_way, wi_TwoWidths, ⟨by decide, by decide⟩, by decide +kernel⟩
set_option maxRecDepth 100000 in
theorem wn_yX6_way : Cond.instanceMethod yX6_way ∈ gW := gW_t3 164 rfl rfl
set_option maxRecDepth 100000 in
theorem wv_yX6_way : Cond.selects RX6 yX6_way yX6_way ∈ gW := gW_t3 165 rfl rfl
theorem iv_yX6_way : Cond.instanceMethod yX6_way ∈ gW ∧ Cond.selects yX6_way.cls yX6_way yX6_way ∈ gW := ⟨wn_yX6_way, wv_yX6_way⟩
set_option maxRecDepth 100000 in
theorem wm_RL_112 : Cond.methodLink RL 112 yX7_way ∈ gW := gW_t6 143 rfl rfl
set_option maxRecDepth 100000 in
theorem wc_yX7_way : Cond.code yX7_way cX7_way 8 (some .int) ∈ gW := gW_t6 146 rfl rfl
theorem cv_RL_112 : CV RL 112 yX7_way cX7_way 8 (some .int) 2 := ⟨wm_RL_112, wc_yX7_way, wi_TwoWidthsModel, ⟨by decide, by decide⟩, by decide +kernel⟩
set_option maxRecDepth 100000 in
theorem wn_yX7_way : Cond.instanceMethod yX7_way ∈ gW := gW_t6 144 rfl rfl
set_option maxRecDepth 100000 in
theorem wv_yX7_way : Cond.selects RX7 yX7_way yX7_way ∈ gW := gW_t6 145 rfl rfl
theorem iv_yX7_way : Cond.instanceMethod yX7_way ∈ gW ∧ Cond.selects yX7_way.cls yX7_way yX7_way ∈ gW := ⟨wn_yX7_way, wv_yX7_way⟩
set_option maxRecDepth 100000 in
theorem wm_RL_113 : Cond.methodLink RL 113 yX6_free ∈ gW := gW_t3 228 rfl rfl
set_option maxRecDepth 100000 in
theorem wc_yX6_free : Cond.code yX6_free cX6_free 1 (some .int) ∈ gW := gW_t3 231 rfl rfl
theorem cv_RL_113 : CV RL 113 yX6_free cX6_free 1 (some .int) 0 := ⟨wm_RL_113, wc_yX6_free, wi_TwoWidths, ⟨by decide, by decide⟩, by decide +kernel⟩
set_option maxRecDepth 100000 in
theorem wn_yX6_free : Cond.instanceMethod yX6_free ∈ gW := gW_t3 229 rfl rfl
set_option maxRecDepth 100000 in
theorem wv_yX6_free : Cond.selects RX6 yX6_free yX6_free ∈ gW := gW_t3 230 rfl rfl
theorem iv_yX6_free : Cond.instanceMethod yX6_free ∈ gW ∧ Cond.selects yX6_free.cls yX6_free yX6_free ∈ gW := ⟨wn_yX6_free, wv_yX6_free⟩
set_option maxRecDepth 100000 in
theorem wm_RL_116 : Cond.methodLink RL 116 yX7_free ∈ gW := gW_t6 163 rfl rfl
theorem cv_RL_116 : CV RL 116 yX7_free cX7_free 4 (some .int) 0 := ⟨wm_RL_116, wc_yX7_free, wi_TwoWidthsModel, ⟨by decide, by decide⟩, by decide +kernel⟩
set_option maxRecDepth 100000 in
theorem wm_RL_117 : Cond.methodLink RL 117 yX6_turn ∈ gW := gW_t4 32 rfl rfl
set_option maxRecDepth 100000 in
theorem wc_yX6_turn : Cond.code yX6_turn cX6_turn 3 (some .int) ∈ gW := gW_t4 35 rfl rfl
theorem cv_RL_117 : CV RL 117 yX6_turn cX6_turn 3 (some .int) 1 := ⟨wm_RL_117, wc_yX6_turn, wi_TwoWidths, ⟨by decide, by decide⟩, by decide +kernel⟩
set_option maxRecDepth 100000 in
theorem wn_yX6_turn : Cond.instanceMethod yX6_turn ∈ gW := gW_t4 33 rfl rfl
set_option maxRecDepth 100000 in
theorem wv_yX6_turn : Cond.selects RX6 yX6_turn yX6_turn ∈ gW := gW_t4 34 rfl rfl
theorem iv_yX6_turn : Cond.instanceMethod yX6_turn ∈ gW ∧ Cond.selects yX6_turn.cls yX6_turn yX6_turn ∈ gW := ⟨wn_yX6_turn, wv_yX6_turn⟩
set_option maxRecDepth 100000 in
theorem wm_RL_120 : Cond.methodLink RL 120 yX7_turn ∈ gW := gW_t6 167 rfl rfl
set_option maxRecDepth 100000 in
theorem wc_yX7_turn : Cond.code yX7_turn cX7_turn 7 (some .int) ∈ gW := gW_t6 170 rfl rfl
theorem cv_RL_120 : CV RL 120 yX7_turn cX7_turn 7 (some .int) 1 := ⟨wm_RL_120, wc_yX7_turn, wi_TwoWidthsModel, ⟨by decide, by decide⟩, by decide +kernel⟩
set_option maxRecDepth 100000 in
theorem wn_yX7_turn : Cond.instanceMethod yX7_turn ∈ gW := gW_t6 168 rfl rfl
set_option maxRecDepth 100000 in
theorem wv_yX7_turn : Cond.selects RX7 yX7_turn yX7_turn ∈ gW := gW_t6 169 rfl rfl
theorem iv_yX7_turn : Cond.instanceMethod yX7_turn ∈ gW ∧ Cond.selects yX7_turn.cls yX7_turn yX7_turn ∈ gW := ⟨wn_yX7_turn, wv_yX7_turn⟩
set_option maxRecDepth 100000 in
theorem wm_RL_121 : Cond.methodLink RL 121 yX6_total ∈ gW := gW_t4 52 rfl rfl
set_option maxRecDepth 100000 in
theorem wc_yX6_total : Cond.code yX6_total cX6_total 2 (some .int) ∈ gW := gW_t4 55 rfl rfl
theorem cv_RL_121 : CV RL 121 yX6_total cX6_total 2 (some .int) 1 := ⟨wm_RL_121, wc_yX6_total, wi_TwoWidths, ⟨by decide, by decide⟩, by decide +kernel⟩
set_option maxRecDepth 100000 in
theorem wn_yX6_total : Cond.instanceMethod yX6_total ∈ gW := gW_t4 53 rfl rfl
set_option maxRecDepth 100000 in
theorem wv_yX6_total : Cond.selects RX6 yX6_total yX6_total ∈ gW := gW_t4 54 rfl rfl
theorem iv_yX6_total : Cond.instanceMethod yX6_total ∈ gW ∧ Cond.selects yX6_total.cls yX6_total yX6_total ∈ gW := ⟨wn_yX6_total, wv_yX6_total⟩
set_option maxRecDepth 100000 in
theorem wm_RL_124 : Cond.methodLink RL 124 yX7_total ∈ gW := gW_t6 188 rfl rfl
set_option maxRecDepth 100000 in
theorem wc_yX7_total : Cond.code yX7_total cX7_total 2 (some .int) ∈ gW := gW_t6 191 rfl rfl
theorem cv_RL_124 : CV RL 124 yX7_total cX7_total 2 (some .int) 1 := ⟨wm_RL_124, wc_yX7_total, wi_TwoWidthsModel, ⟨by decide, by decide⟩, by decide +kernel⟩
set_option maxRecDepth 100000 in
theorem wn_yX7_total : Cond.instanceMethod yX7_total ∈ gW := gW_t6 189 rfl rfl
set_option maxRecDepth 100000 in
theorem wv_yX7_total : Cond.selects RX7 yX7_total yX7_total ∈ gW := gW_t6 190 rfl rfl
theorem iv_yX7_total : Cond.instanceMethod yX7_total ∈ gW ∧ Cond.selects yX7_total.cls yX7_total yX7_total ∈ gW := ⟨wn_yX7_total, wv_yX7_total⟩
set_option maxRecDepth 100000 in
theorem wm_RL_125 : Cond.methodLink RL 125 yX6_best ∈ gW := gW_t4 63 rfl rfl
set_option maxRecDepth 100000 in
theorem wc_yX6_best : Cond.code yX6_best cX6_best 1 (some .int) ∈ gW := gW_t4 66 rfl rfl
theorem cv_RL_125 : CV RL 125 yX6_best cX6_best 1 (some .int) 0 := ⟨wm_RL_125, wc_yX6_best, wi_TwoWidths, ⟨by decide, by decide⟩, by decide +kernel⟩
set_option maxRecDepth 100000 in
theorem wn_yX6_best : Cond.instanceMethod yX6_best ∈ gW := gW_t4 64 rfl rfl
set_option maxRecDepth 100000 in
theorem wv_yX6_best : Cond.selects RX6 yX6_best yX6_best ∈ gW := gW_t4 65 rfl rfl
theorem iv_yX6_best : Cond.instanceMethod yX6_best ∈ gW ∧ Cond.selects yX6_best.cls yX6_best yX6_best ∈ gW := ⟨wn_yX6_best, wv_yX6_best⟩
set_option maxRecDepth 100000 in
theorem wm_RL_128 : Cond.methodLink RL 128 yX7_best ∈ gW := gW_t6 200 rfl rfl
theorem cv_RL_128 : CV RL 128 yX7_best cX7_best 5 (some .int) 0 := ⟨wm_RL_128, wc_yX7_best, wi_TwoWidthsModel, ⟨by decide, by decide⟩, by decide +kernel⟩
set_option maxRecDepth 100000 in
theorem wm_RL_129 : Cond.methodLink RL 129 yX6_worth ∈ gW := gW_t4 72 rfl rfl
set_option maxRecDepth 100000 in
theorem wc_yX6_worth : Cond.code yX6_worth cX6_worth 3 (some .int) ∈ gW := gW_t4 75 rfl rfl
theorem cv_RL_129 : CV RL 129 yX6_worth cX6_worth 3 (some .int) 1 := ⟨wm_RL_129, wc_yX6_worth, wi_TwoWidths, ⟨by decide, by decide⟩, by decide +kernel⟩
set_option maxRecDepth 100000 in
theorem wn_yX6_worth : Cond.instanceMethod yX6_worth ∈ gW := gW_t4 73 rfl rfl
set_option maxRecDepth 100000 in
theorem wv_yX6_worth : Cond.selects RX6 yX6_worth yX6_worth ∈ gW := gW_t4 74 rfl rfl
theorem iv_yX6_worth : Cond.instanceMethod yX6_worth ∈ gW ∧ Cond.selects yX6_worth.cls yX6_worth yX6_worth ∈ gW := ⟨wn_yX6_worth, wv_yX6_worth⟩
set_option maxRecDepth 100000 in
theorem wm_RL_132 : Cond.methodLink RL 132 yX7_worth ∈ gW := gW_t6 204 rfl rfl
set_option maxRecDepth 100000 in
theorem wc_yX7_worth : Cond.code yX7_worth cX7_worth 2 (some .int) ∈ gW := gW_t6 207 rfl rfl
theorem cv_RL_132 : CV RL 132 yX7_worth cX7_worth 2 (some .int) 1 := ⟨wm_RL_132, wc_yX7_worth, wi_TwoWidthsModel, ⟨by decide, by decide⟩, by decide +kernel⟩
set_option maxRecDepth 100000 in
theorem wn_yX7_worth : Cond.instanceMethod yX7_worth ∈ gW := gW_t6 205 rfl rfl
set_option maxRecDepth 100000 in
theorem wv_yX7_worth : Cond.selects RX7 yX7_worth yX7_worth ∈ gW := gW_t6 206 rfl rfl
theorem iv_yX7_worth : Cond.instanceMethod yX7_worth ∈ gW ∧ Cond.selects yX7_worth.cls yX7_worth yX7_worth ∈ gW := ⟨wn_yX7_worth, wv_yX7_worth⟩
set_option maxRecDepth 100000 in
theorem wm_RL_133 : Cond.methodLink RL 133 yX6_first ∈ gW := gW_t4 86 rfl rfl
set_option maxRecDepth 100000 in
theorem wc_yX6_first : Cond.code yX6_first cX6_first 1 (some .int) ∈ gW := gW_t4 89 rfl rfl
theorem cv_RL_133 : CV RL 133 yX6_first cX6_first 1 (some .int) 0 := ⟨wm_RL_133, wc_yX6_first, wi_TwoWidths, ⟨by decide, by decide⟩, by decide +kernel⟩
set_option maxRecDepth 100000 in
theorem wn_yX6_first : Cond.instanceMethod yX6_first ∈ gW := gW_t4 87 rfl rfl
set_option maxRecDepth 100000 in
theorem wv_yX6_first : Cond.selects RX6 yX6_first yX6_first ∈ gW := gW_t4 88 rfl rfl
theorem iv_yX6_first : Cond.instanceMethod yX6_first ∈ gW ∧ Cond.selects yX6_first.cls yX6_first yX6_first ∈ gW := ⟨wn_yX6_first, wv_yX6_first⟩
set_option maxRecDepth 100000 in
theorem wm_RL_136 : Cond.methodLink RL 136 yX7_first ∈ gW := gW_t6 217 rfl rfl
theorem cv_RL_136 : CV RL 136 yX7_first cX7_first 5 (some .int) 0 := ⟨wm_RL_136, wc_yX7_first, wi_TwoWidthsModel, ⟨by decide, by decide⟩, by decide +kernel⟩
set_option maxRecDepth 100000 in
theorem wm_RL_137 : Cond.methodLink RL 137 yX6_greedy ∈ gW := gW_t4 95 rfl rfl
set_option maxRecDepth 100000 in
theorem wc_yX6_greedy : Cond.code yX6_greedy cX6_greedy 1 (some .int) ∈ gW := gW_t4 98 rfl rfl
theorem cv_RL_137 : CV RL 137 yX6_greedy cX6_greedy 1 (some .int) 0 := ⟨wm_RL_137, wc_yX6_greedy, wi_TwoWidths, ⟨by decide, by decide⟩, by decide +kernel⟩
set_option maxRecDepth 100000 in
theorem wn_yX6_greedy : Cond.instanceMethod yX6_greedy ∈ gW := gW_t4 96 rfl rfl
set_option maxRecDepth 100000 in
theorem wv_yX6_greedy : Cond.selects RX6 yX6_greedy yX6_greedy ∈ gW := gW_t4 97 rfl rfl
theorem iv_yX6_greedy : Cond.instanceMethod yX6_greedy ∈ gW ∧ Cond.selects yX6_greedy.cls yX6_greedy yX6_greedy ∈ gW := ⟨wn_yX6_greedy, wv_yX6_greedy⟩
set_option maxRecDepth 100000 in
theorem wm_RL_140 : Cond.methodLink RL 140 yX7_greedy ∈ gW := gW_t6 221 rfl rfl
theorem cv_RL_140 : CV RL 140 yX7_greedy cX7_greedy 4 (some .int) 0 := ⟨wm_RL_140, wc_yX7_greedy, wi_TwoWidthsModel, ⟨by decide, by decide⟩, by decide +kernel⟩
set_option maxRecDepth 100000 in
theorem wm_RL_141 : Cond.methodLink RL 141 yX6_gap ∈ gW := gW_t4 109 rfl rfl
set_option maxRecDepth 100000 in
theorem wc_yX6_gap : Cond.code yX6_gap cX6_gap 1 (some .int) ∈ gW := gW_t4 112 rfl rfl
theorem cv_RL_141 : CV RL 141 yX6_gap cX6_gap 1 (some .int) 0 := ⟨wm_RL_141, wc_yX6_gap, wi_TwoWidths, ⟨by decide, by decide⟩, by decide +kernel⟩
set_option maxRecDepth 100000 in
theorem wn_yX6_gap : Cond.instanceMethod yX6_gap ∈ gW := gW_t4 110 rfl rfl
set_option maxRecDepth 100000 in
theorem wv_yX6_gap : Cond.selects RX6 yX6_gap yX6_gap ∈ gW := gW_t4 111 rfl rfl
theorem iv_yX6_gap : Cond.instanceMethod yX6_gap ∈ gW ∧ Cond.selects yX6_gap.cls yX6_gap yX6_gap ∈ gW := ⟨wn_yX6_gap, wv_yX6_gap⟩
set_option maxRecDepth 100000 in
theorem wm_RL_144 : Cond.methodLink RL 144 yX7_gap ∈ gW := gW_t6 226 rfl rfl
set_option maxRecDepth 100000 in
theorem wc_yX7_gap : Cond.code yX7_gap cX7_gap 1 (some .int) ∈ gW := gW_t6 229 rfl rfl
theorem cv_RL_144 : CV RL 144 yX7_gap cX7_gap 1 (some .int) 0 := ⟨wm_RL_144, wc_yX7_gap, wi_TwoWidthsModel, ⟨by decide, by decide⟩, by decide +kernel⟩
set_option maxRecDepth 100000 in
theorem wn_yX7_gap : Cond.instanceMethod yX7_gap ∈ gW := gW_t6 227 rfl rfl
set_option maxRecDepth 100000 in
theorem wv_yX7_gap : Cond.selects RX7 yX7_gap yX7_gap ∈ gW := gW_t6 228 rfl rfl
theorem iv_yX7_gap : Cond.instanceMethod yX7_gap ∈ gW ∧ Cond.selects yX7_gap.cls yX7_gap yX7_gap ∈ gW := ⟨wn_yX7_gap, wv_yX7_gap⟩
set_option maxRecDepth 100000 in
theorem wm_RL_145 : Cond.methodLink RL 145 yX6_edge ∈ gW := gW_t4 113 rfl rfl
set_option maxRecDepth 100000 in
theorem wc_yX6_edge : Cond.code yX6_edge cX6_edge 4 (some .int) ∈ gW := gW_t4 116 rfl rfl
theorem cv_RL_145 : CV RL 145 yX6_edge cX6_edge 4 (some .int) 1 := ⟨wm_RL_145, wc_yX6_edge, wi_TwoWidths, ⟨by decide, by decide⟩, by decide +kernel⟩
set_option maxRecDepth 100000 in
theorem wn_yX6_edge : Cond.instanceMethod yX6_edge ∈ gW := gW_t4 114 rfl rfl
set_option maxRecDepth 100000 in
theorem wv_yX6_edge : Cond.selects RX6 yX6_edge yX6_edge ∈ gW := gW_t4 115 rfl rfl
theorem iv_yX6_edge : Cond.instanceMethod yX6_edge ∈ gW ∧ Cond.selects yX6_edge.cls yX6_edge yX6_edge ∈ gW := ⟨wn_yX6_edge, wv_yX6_edge⟩
set_option maxRecDepth 100000 in
theorem wm_RL_148 : Cond.methodLink RL 148 yX7_edge ∈ gW := gW_t6 232 rfl rfl
set_option maxRecDepth 100000 in
theorem wc_yX7_edge : Cond.code yX7_edge cX7_edge 4 (some .int) ∈ gW := gW_t6 235 rfl rfl
theorem cv_RL_148 : CV RL 148 yX7_edge cX7_edge 4 (some .int) 1 := ⟨wm_RL_148, wc_yX7_edge, wi_TwoWidthsModel, ⟨by decide, by decide⟩, by decide +kernel⟩
set_option maxRecDepth 100000 in
theorem wn_yX7_edge : Cond.instanceMethod yX7_edge ∈ gW := gW_t6 233 rfl rfl
set_option maxRecDepth 100000 in
theorem wv_yX7_edge : Cond.selects RX7 yX7_edge yX7_edge ∈ gW := gW_t6 234 rfl rfl
theorem iv_yX7_edge : Cond.instanceMethod yX7_edge ∈ gW ∧ Cond.selects yX7_edge.cls yX7_edge yX7_edge ∈ gW := ⟨wn_yX7_edge, wv_yX7_edge⟩
set_option maxRecDepth 100000 in
theorem wm_RL_149 : Cond.methodLink RL 149 yX6_never ∈ gW := gW_t4 117 rfl rfl
set_option maxRecDepth 100000 in
theorem wc_yX6_never : Cond.code yX6_never cX6_never 1 (some .int) ∈ gW := gW_t4 120 rfl rfl
theorem cv_RL_149 : CV RL 149 yX6_never cX6_never 1 (some .int) 0 := ⟨wm_RL_149, wc_yX6_never, wi_TwoWidths, ⟨by decide, by decide⟩, by decide +kernel⟩
set_option maxRecDepth 100000 in
theorem wn_yX6_never : Cond.instanceMethod yX6_never ∈ gW := gW_t4 118 rfl rfl
set_option maxRecDepth 100000 in
theorem wv_yX6_never : Cond.selects RX6 yX6_never yX6_never ∈ gW := gW_t4 119 rfl rfl
theorem iv_yX6_never : Cond.instanceMethod yX6_never ∈ gW ∧ Cond.selects yX6_never.cls yX6_never yX6_never ∈ gW := ⟨wn_yX6_never, wv_yX6_never⟩
set_option maxRecDepth 100000 in
theorem wm_RL_152 : Cond.methodLink RL 152 yX7_never ∈ gW := gW_t6 236 rfl rfl
set_option maxRecDepth 100000 in
theorem wc_yX7_never : Cond.code yX7_never cX7_never 7 (some .int) ∈ gW := gW_t6 239 rfl rfl
theorem cv_RL_152 : CV RL 152 yX7_never cX7_never 7 (some .int) 0 := ⟨wm_RL_152, wc_yX7_never, wi_TwoWidthsModel, ⟨by decide, by decide⟩, by decide +kernel⟩
set_option maxRecDepth 100000 in
theorem wn_yX7_never : Cond.instanceMethod yX7_never ∈ gW := gW_t6 237 rfl rfl
set_option maxRecDepth 100000 in
theorem wv_yX7_never : Cond.selects RX7 yX7_never yX7_never ∈ gW := gW_t6 238 rfl rfl
theorem iv_yX7_never : Cond.instanceMethod yX7_never ∈ gW ∧ Cond.selects yX7_never.cls yX7_never yX7_never ∈ gW := ⟨wn_yX7_never, wv_yX7_never⟩
set_option maxRecDepth 100000 in
theorem wm_RL_153 : Cond.methodLink RL 153 yX6_one ∈ gW := gW_t4 129 rfl rfl
set_option maxRecDepth 100000 in
theorem wc_yX6_one : Cond.code yX6_one cX6_one 3 (some .int) ∈ gW := gW_t4 132 rfl rfl
theorem cv_RL_153 : CV RL 153 yX6_one cX6_one 3 (some .int) 2 := ⟨wm_RL_153, wc_yX6_one, wi_TwoWidths, ⟨by decide, by decide⟩, by decide +kernel⟩
set_option maxRecDepth 100000 in
theorem wn_yX6_one : Cond.instanceMethod yX6_one ∈ gW := gW_t4 130 rfl rfl
set_option maxRecDepth 100000 in
theorem wv_yX6_one : Cond.selects RX6 yX6_one yX6_one ∈ gW := gW_t4 131 rfl rfl
theorem iv_yX6_one : Cond.instanceMethod yX6_one ∈ gW ∧ Cond.selects yX6_one.cls yX6_one yX6_one ∈ gW := ⟨wn_yX6_one, wv_yX6_one⟩
set_option maxRecDepth 100000 in
theorem wm_RL_156 : Cond.methodLink RL 156 yX7_one ∈ gW := gW_t7 0 rfl rfl
set_option maxRecDepth 100000 in
theorem wc_yX7_one : Cond.code yX7_one cX7_one 3 (some .int) ∈ gW := gW_t7 3 rfl rfl
theorem cv_RL_156 : CV RL 156 yX7_one cX7_one 3 (some .int) 2 := ⟨wm_RL_156, wc_yX7_one, wi_TwoWidthsModel, ⟨by decide, by decide⟩, by decide +kernel⟩
set_option maxRecDepth 100000 in
theorem wn_yX7_one : Cond.instanceMethod yX7_one ∈ gW := gW_t7 1 rfl rfl
set_option maxRecDepth 100000 in
theorem wv_yX7_one : Cond.selects RX7 yX7_one yX7_one ∈ gW := gW_t7 2 rfl rfl
theorem iv_yX7_one : Cond.instanceMethod yX7_one ∈ gW ∧ Cond.selects yX7_one.cls yX7_one yX7_one ∈ gW := ⟨wn_yX7_one, wv_yX7_one⟩
set_option maxRecDepth 100000 in
theorem wm_RL_157 : Cond.methodLink RL 157 yX6_which ∈ gW := gW_t4 139 rfl rfl
set_option maxRecDepth 100000 in
theorem wc_yX6_which : Cond.code yX6_which cX6_which 6 (some .int) ∈ gW := gW_t4 142 rfl rfl
theorem cv_RL_157 : CV RL 157 yX6_which cX6_which 6 (some .int) 1 := ⟨wm_RL_157, wc_yX6_which, wi_TwoWidths, ⟨by decide, by decide⟩, by decide +kernel⟩
set_option maxRecDepth 100000 in
theorem wn_yX6_which : Cond.instanceMethod yX6_which ∈ gW := gW_t4 140 rfl rfl
set_option maxRecDepth 100000 in
theorem wv_yX6_which : Cond.selects RX6 yX6_which yX6_which ∈ gW := gW_t4 141 rfl rfl
theorem iv_yX6_which : Cond.instanceMethod yX6_which ∈ gW ∧ Cond.selects yX6_which.cls yX6_which yX6_which ∈ gW := ⟨wn_yX6_which, wv_yX6_which⟩
set_option maxRecDepth 100000 in
theorem wm_RL_160 : Cond.methodLink RL 160 yX7_which ∈ gW := gW_t7 8 rfl rfl
set_option maxRecDepth 100000 in
theorem wc_yX7_which : Cond.code yX7_which cX7_which 4 (some .int) ∈ gW := gW_t7 11 rfl rfl
theorem cv_RL_160 : CV RL 160 yX7_which cX7_which 4 (some .int) 1 := ⟨wm_RL_160, wc_yX7_which, wi_TwoWidthsModel, ⟨by decide, by decide⟩, by decide +kernel⟩
set_option maxRecDepth 100000 in
theorem wn_yX7_which : Cond.instanceMethod yX7_which ∈ gW := gW_t7 9 rfl rfl
set_option maxRecDepth 100000 in
theorem wv_yX7_which : Cond.selects RX7 yX7_which yX7_which ∈ gW := gW_t7 10 rfl rfl
theorem iv_yX7_which : Cond.instanceMethod yX7_which ∈ gW ∧ Cond.selects yX7_which.cls yX7_which yX7_which ∈ gW := ⟨wn_yX7_which, wv_yX7_which⟩
set_option maxRecDepth 100000 in
theorem wm_RL_161 : Cond.methodLink RL 161 yX6_earns ∈ gW := gW_t4 143 rfl rfl
set_option maxRecDepth 100000 in
theorem wc_yX6_earns : Cond.code yX6_earns cX6_earns 2 (some .int) ∈ gW := gW_t4 146 rfl rfl
theorem cv_RL_161 : CV RL 161 yX6_earns cX6_earns 2 (some .int) 1 := ⟨wm_RL_161, wc_yX6_earns, wi_TwoWidths, ⟨by decide, by decide⟩, by decide +kernel⟩
set_option maxRecDepth 100000 in
theorem wn_yX6_earns : Cond.instanceMethod yX6_earns ∈ gW := gW_t4 144 rfl rfl
set_option maxRecDepth 100000 in
theorem wv_yX6_earns : Cond.selects RX6 yX6_earns yX6_earns ∈ gW := gW_t4 145 rfl rfl
theorem iv_yX6_earns : Cond.instanceMethod yX6_earns ∈ gW ∧ Cond.selects yX6_earns.cls yX6_earns yX6_earns ∈ gW := ⟨wn_yX6_earns, wv_yX6_earns⟩
set_option maxRecDepth 100000 in
theorem wm_RL_164 : Cond.methodLink RL 164 yX7_earns ∈ gW := gW_t6 171 rfl rfl
set_option maxRecDepth 100000 in
theorem wc_yX7_earns : Cond.code yX7_earns cX7_earns 2 (some .int) ∈ gW := gW_t6 174 rfl rfl
theorem cv_RL_164 : CV RL 164 yX7_earns cX7_earns 2 (some .int) 1 := ⟨wm_RL_164, wc_yX7_earns, wi_TwoWidthsModel, ⟨by decide, by decide⟩, by decide +kernel⟩
set_option maxRecDepth 100000 in
theorem wn_yX7_earns : Cond.instanceMethod yX7_earns ∈ gW := gW_t6 172 rfl rfl
set_option maxRecDepth 100000 in
theorem wv_yX7_earns : Cond.selects RX7 yX7_earns yX7_earns ∈ gW := gW_t6 173 rfl rfl
theorem iv_yX7_earns : Cond.instanceMethod yX7_earns ∈ gW ∧ Cond.selects yX7_earns.cls yX7_earns yX7_earns ∈ gW := ⟨wn_yX7_earns, wv_yX7_earns⟩
set_option maxRecDepth 100000 in
theorem wm_RL_165 : Cond.methodLink RL 165 yX6_gains ∈ gW := gW_t4 157 rfl rfl
set_option maxRecDepth 100000 in
theorem wc_yX6_gains : Cond.code yX6_gains cX6_gains 4 (some .int) ∈ gW := gW_t4 160 rfl rfl
theorem cv_RL_165 : CV RL 165 yX6_gains cX6_gains 4 (some .int) 2 := ⟨wm_RL_165, wc_yX6_gains, wi_TwoWidths, ⟨by decide, by decide⟩, by decide +kernel⟩
set_option maxRecDepth 100000 in
theorem wn_yX6_gains : Cond.instanceMethod yX6_gains ∈ gW := gW_t4 158 rfl rfl
set_option maxRecDepth 100000 in
theorem wv_yX6_gains : Cond.selects RX6 yX6_gains yX6_gains ∈ gW := gW_t4 159 rfl rfl
theorem iv_yX6_gains : Cond.instanceMethod yX6_gains ∈ gW ∧ Cond.selects yX6_gains.cls yX6_gains yX6_gains ∈ gW := ⟨wn_yX6_gains, wv_yX6_gains⟩
set_option maxRecDepth 100000 in
theorem wm_RL_168 : Cond.methodLink RL 168 yX7_gains ∈ gW := gW_t7 12 rfl rfl
set_option maxRecDepth 100000 in
theorem wc_yX7_gains : Cond.code yX7_gains cX7_gains 3 (some .int) ∈ gW := gW_t7 15 rfl rfl
theorem cv_RL_168 : CV RL 168 yX7_gains cX7_gains 3 (some .int) 2 := ⟨wm_RL_168, wc_yX7_gains, wi_TwoWidthsModel, ⟨by decide, by decide⟩, by decide +kernel⟩
set_option maxRecDepth 100000 in
theorem wn_yX7_gains : Cond.instanceMethod yX7_gains ∈ gW := gW_t7 13 rfl rfl
set_option maxRecDepth 100000 in
theorem wv_yX7_gains : Cond.selects RX7 yX7_gains yX7_gains ∈ gW := gW_t7 14 rfl rfl
theorem iv_yX7_gains : Cond.instanceMethod yX7_gains ∈ gW ∧ Cond.selects yX7_gains.cls yX7_gains yX7_gains ∈ gW := ⟨wn_yX7_gains, wv_yX7_gains⟩
set_option maxRecDepth 100000 in
theorem wm_RL_169 : Cond.methodLink RL 169 yX6_losers ∈ gW := gW_t4 166 rfl rfl
set_option maxRecDepth 100000 in
theorem wc_yX6_losers : Cond.code yX6_losers cX6_losers 5 (some .int) ∈ gW := gW_t4 169 rfl rfl
theorem cv_RL_169 : CV RL 169 yX6_losers cX6_losers 5 (some .int) 1 := ⟨wm_RL_169, wc_yX6_losers, wi_TwoWidths, ⟨by decide, by decide⟩, by decide +kernel⟩
set_option maxRecDepth 100000 in
theorem wn_yX6_losers : Cond.instanceMethod yX6_losers ∈ gW := gW_t4 167 rfl rfl
set_option maxRecDepth 100000 in
theorem wv_yX6_losers : Cond.selects RX6 yX6_losers yX6_losers ∈ gW := gW_t4 168 rfl rfl
theorem iv_yX6_losers : Cond.instanceMethod yX6_losers ∈ gW ∧ Cond.selects yX6_losers.cls yX6_losers yX6_losers ∈ gW := ⟨wn_yX6_losers, wv_yX6_losers⟩
set_option maxRecDepth 100000 in
theorem wm_RL_172 : Cond.methodLink RL 172 yX7_losers ∈ gW := gW_t7 20 rfl rfl
set_option maxRecDepth 100000 in
theorem wc_yX7_losers : Cond.code yX7_losers cX7_losers 4 (some .int) ∈ gW := gW_t7 23 rfl rfl
theorem cv_RL_172 : CV RL 172 yX7_losers cX7_losers 4 (some .int) 1 := ⟨wm_RL_172, wc_yX7_losers, wi_TwoWidthsModel, ⟨by decide, by decide⟩, by decide +kernel⟩
set_option maxRecDepth 100000 in
theorem wn_yX7_losers : Cond.instanceMethod yX7_losers ∈ gW := gW_t7 21 rfl rfl
set_option maxRecDepth 100000 in
theorem wv_yX7_losers : Cond.selects RX7 yX7_losers yX7_losers ∈ gW := gW_t7 22 rfl rfl
theorem iv_yX7_losers : Cond.instanceMethod yX7_losers ∈ gW ∧ Cond.selects yX7_losers.cls yX7_losers yX7_losers ∈ gW := ⟨wn_yX7_losers, wv_yX7_losers⟩
set_option maxRecDepth 100000 in
theorem wm_RL_173 : Cond.methodLink RL 173 yX6_port ∈ gW := gW_t4 170 rfl rfl
set_option maxRecDepth 100000 in
theorem wc_yX6_port : Cond.code yX6_port cX6_port 3 (some .int) ∈ gW := gW_t4 173 rfl rfl
theorem cv_RL_173 : CV RL 173 yX6_port cX6_port 3 (some .int) 2 := ⟨wm_RL_173, wc_yX6_port, wi_TwoWidths, ⟨by decide, by decide⟩, by decide +kernel⟩
set_option maxRecDepth 100000 in
theorem wn_yX6_port : Cond.instanceMethod yX6_port ∈ gW := gW_t4 171 rfl rfl
set_option maxRecDepth 100000 in
theorem wv_yX6_port : Cond.selects RX6 yX6_port yX6_port ∈ gW := gW_t4 172 rfl rfl
theorem iv_yX6_port : Cond.instanceMethod yX6_port ∈ gW ∧ Cond.selects yX6_port.cls yX6_port yX6_port ∈ gW := ⟨wn_yX6_port, wv_yX6_port⟩
set_option maxRecDepth 100000 in
theorem wm_RL_176 : Cond.methodLink RL 176 yX7_port ∈ gW := gW_t6 179 rfl rfl
set_option maxRecDepth 100000 in
theorem wc_yX7_port : Cond.code yX7_port cX7_port 9 (some .int) ∈ gW := gW_t6 182 rfl rfl
theorem cv_RL_176 : CV RL 176 yX7_port cX7_port 9 (some .int) 2 := ⟨wm_RL_176, wc_yX7_port, wi_TwoWidthsModel, ⟨by decide, by decide⟩, by decide +kernel⟩
set_option maxRecDepth 100000 in
theorem wn_yX7_port : Cond.instanceMethod yX7_port ∈ gW := gW_t6 180 rfl rfl
set_option maxRecDepth 100000 in
theorem wv_yX7_port : Cond.selects RX7 yX7_port yX7_port ∈ gW := gW_t6 181 rfl rfl
theorem iv_yX7_port : Cond.instanceMethod yX7_port ∈ gW ∧ Cond.selects yX7_port.cls yX7_port yX7_port ∈ gW := ⟨wn_yX7_port, wv_yX7_port⟩
set_option maxRecDepth 100000 in
theorem wm_RL_177 : Cond.methodLink RL 177 yX6_hangs ∈ gW := gW_t4 194 rfl rfl
set_option maxRecDepth 100000 in
theorem wc_yX6_hangs : Cond.code yX6_hangs cX6_hangs 2 (some .int) ∈ gW := gW_t4 197 rfl rfl
theorem cv_RL_177 : CV RL 177 yX6_hangs cX6_hangs 2 (some .int) 0 := ⟨wm_RL_177, wc_yX6_hangs, wi_TwoWidths, ⟨by decide, by decide⟩, by decide +kernel⟩
set_option maxRecDepth 100000 in
theorem wn_yX6_hangs : Cond.instanceMethod yX6_hangs ∈ gW := gW_t4 195 rfl rfl
set_option maxRecDepth 100000 in
theorem wv_yX6_hangs : Cond.selects RX6 yX6_hangs yX6_hangs ∈ gW := gW_t4 196 rfl rfl
theorem iv_yX6_hangs : Cond.instanceMethod yX6_hangs ∈ gW ∧ Cond.selects yX6_hangs.cls yX6_hangs yX6_hangs ∈ gW := ⟨wn_yX6_hangs, wv_yX6_hangs⟩
set_option maxRecDepth 100000 in
theorem wm_RL_180 : Cond.methodLink RL 180 yX7_hangs ∈ gW := gW_t6 183 rfl rfl
set_option maxRecDepth 100000 in
theorem wc_yX7_hangs : Cond.code yX7_hangs cX7_hangs 5 (some .int) ∈ gW := gW_t6 186 rfl rfl
theorem cv_RL_180 : CV RL 180 yX7_hangs cX7_hangs 5 (some .int) 0 := ⟨wm_RL_180, wc_yX7_hangs, wi_TwoWidthsModel, ⟨by decide, by decide⟩, by decide +kernel⟩
set_option maxRecDepth 100000 in
theorem wn_yX7_hangs : Cond.instanceMethod yX7_hangs ∈ gW := gW_t6 184 rfl rfl
set_option maxRecDepth 100000 in
theorem wv_yX7_hangs : Cond.selects RX7 yX7_hangs yX7_hangs ∈ gW := gW_t6 185 rfl rfl
theorem iv_yX7_hangs : Cond.instanceMethod yX7_hangs ∈ gW ∧ Cond.selects yX7_hangs.cls yX7_hangs yX7_hangs ∈ gW := ⟨wn_yX7_hangs, wv_yX7_hangs⟩
set_option maxRecDepth 100000 in
theorem wm_RL_181 : Cond.methodLink RL 181 yX6_plan ∈ gW := gW_t4 203 rfl rfl
set_option maxRecDepth 100000 in
theorem wc_yX6_plan : Cond.code yX6_plan cX6_plan 4 (some .int) ∈ gW := gW_t4 206 rfl rfl
theorem cv_RL_181 : CV RL 181 yX6_plan cX6_plan 4 (some .int) 2 := ⟨wm_RL_181, wc_yX6_plan, wi_TwoWidths, ⟨by decide, by decide⟩, by decide +kernel⟩
set_option maxRecDepth 100000 in
theorem wn_yX6_plan : Cond.instanceMethod yX6_plan ∈ gW := gW_t4 204 rfl rfl
set_option maxRecDepth 100000 in
theorem wv_yX6_plan : Cond.selects RX6 yX6_plan yX6_plan ∈ gW := gW_t4 205 rfl rfl
theorem iv_yX6_plan : Cond.instanceMethod yX6_plan ∈ gW ∧ Cond.selects yX6_plan.cls yX6_plan yX6_plan ∈ gW := ⟨wn_yX6_plan, wv_yX6_plan⟩
set_option maxRecDepth 100000 in
theorem wm_RL_184 : Cond.methodLink RL 184 yX7_plan ∈ gW := gW_t7 24 rfl rfl
set_option maxRecDepth 100000 in
theorem wc_yX7_plan : Cond.code yX7_plan cX7_plan 7 (some .int) ∈ gW := gW_t7 27 rfl rfl
theorem cv_RL_184 : CV RL 184 yX7_plan cX7_plan 7 (some .int) 2 := ⟨wm_RL_184, wc_yX7_plan, wi_TwoWidthsModel, ⟨by decide, by decide⟩, by decide +kernel⟩
set_option maxRecDepth 100000 in
theorem wn_yX7_plan : Cond.instanceMethod yX7_plan ∈ gW := gW_t7 25 rfl rfl
set_option maxRecDepth 100000 in
theorem wv_yX7_plan : Cond.selects RX7 yX7_plan yX7_plan ∈ gW := gW_t7 26 rfl rfl
theorem iv_yX7_plan : Cond.instanceMethod yX7_plan ∈ gW ∧ Cond.selects yX7_plan.cls yX7_plan yX7_plan ∈ gW := ⟨wn_yX7_plan, wv_yX7_plan⟩
set_option maxRecDepth 100000 in
theorem wm_RL_185 : Cond.methodLink RL 185 yX6_judge ∈ gW := gW_t4 227 rfl rfl
set_option maxRecDepth 100000 in
theorem wc_yX6_judge : Cond.code yX6_judge cX6_judge 4 (some .int) ∈ gW := gW_t4 230 rfl rfl
theorem cv_RL_185 : CV RL 185 yX6_judge cX6_judge 4 (some .int) 2 := ⟨wm_RL_185, wc_yX6_judge, wi_TwoWidths, ⟨by decide, by decide⟩, by decide +kernel⟩
set_option maxRecDepth 100000 in
theorem wn_yX6_judge : Cond.instanceMethod yX6_judge ∈ gW := gW_t4 228 rfl rfl
set_option maxRecDepth 100000 in
theorem wv_yX6_judge : Cond.selects RX6 yX6_judge yX6_judge ∈ gW := gW_t4 229 rfl rfl
theorem iv_yX6_judge : Cond.instanceMethod yX6_judge ∈ gW ∧ Cond.selects yX6_judge.cls yX6_judge yX6_judge ∈ gW := ⟨wn_yX6_judge, wv_yX6_judge⟩
set_option maxRecDepth 100000 in
theorem wm_RL_188 : Cond.methodLink RL 188 yX7_judge ∈ gW := gW_t7 36 rfl rfl
set_option maxRecDepth 100000 in
theorem wc_yX7_judge : Cond.code yX7_judge cX7_judge 4 (some .int) ∈ gW := gW_t7 39 rfl rfl
theorem cv_RL_188 : CV RL 188 yX7_judge cX7_judge 4 (some .int) 2 := ⟨wm_RL_188, wc_yX7_judge, wi_TwoWidthsModel, ⟨by decide, by decide⟩, by decide +kernel⟩
set_option maxRecDepth 100000 in
theorem wn_yX7_judge : Cond.instanceMethod yX7_judge ∈ gW := gW_t7 37 rfl rfl
set_option maxRecDepth 100000 in
theorem wv_yX7_judge : Cond.selects RX7 yX7_judge yX7_judge ∈ gW := gW_t7 38 rfl rfl
theorem iv_yX7_judge : Cond.instanceMethod yX7_judge ∈ gW ∧ Cond.selects yX7_judge.cls yX7_judge yX7_judge ∈ gW := ⟨wn_yX7_judge, wv_yX7_judge⟩
set_option maxRecDepth 100000 in
theorem wm_RL_189 : Cond.methodLink RL 189 yX6_year ∈ gW := gW_t4 231 rfl rfl
set_option maxRecDepth 100000 in
theorem wc_yX6_year : Cond.code yX6_year cX6_year 3 (some .int) ∈ gW := gW_t4 234 rfl rfl
theorem cv_RL_189 : CV RL 189 yX6_year cX6_year 3 (some .int) 1 := ⟨wm_RL_189, wc_yX6_year, wi_TwoWidths, ⟨by decide, by decide⟩, by decide +kernel⟩
set_option maxRecDepth 100000 in
theorem wn_yX6_year : Cond.instanceMethod yX6_year ∈ gW := gW_t4 232 rfl rfl
set_option maxRecDepth 100000 in
theorem wv_yX6_year : Cond.selects RX6 yX6_year yX6_year ∈ gW := gW_t4 233 rfl rfl
theorem iv_yX6_year : Cond.instanceMethod yX6_year ∈ gW ∧ Cond.selects yX6_year.cls yX6_year yX6_year ∈ gW := ⟨wn_yX6_year, wv_yX6_year⟩
set_option maxRecDepth 100000 in
theorem wm_RL_192 : Cond.methodLink RL 192 yX7_year ∈ gW := gW_t7 40 rfl rfl
set_option maxRecDepth 100000 in
theorem wc_yX7_year : Cond.code yX7_year cX7_year 2 (some .int) ∈ gW := gW_t7 43 rfl rfl
theorem cv_RL_192 : CV RL 192 yX7_year cX7_year 2 (some .int) 1 := ⟨wm_RL_192, wc_yX7_year, wi_TwoWidthsModel, ⟨by decide, by decide⟩, by decide +kernel⟩
set_option maxRecDepth 100000 in
theorem wn_yX7_year : Cond.instanceMethod yX7_year ∈ gW := gW_t7 41 rfl rfl
set_option maxRecDepth 100000 in
theorem wv_yX7_year : Cond.selects RX7 yX7_year yX7_year ∈ gW := gW_t7 42 rfl rfl
theorem iv_yX7_year : Cond.instanceMethod yX7_year ∈ gW ∧ Cond.selects yX7_year.cls yX7_year yX7_year ∈ gW := ⟨wn_yX7_year, wv_yX7_year⟩
set_option maxRecDepth 100000 in
theorem wm_RL_193 : Cond.methodLink RL 193 yX6_run ∈ gW := gW_t5 0 rfl rfl
set_option maxRecDepth 100000 in
theorem wc_yX6_run : Cond.code yX6_run cX6_run 4 (some .int) ∈ gW := gW_t5 3 rfl rfl
theorem cv_RL_193 : CV RL 193 yX6_run cX6_run 4 (some .int) 1 := ⟨wm_RL_193, wc_yX6_run, wi_TwoWidths, ⟨by decide, by decide⟩, by decide +kernel⟩
set_option maxRecDepth 100000 in
theorem wn_yX6_run : Cond.instanceMethod yX6_run ∈ gW := gW_t5 1 rfl rfl
set_option maxRecDepth 100000 in
theorem wv_yX6_run : Cond.selects RX6 yX6_run yX6_run ∈ gW := gW_t5 2 rfl rfl
theorem iv_yX6_run : Cond.instanceMethod yX6_run ∈ gW ∧ Cond.selects yX6_run.cls yX6_run yX6_run ∈ gW := ⟨wn_yX6_run, wv_yX6_run⟩
set_option maxRecDepth 100000 in
theorem wm_RL_196 : Cond.methodLink RL 196 yX7_run ∈ gW := gW_t7 48 rfl rfl
set_option maxRecDepth 100000 in
theorem wc_yX7_run : Cond.code yX7_run cX7_run 4 (some .int) ∈ gW := gW_t7 51 rfl rfl
theorem cv_RL_196 : CV RL 196 yX7_run cX7_run 4 (some .int) 1 := ⟨wm_RL_196, wc_yX7_run, wi_TwoWidthsModel, ⟨by decide, by decide⟩, by decide +kernel⟩
set_option maxRecDepth 100000 in
theorem wn_yX7_run : Cond.instanceMethod yX7_run ∈ gW := gW_t7 49 rfl rfl
set_option maxRecDepth 100000 in
theorem wv_yX7_run : Cond.selects RX7 yX7_run yX7_run ∈ gW := gW_t7 50 rfl rfl
theorem iv_yX7_run : Cond.instanceMethod yX7_run ∈ gW ∧ Cond.selects yX7_run.cls yX7_run yX7_run ∈ gW := ⟨wn_yX7_run, wv_yX7_run⟩
set_option maxRecDepth 100000 in
theorem wm_RL_197 : Cond.methodLink RL 197 yX6_image ∈ gW := gW_t5 4 rfl rfl
set_option maxRecDepth 100000 in
theorem wc_yX6_image : Cond.code yX6_image cX6_image 1 (some .int) ∈ gW := gW_t5 7 rfl rfl
theorem cv_RL_197 : CV RL 197 yX6_image cX6_image 1 (some .int) 0 := ⟨wm_RL_197, wc_yX6_image, wi_TwoWidths, ⟨by decide, by decide⟩, by decide +kernel⟩
set_option maxRecDepth 100000 in
theorem wn_yX6_image : Cond.instanceMethod yX6_image ∈ gW := gW_t5 5 rfl rfl
set_option maxRecDepth 100000 in
theorem wv_yX6_image : Cond.selects RX6 yX6_image yX6_image ∈ gW := gW_t5 6 rfl rfl
theorem iv_yX6_image : Cond.instanceMethod yX6_image ∈ gW ∧ Cond.selects yX6_image.cls yX6_image yX6_image ∈ gW := ⟨wn_yX6_image, wv_yX6_image⟩
set_option maxRecDepth 100000 in
theorem wm_RL_200 : Cond.methodLink RL 200 yX7_image ∈ gW := gW_t7 53 rfl rfl
set_option maxRecDepth 100000 in
theorem wc_yX7_image : Cond.code yX7_image cX7_image 1 (some .int) ∈ gW := gW_t7 56 rfl rfl
theorem cv_RL_200 : CV RL 200 yX7_image cX7_image 1 (some .int) 0 := ⟨wm_RL_200, wc_yX7_image, wi_TwoWidthsModel, ⟨by decide, by decide⟩, by decide +kernel⟩
set_option maxRecDepth 100000 in
theorem wn_yX7_image : Cond.instanceMethod yX7_image ∈ gW := gW_t7 54 rfl rfl
set_option maxRecDepth 100000 in
theorem wv_yX7_image : Cond.selects RX7 yX7_image yX7_image ∈ gW := gW_t7 55 rfl rfl
theorem iv_yX7_image : Cond.instanceMethod yX7_image ∈ gW ∧ Cond.selects yX7_image.cls yX7_image yX7_image ∈ gW := ⟨wn_yX7_image, wv_yX7_image⟩
set_option maxRecDepth 100000 in
theorem wm_RL_201 : Cond.methodLink RL 201 yX6_back ∈ gW := gW_t5 8 rfl rfl
set_option maxRecDepth 100000 in
theorem wc_yX6_back : Cond.code yX6_back cX6_back 1 (some .int) ∈ gW := gW_t5 11 rfl rfl
theorem cv_RL_201 : CV RL 201 yX6_back cX6_back 1 (some .int) 0 := ⟨wm_RL_201, wc_yX6_back, wi_TwoWidths, ⟨by decide, by decide⟩, by decide +kernel⟩
set_option maxRecDepth 100000 in
theorem wn_yX6_back : Cond.instanceMethod yX6_back ∈ gW := gW_t5 9 rfl rfl
set_option maxRecDepth 100000 in
theorem wv_yX6_back : Cond.selects RX6 yX6_back yX6_back ∈ gW := gW_t5 10 rfl rfl
theorem iv_yX6_back : Cond.instanceMethod yX6_back ∈ gW ∧ Cond.selects yX6_back.cls yX6_back yX6_back ∈ gW := ⟨wn_yX6_back, wv_yX6_back⟩
set_option maxRecDepth 100000 in
theorem wm_RL_204 : Cond.methodLink RL 204 yX7_back ∈ gW := gW_t7 57 rfl rfl
set_option maxRecDepth 100000 in
theorem wc_yX7_back : Cond.code yX7_back cX7_back 2 (some .int) ∈ gW := gW_t7 60 rfl rfl
theorem cv_RL_204 : CV RL 204 yX7_back cX7_back 2 (some .int) 0 := ⟨wm_RL_204, wc_yX7_back, wi_TwoWidthsModel, ⟨by decide, by decide⟩, by decide +kernel⟩
set_option maxRecDepth 100000 in
theorem wn_yX7_back : Cond.instanceMethod yX7_back ∈ gW := gW_t7 58 rfl rfl
set_option maxRecDepth 100000 in
theorem wv_yX7_back : Cond.selects RX7 yX7_back yX7_back ∈ gW := gW_t7 59 rfl rfl
theorem iv_yX7_back : Cond.instanceMethod yX7_back ∈ gW ∧ Cond.selects yX7_back.cls yX7_back yX7_back ∈ gW := ⟨wn_yX7_back, wv_yX7_back⟩
set_option maxRecDepth 100000 in
theorem wm_RL_205 : Cond.methodLink RL 205 yX6_status ∈ gW := gW_t5 17 rfl rfl
set_option maxRecDepth 100000 in
theorem wc_yX6_status : Cond.code yX6_status cX6_status 2 (some .int) ∈ gW := gW_t5 20 rfl rfl
theorem cv_RL_205 : CV RL 205 yX6_status cX6_status 2 (some .int) 1 := ⟨wm_RL_205, wc_yX6_status, wi_TwoWidths, ⟨by decide, by decide⟩, by decide +kernel⟩
set_option maxRecDepth 100000 in
theorem wn_yX6_status : Cond.instanceMethod yX6_status ∈ gW := gW_t5 18 rfl rfl
set_option maxRecDepth 100000 in
theorem wv_yX6_status : Cond.selects RX6 yX6_status yX6_status ∈ gW := gW_t5 19 rfl rfl
theorem iv_yX6_status : Cond.instanceMethod yX6_status ∈ gW ∧ Cond.selects yX6_status.cls yX6_status yX6_status ∈ gW := ⟨wn_yX6_status, wv_yX6_status⟩
set_option maxRecDepth 100000 in
theorem wm_RL_208 : Cond.methodLink RL 208 yX7_status ∈ gW := gW_t7 61 rfl rfl
set_option maxRecDepth 100000 in
theorem wc_yX7_status : Cond.code yX7_status cX7_status 4 (some .int) ∈ gW := gW_t7 64 rfl rfl
theorem cv_RL_208 : CV RL 208 yX7_status cX7_status 4 (some .int) 1 := ⟨wm_RL_208, wc_yX7_status, wi_TwoWidthsModel, ⟨by decide, by decide⟩, by decide +kernel⟩
set_option maxRecDepth 100000 in
theorem wn_yX7_status : Cond.instanceMethod yX7_status ∈ gW := gW_t7 62 rfl rfl
set_option maxRecDepth 100000 in
theorem wv_yX7_status : Cond.selects RX7 yX7_status yX7_status ∈ gW := gW_t7 63 rfl rfl
theorem iv_yX7_status : Cond.instanceMethod yX7_status ∈ gW ∧ Cond.selects yX7_status.cls yX7_status yX7_status ∈ gW := ⟨wn_yX7_status, wv_yX7_status⟩
end
section
section LW
variable {args : Array Value} {s : State} {A : Nat → Prop}
def skW (t : Term) (bs : List Int32) : List Cond := Cond.exactly t "java/lang/String" :: Cond.eq (.field t "java/lang/String" "coder" "B") (.int 0) :: Cond.arrayOf (.field t "java/lang/String" "value" "[B") .byte :: Cond.eq (.length (.field t "java/lang/String" "value" "[B")) (.int (Int32.ofNat bs.length)) :: (List.range bs.length).map (fun j => Cond.eq (.elem (.field t "java/lang/String" "value" "[B") (.int (Int32.ofNat j))) (.int (bs.getD j 0)))
def skL : List (Term × List Int32) := [(.string "TwoWidths$Tape" 35, [108, 105, 110, 101]), (.string "TwoWidths$Tape" 87, [119, 105, 100, 116, 104]), (.string "TwoWidths$Tape" 89, [109, 105, 108, 101, 115]), (.string "TwoWidths$Tape" 91, [98, 101, 97, 114, 115]), (.string "TwoWidths$Tape" 97, [111, 119, 110, 101, 114]), (.string "TwoWidths$Tape" 49, [103, 111, 111, 100, 115]), (.string "TwoWidths$Tape" 57, [119, 111, 114, 107]), (.string "TwoWidths$Tape" 65, [99, 104, 97, 110, 103, 101]), (.string "TwoWidths$Tape" 70, [99, 111, 105, 110]), (.string "TwoWidths$Tape" 75, [121, 101, 97, 114, 115]), (.string "TwoWidthsModel" 206, [108, 105, 110, 101]), (.string "TwoWidthsModel" 211, [119, 105, 100, 116, 104]), (.string "TwoWidthsModel" 213, [109, 105, 108, 101, 115]), (.string "TwoWidthsModel" 215, [98, 101, 97, 114, 115]), (.string "TwoWidthsModel" 220, [111, 119, 110, 101, 114]), (.string "TwoWidthsModel" 222, [103, 111, 111, 100, 115]), (.string "TwoWidthsModel" 223, [119, 111, 114, 107]), (.string "TwoWidthsModel" 227, [99, 104, 97, 110, 103, 101]), (.string "TwoWidthsModel" 229, [99, 111, 105, 110]), (.string "TwoWidthsModel" 231, [121, 101, 97, 114, 115])]
def skB : List Cond → List Cond → Bool
  | [], _ => true
  | _ :: _, [] => false
  | a :: as, b :: bs => if a = b then skB as bs else skB (a :: as) bs
theorem skB_mem : ∀ (ys xs : List Cond), skB xs ys = true → ∀ w ∈ xs, w ∈ ys := by
  intro ys
  induction ys with
  | nil =>
    intro xs h w hw
    cases xs with
    | nil => exact hw
    | cons a as => cases h
  | cons b bs ih =>
    intro xs h w hw
    cases xs with
    | nil => cases hw
    | cons a as =>
      unfold skB at h
      by_cases e : a = b
      · rw [if_pos e] at h
        rcases List.mem_cons.mp hw with q | q
        · exact List.mem_cons.mpr (Or.inl (q.trans e))
        · exact List.mem_cons.mpr (Or.inr (ih as h w q))
      · rw [if_neg e] at h
        exact List.mem_cons.mpr (Or.inr (ih (a :: as) h w hw))
set_option maxRecDepth 100000 in
theorem skAll : ∀ w ∈ skL.flatMap (fun x => skW x.1 x.2), w ∈ flatC (Jvm.Cond.and given_1 narrow_1) := skB_mem _ _ (by decide +kernel)
theorem sK_of2 {t : Term} {bs : List Int32} (hN : bs.length < 2 ^ 31) (h : ∀ w ∈ skW t bs, w.before args s = true) (hA : ∀ a : Nat, a < s.heap.size → ¬ A a) : ∃ q : Nat × Nat, t.eval args s none [] s = some (.ref q.1) ∧ va_O "java/lang/String" q.1 A s s.heap ∧ va_OF "java/lang/String" "coder" "B" (.int 0) q.1 A s s.heap ∧ va_OF "java/lang/String" "value" "[B" (.ref q.2) q.1 A s s.heap ∧ va_T .byte q.2 bs.length (sByte bs) A s s.heap := by
  unfold skW at h
  exact sK_of hN (h _ (List.mem_cons_self ..)) (h _ (List.mem_cons_of_mem _ (List.mem_cons_self ..))) (h _ (List.mem_cons_of_mem _ (List.mem_cons_of_mem _ (List.mem_cons_self ..)))) (h _ (List.mem_cons_of_mem _ (List.mem_cons_of_mem _ (List.mem_cons_of_mem _ (List.mem_cons_self ..))))) (fun j hj => h _ (List.mem_cons_of_mem _ (List.mem_cons_of_mem _ (List.mem_cons_of_mem _ (List.mem_cons_of_mem _ (List.mem_map.mpr ⟨j, List.mem_range.mpr hj, rfl⟩)))))) hA
theorem sta_0 (hs : ∀ w ∈ flatC (Jvm.Cond.and given_1 narrow_1), w.before args s = true) (hts : ∀ w ∈ lw_tbl, w.before args s = true) (hA : ∀ a : Nat, a < s.heap.size → ¬ A a) : ∃ q : Nat × Nat, va_O "java/lang/String" q.1 A s s.heap ∧ va_OF "java/lang/String" "coder" "B" (.int 0) q.1 A s s.heap ∧ va_OF "java/lang/String" "value" "[B" (.ref q.2) q.1 A s s.heap ∧ va_T .byte q.2 4 (sByte [108, 105, 110, 101]) A s s.heap ∧ vk_R "TwoWidths$Tape" 35 "line" q.1 s := by
  obtain ⟨q, h0, h1, h2, h3, h4⟩ := sK_of2 (args := args) (s := s) (A := A) (t := (.string "TwoWidths$Tape" 35)) (bs := [108, 105, 110, 101]) (by decide) (fun w hw => hs w (skAll w (List.mem_flatMap.mpr ⟨((.string "TwoWidths$Tape" 35), [108, 105, 110, 101]), List.mem_of_getElem? (i := 0) rfl, hw⟩))) hA
  exact ⟨q, h1, h2, h3, h4, vk_R.of (hts _ (lw_t2 238 rfl)) h0⟩
theorem sta_1 (hs : ∀ w ∈ flatC (Jvm.Cond.and given_1 narrow_1), w.before args s = true) (hts : ∀ w ∈ lw_tbl, w.before args s = true) (hA : ∀ a : Nat, a < s.heap.size → ¬ A a) : ∃ q : Nat × Nat, va_O "java/lang/String" q.1 A s s.heap ∧ va_OF "java/lang/String" "coder" "B" (.int 0) q.1 A s s.heap ∧ va_OF "java/lang/String" "value" "[B" (.ref q.2) q.1 A s s.heap ∧ va_T .byte q.2 5 (sByte [119, 105, 100, 116, 104]) A s s.heap ∧ vk_R "TwoWidths$Tape" 87 "width" q.1 s := by
  obtain ⟨q, h0, h1, h2, h3, h4⟩ := sK_of2 (args := args) (s := s) (A := A) (t := (.string "TwoWidths$Tape" 87)) (bs := [119, 105, 100, 116, 104]) (by decide) (fun w hw => hs w (skAll w (List.mem_flatMap.mpr ⟨((.string "TwoWidths$Tape" 87), [119, 105, 100, 116, 104]), List.mem_of_getElem? (i := 1) rfl, hw⟩))) hA
  exact ⟨q, h1, h2, h3, h4, vk_R.of (hts _ (lw_t3 64 rfl)) h0⟩
theorem sta_2 (hs : ∀ w ∈ flatC (Jvm.Cond.and given_1 narrow_1), w.before args s = true) (hts : ∀ w ∈ lw_tbl, w.before args s = true) (hA : ∀ a : Nat, a < s.heap.size → ¬ A a) : ∃ q : Nat × Nat, va_O "java/lang/String" q.1 A s s.heap ∧ va_OF "java/lang/String" "coder" "B" (.int 0) q.1 A s s.heap ∧ va_OF "java/lang/String" "value" "[B" (.ref q.2) q.1 A s s.heap ∧ va_T .byte q.2 5 (sByte [109, 105, 108, 101, 115]) A s s.heap ∧ vk_R "TwoWidths$Tape" 89 "miles" q.1 s := by
  obtain ⟨q, h0, h1, h2, h3, h4⟩ := sK_of2 (args := args) (s := s) (A := A) (t := (.string "TwoWidths$Tape" 89)) (bs := [109, 105, 108, 101, 115]) (by decide) (fun w hw => hs w (skAll w (List.mem_flatMap.mpr ⟨((.string "TwoWidths$Tape" 89), [109, 105, 108, 101, 115]), List.mem_of_getElem? (i := 2) rfl, hw⟩))) hA
  exact ⟨q, h1, h2, h3, h4, vk_R.of (hts _ (lw_t3 65 rfl)) h0⟩
theorem sta_3 (hs : ∀ w ∈ flatC (Jvm.Cond.and given_1 narrow_1), w.before args s = true) (hts : ∀ w ∈ lw_tbl, w.before args s = true) (hA : ∀ a : Nat, a < s.heap.size → ¬ A a) : ∃ q : Nat × Nat, va_O "java/lang/String" q.1 A s s.heap ∧ va_OF "java/lang/String" "coder" "B" (.int 0) q.1 A s s.heap ∧ va_OF "java/lang/String" "value" "[B" (.ref q.2) q.1 A s s.heap ∧ va_T .byte q.2 5 (sByte [98, 101, 97, 114, 115]) A s s.heap ∧ vk_R "TwoWidths$Tape" 91 "bears" q.1 s := by
  obtain ⟨q, h0, h1, h2, h3, h4⟩ := sK_of2 (args := args) (s := s) (A := A) (t := (.string "TwoWidths$Tape" 91)) (bs := [98, 101, 97, 114, 115]) (by decide) (fun w hw => hs w (skAll w (List.mem_flatMap.mpr ⟨((.string "TwoWidths$Tape" 91), [98, 101, 97, 114, 115]), List.mem_of_getElem? (i := 3) rfl, hw⟩))) hA
  exact ⟨q, h1, h2, h3, h4, vk_R.of (hts _ (lw_t3 66 rfl)) h0⟩
theorem sta_4 (hs : ∀ w ∈ flatC (Jvm.Cond.and given_1 narrow_1), w.before args s = true) (hts : ∀ w ∈ lw_tbl, w.before args s = true) (hA : ∀ a : Nat, a < s.heap.size → ¬ A a) : ∃ q : Nat × Nat, va_O "java/lang/String" q.1 A s s.heap ∧ va_OF "java/lang/String" "coder" "B" (.int 0) q.1 A s s.heap ∧ va_OF "java/lang/String" "value" "[B" (.ref q.2) q.1 A s s.heap ∧ va_T .byte q.2 5 (sByte [111, 119, 110, 101, 114]) A s s.heap ∧ vk_R "TwoWidths$Tape" 97 "owner" q.1 s := by
  obtain ⟨q, h0, h1, h2, h3, h4⟩ := sK_of2 (args := args) (s := s) (A := A) (t := (.string "TwoWidths$Tape" 97)) (bs := [111, 119, 110, 101, 114]) (by decide) (fun w hw => hs w (skAll w (List.mem_flatMap.mpr ⟨((.string "TwoWidths$Tape" 97), [111, 119, 110, 101, 114]), List.mem_of_getElem? (i := 4) rfl, hw⟩))) hA
  exact ⟨q, h1, h2, h3, h4, vk_R.of (hts _ (lw_t3 71 rfl)) h0⟩
theorem sta_5 (hs : ∀ w ∈ flatC (Jvm.Cond.and given_1 narrow_1), w.before args s = true) (hts : ∀ w ∈ lw_tbl, w.before args s = true) (hA : ∀ a : Nat, a < s.heap.size → ¬ A a) : ∃ q : Nat × Nat, va_O "java/lang/String" q.1 A s s.heap ∧ va_OF "java/lang/String" "coder" "B" (.int 0) q.1 A s s.heap ∧ va_OF "java/lang/String" "value" "[B" (.ref q.2) q.1 A s s.heap ∧ va_T .byte q.2 5 (sByte [103, 111, 111, 100, 115]) A s s.heap ∧ vk_R "TwoWidths$Tape" 49 "goods" q.1 s := by
  obtain ⟨q, h0, h1, h2, h3, h4⟩ := sK_of2 (args := args) (s := s) (A := A) (t := (.string "TwoWidths$Tape" 49)) (bs := [103, 111, 111, 100, 115]) (by decide) (fun w hw => hs w (skAll w (List.mem_flatMap.mpr ⟨((.string "TwoWidths$Tape" 49), [103, 111, 111, 100, 115]), List.mem_of_getElem? (i := 5) rfl, hw⟩))) hA
  exact ⟨q, h1, h2, h3, h4, vk_R.of (hts _ (lw_t3 73 rfl)) h0⟩
theorem sta_6 (hs : ∀ w ∈ flatC (Jvm.Cond.and given_1 narrow_1), w.before args s = true) (hts : ∀ w ∈ lw_tbl, w.before args s = true) (hA : ∀ a : Nat, a < s.heap.size → ¬ A a) : ∃ q : Nat × Nat, va_O "java/lang/String" q.1 A s s.heap ∧ va_OF "java/lang/String" "coder" "B" (.int 0) q.1 A s s.heap ∧ va_OF "java/lang/String" "value" "[B" (.ref q.2) q.1 A s s.heap ∧ va_T .byte q.2 4 (sByte [119, 111, 114, 107]) A s s.heap ∧ vk_R "TwoWidths$Tape" 57 "work" q.1 s := by
  obtain ⟨q, h0, h1, h2, h3, h4⟩ := sK_of2 (args := args) (s := s) (A := A) (t := (.string "TwoWidths$Tape" 57)) (bs := [119, 111, 114, 107]) (by decide) (fun w hw => hs w (skAll w (List.mem_flatMap.mpr ⟨((.string "TwoWidths$Tape" 57), [119, 111, 114, 107]), List.mem_of_getElem? (i := 6) rfl, hw⟩))) hA
  exact ⟨q, h1, h2, h3, h4, vk_R.of (hts _ (lw_t3 79 rfl)) h0⟩
theorem sta_7 (hs : ∀ w ∈ flatC (Jvm.Cond.and given_1 narrow_1), w.before args s = true) (hts : ∀ w ∈ lw_tbl, w.before args s = true) (hA : ∀ a : Nat, a < s.heap.size → ¬ A a) : ∃ q : Nat × Nat, va_O "java/lang/String" q.1 A s s.heap ∧ va_OF "java/lang/String" "coder" "B" (.int 0) q.1 A s s.heap ∧ va_OF "java/lang/String" "value" "[B" (.ref q.2) q.1 A s s.heap ∧ va_T .byte q.2 6 (sByte [99, 104, 97, 110, 103, 101]) A s s.heap ∧ vk_R "TwoWidths$Tape" 65 "change" q.1 s := by
  obtain ⟨q, h0, h1, h2, h3, h4⟩ := sK_of2 (args := args) (s := s) (A := A) (t := (.string "TwoWidths$Tape" 65)) (bs := [99, 104, 97, 110, 103, 101]) (by decide) (fun w hw => hs w (skAll w (List.mem_flatMap.mpr ⟨((.string "TwoWidths$Tape" 65), [99, 104, 97, 110, 103, 101]), List.mem_of_getElem? (i := 7) rfl, hw⟩))) hA
  exact ⟨q, h1, h2, h3, h4, vk_R.of (hts _ (lw_t3 88 rfl)) h0⟩
theorem sta_8 (hs : ∀ w ∈ flatC (Jvm.Cond.and given_1 narrow_1), w.before args s = true) (hts : ∀ w ∈ lw_tbl, w.before args s = true) (hA : ∀ a : Nat, a < s.heap.size → ¬ A a) : ∃ q : Nat × Nat, va_O "java/lang/String" q.1 A s s.heap ∧ va_OF "java/lang/String" "coder" "B" (.int 0) q.1 A s s.heap ∧ va_OF "java/lang/String" "value" "[B" (.ref q.2) q.1 A s s.heap ∧ va_T .byte q.2 4 (sByte [99, 111, 105, 110]) A s s.heap ∧ vk_R "TwoWidths$Tape" 70 "coin" q.1 s := by
  obtain ⟨q, h0, h1, h2, h3, h4⟩ := sK_of2 (args := args) (s := s) (A := A) (t := (.string "TwoWidths$Tape" 70)) (bs := [99, 111, 105, 110]) (by decide) (fun w hw => hs w (skAll w (List.mem_flatMap.mpr ⟨((.string "TwoWidths$Tape" 70), [99, 111, 105, 110]), List.mem_of_getElem? (i := 8) rfl, hw⟩))) hA
  exact ⟨q, h1, h2, h3, h4, vk_R.of (hts _ (lw_t3 94 rfl)) h0⟩
theorem sta_9 (hs : ∀ w ∈ flatC (Jvm.Cond.and given_1 narrow_1), w.before args s = true) (hts : ∀ w ∈ lw_tbl, w.before args s = true) (hA : ∀ a : Nat, a < s.heap.size → ¬ A a) : ∃ q : Nat × Nat, va_O "java/lang/String" q.1 A s s.heap ∧ va_OF "java/lang/String" "coder" "B" (.int 0) q.1 A s s.heap ∧ va_OF "java/lang/String" "value" "[B" (.ref q.2) q.1 A s s.heap ∧ va_T .byte q.2 5 (sByte [121, 101, 97, 114, 115]) A s s.heap ∧ vk_R "TwoWidths$Tape" 75 "years" q.1 s := by
  obtain ⟨q, h0, h1, h2, h3, h4⟩ := sK_of2 (args := args) (s := s) (A := A) (t := (.string "TwoWidths$Tape" 75)) (bs := [121, 101, 97, 114, 115]) (by decide) (fun w hw => hs w (skAll w (List.mem_flatMap.mpr ⟨((.string "TwoWidths$Tape" 75), [121, 101, 97, 114, 115]), List.mem_of_getElem? (i := 9) rfl, hw⟩))) hA
  exact ⟨q, h1, h2, h3, h4, vk_R.of (hts _ (lw_t3 100 rfl)) h0⟩
theorem sta_10 (hs : ∀ w ∈ flatC (Jvm.Cond.and given_1 narrow_1), w.before args s = true) (hts : ∀ w ∈ lw_tbl, w.before args s = true) (hA : ∀ a : Nat, a < s.heap.size → ¬ A a) : ∃ q : Nat × Nat, va_O "java/lang/String" q.1 A s s.heap ∧ va_OF "java/lang/String" "coder" "B" (.int 0) q.1 A s s.heap ∧ va_OF "java/lang/String" "value" "[B" (.ref q.2) q.1 A s s.heap ∧ va_T .byte q.2 4 (sByte [108, 105, 110, 101]) A s s.heap ∧ vk_R "TwoWidthsModel" 206 "line" q.1 s := by
  obtain ⟨q, h0, h1, h2, h3, h4⟩ := sK_of2 (args := args) (s := s) (A := A) (t := (.string "TwoWidthsModel" 206)) (bs := [108, 105, 110, 101]) (by decide) (fun w hw => hs w (skAll w (List.mem_flatMap.mpr ⟨((.string "TwoWidthsModel" 206), [108, 105, 110, 101]), List.mem_of_getElem? (i := 10) rfl, hw⟩))) hA
  exact ⟨q, h1, h2, h3, h4, vk_R.of (hts _ (lw_t6 69 rfl)) h0⟩
theorem sta_11 (hs : ∀ w ∈ flatC (Jvm.Cond.and given_1 narrow_1), w.before args s = true) (hts : ∀ w ∈ lw_tbl, w.before args s = true) (hA : ∀ a : Nat, a < s.heap.size → ¬ A a) : ∃ q : Nat × Nat, va_O "java/lang/String" q.1 A s s.heap ∧ va_OF "java/lang/String" "coder" "B" (.int 0) q.1 A s s.heap ∧ va_OF "java/lang/String" "value" "[B" (.ref q.2) q.1 A s s.heap ∧ va_T .byte q.2 5 (sByte [119, 105, 100, 116, 104]) A s s.heap ∧ vk_R "TwoWidthsModel" 211 "width" q.1 s := by
  obtain ⟨q, h0, h1, h2, h3, h4⟩ := sK_of2 (args := args) (s := s) (A := A) (t := (.string "TwoWidthsModel" 211)) (bs := [119, 105, 100, 116, 104]) (by decide) (fun w hw => hs w (skAll w (List.mem_flatMap.mpr ⟨((.string "TwoWidthsModel" 211), [119, 105, 100, 116, 104]), List.mem_of_getElem? (i := 11) rfl, hw⟩))) hA
  exact ⟨q, h1, h2, h3, h4, vk_R.of (hts _ (lw_t6 88 rfl)) h0⟩
theorem sta_12 (hs : ∀ w ∈ flatC (Jvm.Cond.and given_1 narrow_1), w.before args s = true) (hts : ∀ w ∈ lw_tbl, w.before args s = true) (hA : ∀ a : Nat, a < s.heap.size → ¬ A a) : ∃ q : Nat × Nat, va_O "java/lang/String" q.1 A s s.heap ∧ va_OF "java/lang/String" "coder" "B" (.int 0) q.1 A s s.heap ∧ va_OF "java/lang/String" "value" "[B" (.ref q.2) q.1 A s s.heap ∧ va_T .byte q.2 5 (sByte [109, 105, 108, 101, 115]) A s s.heap ∧ vk_R "TwoWidthsModel" 213 "miles" q.1 s := by
  obtain ⟨q, h0, h1, h2, h3, h4⟩ := sK_of2 (args := args) (s := s) (A := A) (t := (.string "TwoWidthsModel" 213)) (bs := [109, 105, 108, 101, 115]) (by decide) (fun w hw => hs w (skAll w (List.mem_flatMap.mpr ⟨((.string "TwoWidthsModel" 213), [109, 105, 108, 101, 115]), List.mem_of_getElem? (i := 12) rfl, hw⟩))) hA
  exact ⟨q, h1, h2, h3, h4, vk_R.of (hts _ (lw_t6 93 rfl)) h0⟩
theorem sta_13 (hs : ∀ w ∈ flatC (Jvm.Cond.and given_1 narrow_1), w.before args s = true) (hts : ∀ w ∈ lw_tbl, w.before args s = true) (hA : ∀ a : Nat, a < s.heap.size → ¬ A a) : ∃ q : Nat × Nat, va_O "java/lang/String" q.1 A s s.heap ∧ va_OF "java/lang/String" "coder" "B" (.int 0) q.1 A s s.heap ∧ va_OF "java/lang/String" "value" "[B" (.ref q.2) q.1 A s s.heap ∧ va_T .byte q.2 5 (sByte [98, 101, 97, 114, 115]) A s s.heap ∧ vk_R "TwoWidthsModel" 215 "bears" q.1 s := by
  obtain ⟨q, h0, h1, h2, h3, h4⟩ := sK_of2 (args := args) (s := s) (A := A) (t := (.string "TwoWidthsModel" 215)) (bs := [98, 101, 97, 114, 115]) (by decide) (fun w hw => hs w (skAll w (List.mem_flatMap.mpr ⟨((.string "TwoWidthsModel" 215), [98, 101, 97, 114, 115]), List.mem_of_getElem? (i := 13) rfl, hw⟩))) hA
  exact ⟨q, h1, h2, h3, h4, vk_R.of (hts _ (lw_t6 94 rfl)) h0⟩
theorem sta_14 (hs : ∀ w ∈ flatC (Jvm.Cond.and given_1 narrow_1), w.before args s = true) (hts : ∀ w ∈ lw_tbl, w.before args s = true) (hA : ∀ a : Nat, a < s.heap.size → ¬ A a) : ∃ q : Nat × Nat, va_O "java/lang/String" q.1 A s s.heap ∧ va_OF "java/lang/String" "coder" "B" (.int 0) q.1 A s s.heap ∧ va_OF "java/lang/String" "value" "[B" (.ref q.2) q.1 A s s.heap ∧ va_T .byte q.2 5 (sByte [111, 119, 110, 101, 114]) A s s.heap ∧ vk_R "TwoWidthsModel" 220 "owner" q.1 s := by
  obtain ⟨q, h0, h1, h2, h3, h4⟩ := sK_of2 (args := args) (s := s) (A := A) (t := (.string "TwoWidthsModel" 220)) (bs := [111, 119, 110, 101, 114]) (by decide) (fun w hw => hs w (skAll w (List.mem_flatMap.mpr ⟨((.string "TwoWidthsModel" 220), [111, 119, 110, 101, 114]), List.mem_of_getElem? (i := 14) rfl, hw⟩))) hA
  exact ⟨q, h1, h2, h3, h4, vk_R.of (hts _ (lw_t6 99 rfl)) h0⟩
theorem sta_15 (hs : ∀ w ∈ flatC (Jvm.Cond.and given_1 narrow_1), w.before args s = true) (hts : ∀ w ∈ lw_tbl, w.before args s = true) (hA : ∀ a : Nat, a < s.heap.size → ¬ A a) : ∃ q : Nat × Nat, va_O "java/lang/String" q.1 A s s.heap ∧ va_OF "java/lang/String" "coder" "B" (.int 0) q.1 A s s.heap ∧ va_OF "java/lang/String" "value" "[B" (.ref q.2) q.1 A s s.heap ∧ va_T .byte q.2 5 (sByte [103, 111, 111, 100, 115]) A s s.heap ∧ vk_R "TwoWidthsModel" 222 "goods" q.1 s := by
  obtain ⟨q, h0, h1, h2, h3, h4⟩ := sK_of2 (args := args) (s := s) (A := A) (t := (.string "TwoWidthsModel" 222)) (bs := [103, 111, 111, 100, 115]) (by decide) (fun w hw => hs w (skAll w (List.mem_flatMap.mpr ⟨((.string "TwoWidthsModel" 222), [103, 111, 111, 100, 115]), List.mem_of_getElem? (i := 15) rfl, hw⟩))) hA
  exact ⟨q, h1, h2, h3, h4, vk_R.of (hts _ (lw_t6 100 rfl)) h0⟩
theorem sta_16 (hs : ∀ w ∈ flatC (Jvm.Cond.and given_1 narrow_1), w.before args s = true) (hts : ∀ w ∈ lw_tbl, w.before args s = true) (hA : ∀ a : Nat, a < s.heap.size → ¬ A a) : ∃ q : Nat × Nat, va_O "java/lang/String" q.1 A s s.heap ∧ va_OF "java/lang/String" "coder" "B" (.int 0) q.1 A s s.heap ∧ va_OF "java/lang/String" "value" "[B" (.ref q.2) q.1 A s s.heap ∧ va_T .byte q.2 4 (sByte [119, 111, 114, 107]) A s s.heap ∧ vk_R "TwoWidthsModel" 223 "work" q.1 s := by
  obtain ⟨q, h0, h1, h2, h3, h4⟩ := sK_of2 (args := args) (s := s) (A := A) (t := (.string "TwoWidthsModel" 223)) (bs := [119, 111, 114, 107]) (by decide) (fun w hw => hs w (skAll w (List.mem_flatMap.mpr ⟨((.string "TwoWidthsModel" 223), [119, 111, 114, 107]), List.mem_of_getElem? (i := 16) rfl, hw⟩))) hA
  exact ⟨q, h1, h2, h3, h4, vk_R.of (hts _ (lw_t6 101 rfl)) h0⟩
theorem sta_17 (hs : ∀ w ∈ flatC (Jvm.Cond.and given_1 narrow_1), w.before args s = true) (hts : ∀ w ∈ lw_tbl, w.before args s = true) (hA : ∀ a : Nat, a < s.heap.size → ¬ A a) : ∃ q : Nat × Nat, va_O "java/lang/String" q.1 A s s.heap ∧ va_OF "java/lang/String" "coder" "B" (.int 0) q.1 A s s.heap ∧ va_OF "java/lang/String" "value" "[B" (.ref q.2) q.1 A s s.heap ∧ va_T .byte q.2 6 (sByte [99, 104, 97, 110, 103, 101]) A s s.heap ∧ vk_R "TwoWidthsModel" 227 "change" q.1 s := by
  obtain ⟨q, h0, h1, h2, h3, h4⟩ := sK_of2 (args := args) (s := s) (A := A) (t := (.string "TwoWidthsModel" 227)) (bs := [99, 104, 97, 110, 103, 101]) (by decide) (fun w hw => hs w (skAll w (List.mem_flatMap.mpr ⟨((.string "TwoWidthsModel" 227), [99, 104, 97, 110, 103, 101]), List.mem_of_getElem? (i := 17) rfl, hw⟩))) hA
  exact ⟨q, h1, h2, h3, h4, vk_R.of (hts _ (lw_t6 106 rfl)) h0⟩
theorem sta_18 (hs : ∀ w ∈ flatC (Jvm.Cond.and given_1 narrow_1), w.before args s = true) (hts : ∀ w ∈ lw_tbl, w.before args s = true) (hA : ∀ a : Nat, a < s.heap.size → ¬ A a) : ∃ q : Nat × Nat, va_O "java/lang/String" q.1 A s s.heap ∧ va_OF "java/lang/String" "coder" "B" (.int 0) q.1 A s s.heap ∧ va_OF "java/lang/String" "value" "[B" (.ref q.2) q.1 A s s.heap ∧ va_T .byte q.2 4 (sByte [99, 111, 105, 110]) A s s.heap ∧ vk_R "TwoWidthsModel" 229 "coin" q.1 s := by
  obtain ⟨q, h0, h1, h2, h3, h4⟩ := sK_of2 (args := args) (s := s) (A := A) (t := (.string "TwoWidthsModel" 229)) (bs := [99, 111, 105, 110]) (by decide) (fun w hw => hs w (skAll w (List.mem_flatMap.mpr ⟨((.string "TwoWidthsModel" 229), [99, 111, 105, 110]), List.mem_of_getElem? (i := 18) rfl, hw⟩))) hA
  exact ⟨q, h1, h2, h3, h4, vk_R.of (hts _ (lw_t6 107 rfl)) h0⟩
theorem sta_19 (hs : ∀ w ∈ flatC (Jvm.Cond.and given_1 narrow_1), w.before args s = true) (hts : ∀ w ∈ lw_tbl, w.before args s = true) (hA : ∀ a : Nat, a < s.heap.size → ¬ A a) : ∃ q : Nat × Nat, va_O "java/lang/String" q.1 A s s.heap ∧ va_OF "java/lang/String" "coder" "B" (.int 0) q.1 A s s.heap ∧ va_OF "java/lang/String" "value" "[B" (.ref q.2) q.1 A s s.heap ∧ va_T .byte q.2 5 (sByte [121, 101, 97, 114, 115]) A s s.heap ∧ vk_R "TwoWidthsModel" 231 "years" q.1 s := by
  obtain ⟨q, h0, h1, h2, h3, h4⟩ := sK_of2 (args := args) (s := s) (A := A) (t := (.string "TwoWidthsModel" 231)) (bs := [121, 101, 97, 114, 115]) (by decide) (fun w hw => hs w (skAll w (List.mem_flatMap.mpr ⟨((.string "TwoWidthsModel" 231), [121, 101, 97, 114, 115]), List.mem_of_getElem? (i := 19) rfl, hw⟩))) hA
  exact ⟨q, h1, h2, h3, h4, vk_R.of (hts _ (lw_t6 108 rfl)) h0⟩
theorem st_all (hs : ∀ w ∈ flatC (Jvm.Cond.and given_1 narrow_1), w.before args s = true) (hts : ∀ w ∈ lw_tbl, w.before args s = true) (hA : ∀ a : Nat, a < s.heap.size → ¬ A a) (i : Nat) : ∃ q : Nat × Nat, ∀ r, strT[i]? = some r → va_O "java/lang/String" q.1 A s s.heap ∧ va_OF "java/lang/String" "coder" "B" (.int 0) q.1 A s s.heap ∧ va_OF "java/lang/String" "value" "[B" (.ref q.2) q.1 A s s.heap ∧ va_T .byte q.2 r.2.2.2.length (sByte r.2.2.2) A s s.heap ∧ vk_R r.1 r.2.1 r.2.2.1 q.1 s :=
  match i with
  | 0 => by
    obtain ⟨q, h⟩ := sta_0 (args := args) (s := s) (A := A) hs hts hA
    exact ⟨q, fun r hr => by cases hr; exact h⟩
  | 1 => by
    obtain ⟨q, h⟩ := sta_1 (args := args) (s := s) (A := A) hs hts hA
    exact ⟨q, fun r hr => by cases hr; exact h⟩
  | 2 => by
    obtain ⟨q, h⟩ := sta_2 (args := args) (s := s) (A := A) hs hts hA
    exact ⟨q, fun r hr => by cases hr; exact h⟩
  | 3 => by
    obtain ⟨q, h⟩ := sta_3 (args := args) (s := s) (A := A) hs hts hA
    exact ⟨q, fun r hr => by cases hr; exact h⟩
  | 4 => by
    obtain ⟨q, h⟩ := sta_4 (args := args) (s := s) (A := A) hs hts hA
    exact ⟨q, fun r hr => by cases hr; exact h⟩
  | 5 => by
    obtain ⟨q, h⟩ := sta_5 (args := args) (s := s) (A := A) hs hts hA
    exact ⟨q, fun r hr => by cases hr; exact h⟩
  | 6 => by
    obtain ⟨q, h⟩ := sta_6 (args := args) (s := s) (A := A) hs hts hA
    exact ⟨q, fun r hr => by cases hr; exact h⟩
  | 7 => by
    obtain ⟨q, h⟩ := sta_7 (args := args) (s := s) (A := A) hs hts hA
    exact ⟨q, fun r hr => by cases hr; exact h⟩
  | 8 => by
    obtain ⟨q, h⟩ := sta_8 (args := args) (s := s) (A := A) hs hts hA
    exact ⟨q, fun r hr => by cases hr; exact h⟩
  | 9 => by
    obtain ⟨q, h⟩ := sta_9 (args := args) (s := s) (A := A) hs hts hA
    exact ⟨q, fun r hr => by cases hr; exact h⟩
  | 10 => by
    obtain ⟨q, h⟩ := sta_10 (args := args) (s := s) (A := A) hs hts hA
    exact ⟨q, fun r hr => by cases hr; exact h⟩
  | 11 => by
    obtain ⟨q, h⟩ := sta_11 (args := args) (s := s) (A := A) hs hts hA
    exact ⟨q, fun r hr => by cases hr; exact h⟩
  | 12 => by
    obtain ⟨q, h⟩ := sta_12 (args := args) (s := s) (A := A) hs hts hA
    exact ⟨q, fun r hr => by cases hr; exact h⟩
  | 13 => by
    obtain ⟨q, h⟩ := sta_13 (args := args) (s := s) (A := A) hs hts hA
    exact ⟨q, fun r hr => by cases hr; exact h⟩
  | 14 => by
    obtain ⟨q, h⟩ := sta_14 (args := args) (s := s) (A := A) hs hts hA
    exact ⟨q, fun r hr => by cases hr; exact h⟩
  | 15 => by
    obtain ⟨q, h⟩ := sta_15 (args := args) (s := s) (A := A) hs hts hA
    exact ⟨q, fun r hr => by cases hr; exact h⟩
  | 16 => by
    obtain ⟨q, h⟩ := sta_16 (args := args) (s := s) (A := A) hs hts hA
    exact ⟨q, fun r hr => by cases hr; exact h⟩
  | 17 => by
    obtain ⟨q, h⟩ := sta_17 (args := args) (s := s) (A := A) hs hts hA
    exact ⟨q, fun r hr => by cases hr; exact h⟩
  | 18 => by
    obtain ⟨q, h⟩ := sta_18 (args := args) (s := s) (A := A) hs hts hA
    exact ⟨q, fun r hr => by cases hr; exact h⟩
  | 19 => by
    obtain ⟨q, h⟩ := sta_19 (args := args) (s := s) (A := A) hs hts hA
    exact ⟨q, fun r hr => by cases hr; exact h⟩
  | j + 20 => ⟨(0, 0), fun r hr => by cases hr⟩
set_option maxRecDepth 100000 in
theorem gl_of (hs : ∀ w ∈ flatC (Jvm.Cond.and given_1 narrow_1), w.before args s = true) (hts : ∀ w ∈ lw_tbl, w.before args s = true) (hA : ∀ a : Nat, a < s.heap.size → ¬ A a) : ∃ d : DT, Gl d A s s.heap := by
  have hgw : ∀ w ∈ gW, w.before args s = true := fun w hw => hts w (List.mem_filter.mp hw).1
  obtain ⟨c0, i0, k0⟩ := u_known (C := RX0) (T := TX0) (N := 4) (n := 4) hgw wl_X0 (hgw _ win_X0)
  obtain ⟨c1, i1, k1⟩ := u_known (C := RX1) (T := TX1) (N := 11) (n := 11) hgw wl_X1 (hgw _ win_X1)
  obtain ⟨c2, i2, k2⟩ := u_known (C := RX2) (T := TX2) (N := 3) (n := 3) hgw wl_X2 (hgw _ win_X2)
  obtain ⟨c3, i3, k3⟩ := u_known (C := RX3) (T := TX3) (N := 6) (n := 6) hgw wl_X3 (hgw _ win_X3)
  obtain ⟨c4, i4, k4⟩ := u_known (C := RX4) (T := TX4) (N := 5) (n := 5) hgw wl_X4 (hgw _ win_X4)
  obtain ⟨c5, i5, k5⟩ := u_known (C := RX5) (T := TX5) (N := 14) (n := 14) hgw wl_X5 (hgw _ win_X5)
  obtain ⟨c6, i6, k6⟩ := u_known (C := RX6) (T := TX6) (N := 10) (n := 10) hgw wl_X6 (hgw _ win_X6)
  obtain ⟨c7, i7, k7⟩ := u_known (C := RX7) (T := TX7) (N := 38) (n := 38) hgw wl_X7 (hgw _ win_X7)
  obtain ⟨a0, f0, g0⟩ := ar_of (args := args) (s := s) (ty := .int) (hts _ (lw_t1 86 rfl))
  obtain ⟨a1, f1, g1⟩ := ar_of (args := args) (s := s) (ty := .long) (hts _ (lw_t1 135 rfl))
  have o2 : (Cond.arrayOver (.array .int)).before args s = true := (hts _ (lw_t5 40 rfl))
  have o3 : (Cond.arrayOver (.array .long)).before args s = true := (hts _ (lw_t1 120 rfl))
  obtain ⟨a2, f2, g2⟩ := ao_of o2
  obtain ⟨a3, f3, g3⟩ := ao_of o3
  obtain ⟨t, ht, hT⟩ := va_Tof (args := args) (s := s) (tm := .static "TwoWidths" "ABOVE" "[I") (ty := .int) (N := 6) (f := abF) (A := A) (by decide) (hs _ (by decide +kernel)) (va_eqt (hs _ (by decide +kernel))) (fun j hj => match j, hj with | 0, _ => va_eqt (hs _ (by decide +kernel)) | 1, _ => va_eqt (hs _ (by decide +kernel)) | 2, _ => va_eqt (hs _ (by decide +kernel)) | 3, _ => va_eqt (hs _ (by decide +kernel)) | 4, _ => va_eqt (hs _ (by decide +kernel)) | 5, _ => va_eqt (hs _ (by decide +kernel)) | j + 6, hj => absurd hj (by omega)) hA
  obtain ⟨ad, had⟩ := Classical.axiomOfChoice (st_all hs hts hA)
  refine ⟨((fun c => match c with | 0 => c0 | 1 => c1 | 2 => c2 | 3 => c3 | 4 => c4 | 5 => c5 | 6 => c6 | _ => c7, fun c => match c with | 0 => i0 | 1 => i1 | 2 => i2 | 3 => i3 | 4 => i4 | 5 => i5 | 6 => i6 | _ => i7), (fun k => match k with | 0 => a0 | 1 => a1 | 2 => a2 | _ => a3), t, fun i => (ad i).1, fun i => (ad i).2), ⟨fun c q hq => ?_, fun k q hq => ?_⟩, fun w hw => ?_, va_AOA.of o2, va_AOA.of o3, va_Zof (hts _ (lw_t2 120 rfl)) (hts _ (lw_t1 1 rfl)) ht hA, hT, va_Zof (hts _ (lw_t3 12 rfl)) (hts _ (lw_t1 11 rfl)) (va_eqi (hs _ (by decide +kernel))) hA, va_Zqof (hts _ (lw_t3 28 rfl)) (hts _ (lw_t1 13 rfl)) (hs _ (by decide +kernel)) hA, fun i q hq => had i q hq⟩
  · match c, hq with
    | 0, hq => cases hq; exact k0
    | 1, hq => cases hq; exact k1
    | 2, hq => cases hq; exact k2
    | 3, hq => cases hq; exact k3
    | 4, hq => cases hq; exact k4
    | 5, hq => cases hq; exact k5
    | 6, hq => cases hq; exact k6
    | 7, hq => cases hq; exact k7
    | c + 8, hq => cases hq
  · match k, hq with
    | 0, hq => cases hq; exact ⟨g0, f0⟩
    | 1, hq => cases hq; exact ⟨g1, f1⟩
    | 2, hq => cases hq; exact ⟨g2, f2⟩
    | 3, hq => cases hq; exact ⟨g3, f3⟩
    | k + 4, hq => cases hq
  · obtain ⟨a, i, x, z, rfl⟩ := nestW_one w hw
    exact va_Nw.of rfl (hts _ (List.mem_filter.mp hw).1)
end LW
/-! THE CLAIM OUT OF ONE WALK OF THE LAW'S BODY. Your part is whole_start (and what it stands on); all else here is the same for every law, but numbers. -/
def R_law : String := "TwoWidthsLaw"
def lw_P (b : Addr) (xs : List Int32) (args : Array Value) (s : State) : Prop := args = #[.ref b] ∧ s.IntsAt b xs ∧ xs.length ≤ 3584 ∧ (Jvm.Cond.and given_1 narrow_1).before args s = true
def lw_Q (_ : Array Value) (s : State) (o : Outcome) (t : State) : Prop := o = .returned (some (.int 1)) ∧ Framed s o t [] 600000 7302250
def lw_Z (below : List Frame) (a : Array Value) (s : State) : State → Prop := fun t => ∃ o, t.status = .running ∧ Ended t below o ∧ lw_Q a s o t
/-- the law's own end, with 1 on the stack, nothing written that was there before, its room as the claim has it -/
theorem lw_ret {p : Program} {l : Launch} {e : Env} {s : State} {m : MethodId} {below : List Frame} {meth : Method} {c : Code} {b : Nat} (hx : p.tables.exec = Jvm.exec) (hb : c.code = code) (hr : meth.sig.returnType = ret) (hlocks : meth.locks = false) {pc : Nat} {H : Heap} {ls : Array Slot} (hdg : decode code pc = .ok (.ireturn, 1)) : W p l e room_1 s m #[Value.ref b] below meth c H [] 600000 7302250 (lw_Z below #[Value.ref b] s) (F0 m pc ls [.int 1]) := by
  intro T hT X
  obtain ⟨fs, hret, hrun, hended, hW, hframe⟩ := X.leave (v := some (.int 1)) (hlocks := hlocks) (fun h => by rw [hr] at h; cases h)
  have hmeth' : T.vm.method? m = some meth := X.method'
  refine ⟨T.setFrames fs, ?_, .returned (some (.int 1)), hrun, hended, rfl, ⟨_, rfl⟩, hW, hframe⟩
  jvm_step X.here [X.here.top, hx, hb, hdg, hmeth', hr, ret, narrow_b1]
  (try refine ⟨rfl, ?_⟩); (try refine ⟨rfl, ?_⟩)
  first | (intro acts; rw [hret _ acts rfl rfl rfl]) | rw [hret _ _ rfl rfl rfl]
  exact Steps.refl _
/-- what holds at the law's entry: the machine, the code, the tables' words (any of lw_tbl by 'hts w (by decide +kernel)'), the script of L ints xs at the cell b, what the Statement gives of the start (any of its parts by flat_of_before) -/
def lw_At (p : Program) (s : State) (m : MethodId) (meth : Method) (c : Code) (b L : Nat) (xs : Nat → Int32) : Prop :=
  p.tables.exec = Jvm.exec ∧ c.code = code ∧ meth.sig.returnType = ret ∧ c.maxLocals = 4 ∧ s.vm.findClass R_law = some m.cls ∧ (∀ w ∈ lw_tbl, w.before #[Value.ref b] s = true) ∧ va_X b L xs s s.heap ∧ b < s.heap.size ∧ meth.locks = false ∧ (Jvm.Cond.and given_1 narrow_1).before #[Value.ref b] s = true
end
section
def wX_0 (d : DT) (h : Nat → Nat) (a_traffic : Nat) (a_after : Nat) (a_trial : Nat)  (Z : ChT) : va_W := gCh d h a_traffic a_after a_trial  Z
def wX_1 (d : DT) (h : Nat → Nat)   (Z : LdT) : va_W := gLd d h   Z.1 Z.2.1 Z.2.2.1 Z.2.2.2.1 Z.2.2.2.2.1 Z.2.2.2.2.2.1 Z.2.2.2.2.2.2.1 Z.2.2.2.2.2.2.2.1 Z.2.2.2.2.2.2.2.2.1 Z.2.2.2.2.2.2.2.2.2.1 Z.2.2.2.2.2.2.2.2.2.2
def wX_2 (d : DT) (h : Nat → Nat)  (r_elements : Nat → Nat) (Z : ShT) : va_W := gSh d h  r_elements Z.2.1 Z.2.2
def wG_2_elements (d : DT) (r : Nat → Nat) (Z : ShT) : va_W := gridJ d r 8 40 (Z.1)
def wX_3 (d : DT) (h : Nat → Nat)   (Z : TpT) : va_W := gTp d h   Z.1 Z.2.1 Z.2.2.1 Z.2.2.2.1 Z.2.2.2.2.1 Z.2.2.2.2.2
def wX_4 (d : DT) (h : Nat → Nat) (a_ways : Nat)  (Z : TrT) : va_W := gTr d h a_ways  Z.1 Z.2.1 Z.2.2.1 Z.2.2.2
def wX_5 (d : DT) (h : Nat → Nat)   (Z : WyT) : va_W := gWy d h   Z.1 Z.2.1 Z.2.2.1 Z.2.2.2.1 Z.2.2.2.2.1 Z.2.2.2.2.2.1 Z.2.2.2.2.2.2.1 Z.2.2.2.2.2.2.2.1 Z.2.2.2.2.2.2.2.2.1 Z.2.2.2.2.2.2.2.2.2.1 Z.2.2.2.2.2.2.2.2.2.2.1 Z.2.2.2.2.2.2.2.2.2.2.2.1 Z.2.2.2.2.2.2.2.2.2.2.2.2.1 Z.2.2.2.2.2.2.2.2.2.2.2.2.2
def wX_6 (d : DT) (h : Nat → Nat) (a_state : Nat) (a_kept : Nat) (a_tape : Nat) (a_shelves : Nat) (a_choice : Nat) (a_traffic : Nat)  (Z : TwT) : va_W := gTw d h a_state a_kept a_tape a_shelves a_choice a_traffic  Z.1 Z.2.1 Z.2.2.1 Z.2.2.2
def wX_7 (d : DT) (h : Nat → Nat) (a_kept : Option Nat) (a_tried : Option Nat) (a_chosen : Option Nat) (r_rows : Nat → Nat) (r_line : Nat → Nat) (r_good : Nat → Nat) (r_work : Nat → Nat) (Z : MdT) : va_W := gMd d h a_kept a_tried a_chosen r_rows r_line r_good r_work Z.1 Z.2.1 Z.2.2.1 Z.2.2.2.2.1 Z.2.2.2.2.2.1 Z.2.2.2.2.2.2.1 Z.2.2.2.2.2.2.2.1 Z.2.2.2.2.2.2.2.2.1 Z.2.2.2.2.2.2.2.2.2.1 Z.2.2.2.2.2.2.2.2.2.2.2.1 Z.2.2.2.2.2.2.2.2.2.2.2.2.1 Z.2.2.2.2.2.2.2.2.2.2.2.2.2.1 Z.2.2.2.2.2.2.2.2.2.2.2.2.2.2.2.1 Z.2.2.2.2.2.2.2.2.2.2.2.2.2.2.2.2.2.1 Z.2.2.2.2.2.2.2.2.2.2.2.2.2.2.2.2.2.2.1 Z.2.2.2.2.2.2.2.2.2.2.2.2.2.2.2.2.2.2.2.1 Z.2.2.2.2.2.2.2.2.2.2.2.2.2.2.2.2.2.2.2.2.1 Z.2.2.2.2.2.2.2.2.2.2.2.2.2.2.2.2.2.2.2.2.2.1 Z.2.2.2.2.2.2.2.2.2.2.2.2.2.2.2.2.2.2.2.2.2.2.1 Z.2.2.2.2.2.2.2.2.2.2.2.2.2.2.2.2.2.2.2.2.2.2.2.1 Z.2.2.2.2.2.2.2.2.2.2.2.2.2.2.2.2.2.2.2.2.2.2.2.2.1 Z.2.2.2.2.2.2.2.2.2.2.2.2.2.2.2.2.2.2.2.2.2.2.2.2.2.1 Z.2.2.2.2.2.2.2.2.2.2.2.2.2.2.2.2.2.2.2.2.2.2.2.2.2.2.1 Z.2.2.2.2.2.2.2.2.2.2.2.2.2.2.2.2.2.2.2.2.2.2.2.2.2.2.2.1 Z.2.2.2.2.2.2.2.2.2.2.2.2.2.2.2.2.2.2.2.2.2.2.2.2.2.2.2.2.1 Z.2.2.2.2.2.2.2.2.2.2.2.2.2.2.2.2.2.2.2.2.2.2.2.2.2.2.2.2.2.1 Z.2.2.2.2.2.2.2.2.2.2.2.2.2.2.2.2.2.2.2.2.2.2.2.2.2.2.2.2.2.2.1 Z.2.2.2.2.2.2.2.2.2.2.2.2.2.2.2.2.2.2.2.2.2.2.2.2.2.2.2.2.2.2.2.1 Z.2.2.2.2.2.2.2.2.2.2.2.2.2.2.2.2.2.2.2.2.2.2.2.2.2.2.2.2.2.2.2.2.1 Z.2.2.2.2.2.2.2.2.2.2.2.2.2.2.2.2.2.2.2.2.2.2.2.2.2.2.2.2.2.2.2.2.2.1 Z.2.2.2.2.2.2.2.2.2.2.2.2.2.2.2.2.2.2.2.2.2.2.2.2.2.2.2.2.2.2.2.2.2.2
def wG_7_rows (d : DT) (r : Nat → Nat) (Z : MdT) : va_W := gridJ d r 8 40 (Z.2.2.2.1)
def wG_7_line (d : DT) (r : Nat → Nat) (Z : MdT) : va_W := gridI d r 20 7 (Z.2.2.2.2.2.2.2.2.2.2.1)
def wG_7_good (d : DT) (r : Nat → Nat) (Z : MdT) : va_W := gridI d r 8 3 (Z.2.2.2.2.2.2.2.2.2.2.2.2.2.2.1)
def wG_7_work (d : DT) (r : Nat → Nat) (Z : MdT) : va_W := gridI d r 7 5 (Z.2.2.2.2.2.2.2.2.2.2.2.2.2.2.2.2.1)
def oT (d : DT) (q : Option AdM) (a b c : Option Nat) (Z : MdT) : va_W := oMd d q a b c (Z.1) (Z.2.1) (Z.2.2.1) (Z.2.2.2.1) (Z.2.2.2.2.1) (Z.2.2.2.2.2.1) (Z.2.2.2.2.2.2.1) (Z.2.2.2.2.2.2.2.1) (Z.2.2.2.2.2.2.2.2.1) (Z.2.2.2.2.2.2.2.2.2.1) (Z.2.2.2.2.2.2.2.2.2.2.1) (Z.2.2.2.2.2.2.2.2.2.2.2.1) (Z.2.2.2.2.2.2.2.2.2.2.2.2.1) (Z.2.2.2.2.2.2.2.2.2.2.2.2.2.1) (Z.2.2.2.2.2.2.2.2.2.2.2.2.2.2.1) (Z.2.2.2.2.2.2.2.2.2.2.2.2.2.2.2.1) (Z.2.2.2.2.2.2.2.2.2.2.2.2.2.2.2.2.1) (Z.2.2.2.2.2.2.2.2.2.2.2.2.2.2.2.2.2.1) (Z.2.2.2.2.2.2.2.2.2.2.2.2.2.2.2.2.2.2.1) (Z.2.2.2.2.2.2.2.2.2.2.2.2.2.2.2.2.2.2.2.1) (Z.2.2.2.2.2.2.2.2.2.2.2.2.2.2.2.2.2.2.2.2.1) (Z.2.2.2.2.2.2.2.2.2.2.2.2.2.2.2.2.2.2.2.2.2.1) (Z.2.2.2.2.2.2.2.2.2.2.2.2.2.2.2.2.2.2.2.2.2.2.1) (Z.2.2.2.2.2.2.2.2.2.2.2.2.2.2.2.2.2.2.2.2.2.2.2.1) (Z.2.2.2.2.2.2.2.2.2.2.2.2.2.2.2.2.2.2.2.2.2.2.2.2.1) (Z.2.2.2.2.2.2.2.2.2.2.2.2.2.2.2.2.2.2.2.2.2.2.2.2.2.1) (Z.2.2.2.2.2.2.2.2.2.2.2.2.2.2.2.2.2.2.2.2.2.2.2.2.2.2.1) (Z.2.2.2.2.2.2.2.2.2.2.2.2.2.2.2.2.2.2.2.2.2.2.2.2.2.2.2.1) (Z.2.2.2.2.2.2.2.2.2.2.2.2.2.2.2.2.2.2.2.2.2.2.2.2.2.2.2.2.1) (Z.2.2.2.2.2.2.2.2.2.2.2.2.2.2.2.2.2.2.2.2.2.2.2.2.2.2.2.2.2.1) (Z.2.2.2.2.2.2.2.2.2.2.2.2.2.2.2.2.2.2.2.2.2.2.2.2.2.2.2.2.2.2.1) (Z.2.2.2.2.2.2.2.2.2.2.2.2.2.2.2.2.2.2.2.2.2.2.2.2.2.2.2.2.2.2.2.1) (Z.2.2.2.2.2.2.2.2.2.2.2.2.2.2.2.2.2.2.2.2.2.2.2.2.2.2.2.2.2.2.2.2.1) (Z.2.2.2.2.2.2.2.2.2.2.2.2.2.2.2.2.2.2.2.2.2.2.2.2.2.2.2.2.2.2.2.2.2.1) (Z.2.2.2.2.2.2.2.2.2.2.2.2.2.2.2.2.2.2.2.2.2.2.2.2.2.2.2.2.2.2.2.2.2.2)
theorem J_pop2 {d : DT} {Φ : JC} {own nm : String} {cc : ByteArray} {nL : Nat} {ret : Option FieldType} {rm : Room} {gs : List va_W} {ce sl pc n : Nat} {L : List (Nat × Value)} {st : List Value} (hK : Ok d Φ own nm cc nL ret rm) {v : Value} (hd : decode cc pc = .ok (.pop2, 1)) (hn : pc + 1 = n) (hv : v.category = 2) (k : J d Φ nL gs ce sl n L (st)) : J d Φ nL gs ce sl pc L (v :: st) := by
  subst hn
  exact fun H locs ls hP hD hS hl => lv_pop2_2 hK.1 hK.2.1 hd hv (k H locs ls hP hD hS hl)
theorem room_ok {ce : Nat} (h : ce + 300 ≤ 600000) : ce + 0 ≤ room_1.cells := by show ce + 0 ≤ 600000; omega
theorem room_ok2 {sl : Nat} (h : sl + 5000 ≤ 7302250) : sl + 0 ≤ room_1.slots := by show sl + 0 ≤ 7302250; omega
theorem room_k {ce : Nat} (c : Nat) (h : ce + 300 ≤ 600000) (hc : c ≤ 300) : ce + c ≤ room_1.cells := by show ce + c ≤ 600000; omega
theorem room_k2 {sl : Nat} (c : Nat) (h : sl + 5000 ≤ 7302250) (hc : c ≤ 5000) : sl + c ≤ room_1.slots := by show sl + c ≤ 7302250; omega
theorem lgc_self (a : Int64) : lg_cmp a a = 0 := by unfold lg_cmp; simp
theorem M0_inj {y_shelf : (Nat → Int32)} {y_rowSort : (Nat → Int32)} {y_rowSize : (Nat → Int32)} {y_rows : (Nat → Nat → Int64)} {y_moved : (Nat → Int64)} {y_shown : (Nat → Int32)} {y_tape : (Nat → Int32)} {y_tapeSize : Int32} {y_refused : (Nat → Int32)} {y_lines : Int32} {y_line : (Nat → Nat → Int32)} {y_changes : (Nat → Int32)} {y_coins : (Nat → Int32)} {y_goods : Int32} {y_good : (Nat → Nat → Int32)} {y_works : Int32} {y_work : (Nat → Nat → Int32)} {y_years : Int32} {y_gone : Int32} {y_spent : Int32} {y_at : Int32} {y_token : Int32} {y_from : Int32} {y_figures : Int64} {y_fault : Int32} {y_numbers : (Nat → Int32)} {y_statements : Int32} {y_left : (Nat → Int32)} {y_far : (Nat → Int32)} {y_tons : Int32} {y_way : (Nat → Int32)} {y_steps : Int32} {y_met : Int64} {y_queue : (Nat → Int32)} {y_totals : (Nat → Int32)} (h : (y_shelf, y_rowSort, y_rowSize, y_rows, y_moved, y_shown, y_tape, y_tapeSize, y_refused, y_lines, y_line, y_changes, y_coins, y_goods, y_good, y_works, y_work, y_years, y_gone, y_spent, y_at, y_token, y_from, y_figures, y_fault, y_numbers, y_statements, y_left, y_far, y_tons, y_way, y_steps, y_met, y_queue, y_totals) = M0) : y_shelf = (fun _ => 0) ∧ y_rowSort = (fun _ => 0) ∧ y_rowSize = (fun _ => 0) ∧ y_rows = (fun _ _ => 0) ∧ y_moved = (fun _ => 0) ∧ y_shown = (fun _ => 0) ∧ y_tape = (fun _ => 0) ∧ y_tapeSize = 0 ∧ y_refused = (fun _ => 0) ∧ y_lines = 0 ∧ y_line = (fun _ _ => 0) ∧ y_changes = (fillV 12 9 (fun _ => 0)) ∧ y_coins = (va_up (va_up (va_up (fun _ => 0) 0 1) 1 1) 2 1) ∧ y_goods = 0 ∧ y_good = (fun _ _ => 0) ∧ y_works = 0 ∧ y_work = (fun _ _ => 0) ∧ y_years = 10 ∧ y_gone = 0 ∧ y_spent = 0 ∧ y_at = 0 ∧ y_token = 0 ∧ y_from = 0 ∧ y_figures = 0 ∧ y_fault = 0 ∧ y_numbers = (fun _ => 0) ∧ y_statements = 0 ∧ y_left = (fun _ => 0) ∧ y_far = (fun _ => 0) ∧ y_tons = 0 ∧ y_way = (fun _ => 0) ∧ y_steps = 0 ∧ y_met = 0 ∧ y_queue = (fun _ => 0) ∧ y_totals = (fun _ => 0) := by
  unfold M0 at h
  simpa only [Prod.mk.injEq] using h
theorem fl_drop : ∀ (gs : List va_W) (i : Nat), gs[i]? = some [] → gs.flatten = (gs.eraseIdx i).flatten := by
  intro gs
  induction gs with
  | nil => intro i h; cases h
  | cons a as ih =>
    intro i h
    cases i with
    | zero =>
      have e : a = [] := Option.some.inj h
      subst e
      rfl
    | succ i =>
      have q := ih i h
      show a ++ as.flatten = a ++ (as.eraseIdx i).flatten
      rw [q]
theorem J_drop {d : DT} {Φ : JC} {nL ce sl pc : Nat} {L : List (Nat × Value)} {st : List Value} {gs gs2 : List va_W} (i : Nat) (h1 : gs[i]? = some []) (h2 : gs.eraseIdx i = gs2) (k : J d Φ nL gs2 ce sl pc L st) : J d Φ nL gs ce sl pc L st := J_fl (by rw [fl_drop gs i h1, h2]) k
theorem J_more {d : DT} {Φ : JC} {nL ce sl pc : Nat} {L : List (Nat × Value)} {st : List Value} {gs gs2 : List va_W} {s : va_W} (h1 : s = []) (h2 : gs ++ [s] = gs2) (k : J d Φ nL gs2 ce sl pc L st) : J d Φ nL gs ce sl pc L st := J_fl (by rw [← h2, h1]; simp) k
end

section BD
variable {d : DT} {Φ : JC} {own nm : String} {cc : ByteArray} {nL : Nat} {ret : Option FieldType} {rm : Room} {gs : List va_W} {ce sl pc n : Nat} {L : List (Nat × Value)} {st : List Value}
theorem J_coreD (hK : Ok d Φ own nm cc nL ret rm) {rm' : Room} {av : List Value} {gc gr : List va_W} {S : Type} {post : S → Option Value × List va_W} {st0 : List Value} {m : Nat} (isC isR : List Nat) (hn : gs.length = m) (hp : (isR ++ isC).isPerm (List.range m) = true) (hC : isC.map (fun i => gs[i]?) = gc.map some) (hR : isR.map (fun i => gs[i]?) = gr.map some)
    (hrun : ∀ (H : Heap) (locs : List Loc) (ls : Array Slot), va_P d.1 vwCl gs.flatten H → va_S Φ.2.2.2.2.2.2.2.2.2.2.1 Φ.2.2.2.2.1.heap H locs → lv_has ls nL L → PreS Φ.2.2.2.2.1 H (Pre d av gc H.size) av → va_Run Φ.1 Φ.2.1 Φ.2.2.1 Φ.2.2.2.1 Φ.2.2.2.2.1 Φ.2.2.2.2.2.1 Φ.2.2.2.2.2.2.1 Φ.2.2.2.2.2.2.2.1 Φ.2.2.2.2.2.2.2.2.1 Φ.2.2.2.2.2.2.2.2.2.1 H locs ce sl rm'.cells rm'.slots (F0 Φ.2.2.2.2.2.1 pc ls st0) st (Pst d post (va_A gc.flatten H.size) av.toArray) (va_A gc.flatten H.size))
    {v : Value} (hv : ∀ u, (post u).1 = some v)
    (kk : J d Φ nL gr (ce + rm'.cells) (sl + rm'.slots) (pc + 3) L (v :: st)) : J d Φ nL gs ce sl pc L st0 := by
  intro H locs ls hP hD hS hl
  have hpm : gs.Perm (gr ++ gc) := perm_pick (isR ++ isC) hn hp (by rw [List.map_append, List.map_append, hR, hC])
  have hpf : gs.flatten.Perm (gr.flatten ++ gc.flatten) := by rw [← List.flatten_append]; exact hpm.flatten
  have hP2 := va_P_perm hpf hP
  have hD2 := va_D_perm hpf hD
  have hPc : va_P d.1 vwCl gc.flatten H := va_P_iff.mpr fun q hq => va_P_iff.mp hP2 q (List.mem_append_right _ hq)
  have hD2' := va_D_iff.mp hD2
  have hDc : va_D (fun _ => True) gc.flatten := va_D_iff.mpr ⟨by have := hD2'.1; rw [List.map_append, List.nodup_append] at this; exact this.2.1, fun _ _ => trivial⟩
  have hF : ∀ q, va_A gc.flatten H.size q → Φ.2.2.2.2.2.2.2.2.2.2.1 q := by
    intro q hq
    rcases hq with ⟨k, e, hq⟩ | hq
    · exact hD2'.2 (q, e) (List.mem_append_right _ (List.mem_of_getElem? hq))
    · exact hK.2.2.2.2.2.2.2.2.2.1 q (Nat.le_trans hS.1 hq)
  have hG0 : Gl d (va_A gc.flatten H.size) Φ.2.2.2.2.1 H := (hK.2.2.2.2.2.2.2.2.2.2.kept hS.2.1).narrow hF
  refine run_go (hrun H locs ls hP hS hl ⟨Pre_blind, fun U hU hW => ?_⟩) hS (fun q _ h => hF q h) hF (fun u H1 locs1 g1 g2 g3 g4 => ?_)
  · subst hU
    exact ⟨rfl, rfl, hPc, hDc, hG0.warm hW⟩
  · obtain ⟨j1, j2⟩ := frame_join hP2 hD2 g3 hF g1 g2
    have hsb : gr.flatten.Sublist (gr.flatten ++ (post u).2.flatten) := List.sublist_append_left _ _
    have j2' := va_D_iff.mp j2
    have := kk H1 locs1 ls (va_P_iff.mpr fun q hq => va_P_iff.mp j1 q (hsb.subset hq)) (va_D_iff.mpr ⟨j2'.1.sublist (hsb.map Prod.fst), fun q hq => j2'.2 q (hsb.subset hq)⟩) g4 hl
    rw [hv u]
    exact this
theorem J_callVd (hK : Ok d Φ own nm cc nL ret rm) {ix na mL : Nat} {y : MethodName} {cc' : ByteArray} {rt : Option FieldType} {rm' : Room} (hd : decode cc pc = .ok (.invokevirtual ix, 3)) (hcv : CV own ix y cc' mL rt na) (hiv : Cond.instanceMethod y ∈ gW ∧ Cond.selects y.cls y y ∈ gW) {b : Nat} {As : List Value} {gc gr : List va_W} {S : Type} {post : S → Option Value × List va_W} (hct : Ct Φ.2.1 d y cc' mL rt rm' (.ref b :: As) gc post) {v : Value} (hv : ∀ u, (post u).1 = some v)
    {st0 : List Value} (hst : st0 = As.reverse ++ .ref b :: st) (hna : As.length = na) (hroom : (st.map fun v => v.category).sum ≤ 8) (hrm : (rm'.frames + 1 ≤ rm.frames ∧ 8 + (mL + 11) + rm'.locals ≤ rm.locals) ∧ ce + rm'.cells ≤ rm.cells ∧ sl + rm'.slots ≤ rm.slots) (i j : Nat) {g : va_W} (hi : gs[i]? = some g) {ci : Nat} {fs : List Value} (hj : g[j]? = some (b, .inr (ci, fs))) {T : u_T} {N : Nat} (hci : vwCl[ci]? = some (y.cls, T, N))
    {m : Nat} (isC isR : List Nat) (hn : gs.length = m) (hp : (isR ++ isC).isPerm (List.range m) = true) (hC : isC.map (fun i => gs[i]?) = gc.map some) (hR : isR.map (fun i => gs[i]?) = gr.map some)
    {ce' sl' : Nat} (hce : ce + rm'.cells = ce') (hsl : sl + rm'.slots = sl') (hpc : pc + 3 = n) (kk : J d Φ nL gr ce' sl' n L (v :: st)) : J d Φ nL gs ce sl pc L st0 := by
  subst hst; subst hce; subst hsl; subst hpc
  refine J_coreD (av := (.ref b :: As)) (rm' := rm') (st := st) hK isC isR hn hp hC hR (fun H locs ls hP hS hl hpre => ?_) hv kk
  obtain ⟨q, hq, -⟩ := fl_at hi hj
  have hRm := hK.2.2.2.2.2.1
  exact va_runV (C := y.cls) ⟨hK.1, hK.2.1, hK.2.2.1, hK.2.2.2.1, hK.2.2.2.2.1⟩ (hct H.size) ⟨hcv.B hK.2.2.2.2.1 (by rw [hRm]; exact hrm.1), hK.2.2.2.2.1 _ hiv.1, hK.2.2.2.2.1 _ hiv.2⟩ ⟨hpre.1, va_recv hK.2.2.2.2.2.2.2.2.2.2.1 hP hci hq, hpre.2⟩ rfl hna hl.1 rfl (lv_room hroom) hd (by rw [hRm]; exact hrm.2)
/-- the law's own script: outside the world, never written -/
def Scr (Φ : JC) (b N : Nat) (xs : Nat → Int32) : Prop := va_X b N xs Φ.2.2.2.2.1 Φ.2.2.2.2.1.heap ∧ b < Φ.2.2.2.2.1.heap.size ∧ ¬ Φ.2.2.2.2.2.2.2.2.2.2.1 b
theorem J_sld (hK : Ok d Φ own nm cc nL ret rm) {b N : Nat} {xs : Nat → Int32} (hX : Scr Φ b N xs) (hd : decode cc pc = .ok (.iaload, 1)) (hn : pc + 1 = n) {i v : Int32} (hr : rd N xs i = some v) (kk : J d Φ nL gs ce sl n L (.int v :: st)) : J d Φ nL gs ce sl pc L (.int i :: .ref b :: st) := by
  subst hn
  intro H locs ls hP hD hS hl
  obtain ⟨h1, rfl⟩ := rd_ok hr
  exact va_sld hK.1 hK.2.1 hX.1 hX.2.1 hX.2.2 hS (inb_vp h1) hd (kk H locs ls hP hD hS hl)
theorem J_slen (hK : Ok d Φ own nm cc nL ret rm) {b N : Nat} {xs : Nat → Int32} (hX : Scr Φ b N xs) (hd : decode cc pc = .ok (.arraylength, 1)) (hn : pc + 1 = n) (kk : J d Φ nL gs ce sl n L (.int (Int32.ofNat N) :: st)) : J d Φ nL gs ce sl pc L (.ref b :: st) := by
  subst hn
  intro H locs ls hP hD hS hl
  exact va_slen hK.1 hK.2.1 hX.1 hX.2.1 hX.2.2 hS hd (kk H locs ls hP hD hS hl)
end BD
/-! what the statement gives of the start: tables, constants -/
theorem sK_of {args : Array Value} {s : State} {A : Nat → Prop} {t : Term} {bs : List Int32} (hN : bs.length < 2 ^ 31) (hex : (Cond.exactly t "java/lang/String").before args s = true) (hco : (Cond.eq (.field t "java/lang/String" "coder" "B") (.int 0)).before args s = true)
    (har : (Cond.arrayOf (.field t "java/lang/String" "value" "[B") .byte).before args s = true) (hle : (Cond.eq (.length (.field t "java/lang/String" "value" "[B")) (.int (Int32.ofNat bs.length))).before args s = true)
    (hel : ∀ j : Nat, j < bs.length → (Cond.eq (.elem (.field t "java/lang/String" "value" "[B") (.int (Int32.ofNat j))) (.int (bs.getD j 0))).before args s = true) (hA : ∀ a : Nat, a < s.heap.size → ¬ A a) :
    ∃ q : Nat × Nat, t.eval args s none [] s = some (.ref q.1) ∧ va_O "java/lang/String" q.1 A s s.heap ∧ va_OF "java/lang/String" "coder" "B" (.int 0) q.1 A s s.heap ∧ va_OF "java/lang/String" "value" "[B" (.ref q.2) q.1 A s s.heap ∧ va_T .byte q.2 bs.length (sByte bs) A s s.heap := by
  obtain ⟨a, c, cA, kA, q1, q2, q3, q4, q5, q6, -⟩ := Cond.exactly_spec (args := args) (first := s) (o := none) (s := s) (idx := []) (t := t) (cls := "java/lang/String") hex
  obtain ⟨t', ht, hT⟩ := va_Tof (f := sByte bs) (A := A) hN har (va_eqt hle) (fun j hj => va_eqt (hel j hj)) hA
  exact ⟨(a, t'), q1, ⟨cA, q3, q5, by rw [q6]; exact q2, hA a (Array.getElem?_eq_some_iff.mp q3).1⟩, vk_OFof q1 (va_eqt hco) hA, vk_OFof q1 ht hA, hT⟩
theorem ar_of {args : Array Value} {s : State} {ty : FieldType} (h : (Cond.arrayClass ty).before args s = true) : ∃ c, s.vm.findClass ("[" ++ ty.toString) = some c ∧ ArrOfT s c ty := by
  obtain ⟨c, k, comp, h1, h2, h3⟩ := Cond.arrayClass_spec h
  exact ⟨c, h1, fun N z => ⟨(fun k h => by cases h), k, h2, comp, h3⟩⟩
theorem ao_of {args : Array Value} {s : State} {ty : FieldType} (h : (Cond.arrayOver (.array ty)).before args s = true) : ∃ c, s.vm.findClass ("[" ++ (FieldType.array ty).toString) = some c ∧ ArrOfT s c (.array ty) := by
  have h0 := h
  unfold Cond.before at h0
  simp only [Cond.holds, Cond.value, beq_iff_eq] at h0
  cases hc : s.vm.findClass (FieldType.array ty).toString with
  | none => simp [hc] at h0
  | some comp =>
    simp only [hc, Option.bind_some, Option.bind_eq_some_iff, Option.map_eq_some_iff] at h0
    obtain ⟨c, hi, k, hk, hb⟩ := h0
    cases hkind : k.kind with
    | array component ty2 =>
      rw [hkind] at hb
      simp at hb
      exact ⟨c, hb.2, fun N z => ⟨(fun k h => by cases h), k, hk, component, by rw [hkind, hb.1]⟩⟩
    | _ => rw [hkind] at hb; simp at hb


/-! calls, returns -/
section BC
variable {d : DT} {Φ : JC} {own nm : String} {cc : ByteArray} {nL : Nat} {ret : Option FieldType} {rm : Room} {gs : List va_W} {ce sl pc n : Nat} {L : List (Nat × Value)} {st : List Value}
theorem Pre_blind {d : DT} {av : List Value} {gs : List va_W} {sz : Nat} : FrameBlind (Pre d av gs sz) := fun a U g mk h => by
  obtain ⟨h0, h1, h2, h3, h4⟩ := h
  exact ⟨h0, h1, h2, h3, Gl.same (u := U) (U := U.calling g mk a) rfl h4⟩
theorem run_go {p : Program} {l : Launch} {e : Env} {R : Room} {s : State} {m : MethodId} {args : Array Value} {below : List Frame} {meth : Method} {c : Code} {H : Heap} {locs : List Loc} {cells slots mc ms pc : Nat} {ls : Array Slot} {st0 rest : List Value} {Q : State → Prop} {S : Type} {post : S → Option Value × List va_W} {A0 A1 : Nat → Prop} {H0 : Heap} {free : Addr → Prop} {a : Array Value}
    (hr : va_Run p l e R s m args below meth c H locs cells slots mc ms (F0 m pc ls st0) rest (Pst d post A1 a) free) (hS : va_S A0 H0 H locs) (hA : ∀ q, q < H.size → A1 q → A0 q) (hf : ∀ q, free q → A0 q)
    (kk : ∀ (u : S) (H1 : Heap) (locs1 : List Loc), va_P d.1 vwCl (post u).2.flatten H1 → va_D A1 (post u).2.flatten → (∀ q : Nat, q < H.size → ¬ A1 q → H1[q]? = H[q]?) → va_S A0 H0 H1 locs1 → W p l e R s m args below meth c H1 locs1 (cells + mc) (slots + ms) Q (F0 m (pc + 3) ls ((post u).1.toList ++ rest))) : W p l e R s m args below meth c H locs cells slots Q (F0 m pc ls st0) := by
  intro T hT X
  obtain ⟨v, st₀, t, T', LL, h0, X', hL, e1, e2, ⟨⟨u, hv, hp, hd⟩, hz, hk⟩, st⟩ := hr T hT X
  cases hv
  rw [h0] at hz hk
  obtain ⟨t2, a1, b1⟩ := kk u T'.heap (locs ++ LL) (by rw [e1]; exact hp) hd (fun q h1 h2 => by rw [e1]; exact hk q h1 h2)
    ⟨Nat.le_trans hS.1 (by rw [e1]; exact hz), fun q h1 h2 => by rw [e1, hk q (Nat.lt_of_lt_of_le h1 hS.1) (fun z => h2 (hA q (Nat.lt_of_lt_of_le h1 hS.1) z))]; exact hS.2.1 q h1 h2, fun q hq => by
      rcases List.mem_append.mp hq with h | h
      · exact hS.2.2 q h
      · exact hf _ (hL q h)⟩ T' rfl X'
  exact ⟨t2, st t2 a1, b1⟩
theorem J_core (hK : Ok d Φ own nm cc nL ret rm) {rm' : Room} {av : List Value} {gc gr : List va_W} {S : Type} {post : S → Option Value × List va_W} {st0 : List Value} {m : Nat} (isC isR : List Nat) (hn : gs.length = m) (hp : (isR ++ isC).isPerm (List.range m) = true) (hC : isC.map (fun i => gs[i]?) = gc.map some) (hR : isR.map (fun i => gs[i]?) = gr.map some)
    (hrun : ∀ (H : Heap) (locs : List Loc) (ls : Array Slot), va_P d.1 vwCl gs.flatten H → va_S Φ.2.2.2.2.2.2.2.2.2.2.1 Φ.2.2.2.2.1.heap H locs → lv_has ls nL L → PreS Φ.2.2.2.2.1 H (Pre d av gc H.size) av → va_Run Φ.1 Φ.2.1 Φ.2.2.1 Φ.2.2.2.1 Φ.2.2.2.2.1 Φ.2.2.2.2.2.1 Φ.2.2.2.2.2.2.1 Φ.2.2.2.2.2.2.2.1 Φ.2.2.2.2.2.2.2.2.1 Φ.2.2.2.2.2.2.2.2.2.1 H locs ce sl rm'.cells rm'.slots (F0 Φ.2.2.2.2.2.1 pc ls st0) st (Pst d post (va_A gc.flatten H.size) av.toArray) (va_A gc.flatten H.size))
    {m' : Nat} (ks : List Nat) (hks : ks.isPerm (List.range m') = true) (hm' : ∀ u, (gr ++ (post u).2).length = m') {gs' : S → List va_W} (hG : ∀ u, ks.map (fun i => (gr ++ (post u).2)[i]?) = (gs' u).map some)
    (kk : ∀ u, J d Φ nL (gs' u) (ce + rm'.cells) (sl + rm'.slots) (pc + 3) L ((post u).1.toList ++ st)) : J d Φ nL gs ce sl pc L st0 := by
  intro H locs ls hP hD hS hl
  have hpm : gs.Perm (gr ++ gc) := perm_pick (isR ++ isC) hn hp (by rw [List.map_append, List.map_append, hR, hC])
  have hpf : gs.flatten.Perm (gr.flatten ++ gc.flatten) := by rw [← List.flatten_append]; exact hpm.flatten
  have hP2 := va_P_perm hpf hP
  have hD2 := va_D_perm hpf hD
  have hPc : va_P d.1 vwCl gc.flatten H := va_P_iff.mpr fun q hq => va_P_iff.mp hP2 q (List.mem_append_right _ hq)
  have hD2' := va_D_iff.mp hD2
  have hDc : va_D (fun _ => True) gc.flatten := va_D_iff.mpr ⟨by have := hD2'.1; rw [List.map_append, List.nodup_append] at this; exact this.2.1, fun _ _ => trivial⟩
  have hF : ∀ q, va_A gc.flatten H.size q → Φ.2.2.2.2.2.2.2.2.2.2.1 q := by
    intro q hq
    rcases hq with ⟨k, e, hq⟩ | hq
    · exact hD2'.2 (q, e) (List.mem_append_right _ (List.mem_of_getElem? hq))
    · exact hK.2.2.2.2.2.2.2.2.2.1 q (Nat.le_trans hS.1 hq)
  have hG0 : Gl d (va_A gc.flatten H.size) Φ.2.2.2.2.1 H := (hK.2.2.2.2.2.2.2.2.2.2.kept hS.2.1).narrow hF
  refine run_go (hrun H locs ls hP hS hl ⟨Pre_blind, fun U hU hW => ?_⟩) hS (fun q _ h => hF q h) hF (fun u H1 locs1 g1 g2 g3 g4 => ?_)
  · subst hU
    exact ⟨rfl, rfl, hPc, hDc, hG0.warm hW⟩
  · obtain ⟨j1, j2⟩ := frame_join hP2 hD2 g3 hF g1 g2
    have hpm2 := (perm_pick ks (hm' u) hks (hG u)).flatten
    rw [List.flatten_append] at hpm2
    exact kk u H1 locs1 ls (va_P_perm hpm2 j1) (va_D_perm hpm2 j2) g4 hl
/-- a call's words -/
def CV (own : String) (ix : Nat) (y : MethodName) (cc' : ByteArray) (mL : Nat) (rt : Option FieldType) (na : Nat) : Prop := Cond.methodLink own ix y ∈ gW ∧ Cond.code y cc' mL rt ∈ gW ∧ Cond.initialized y.cls ∈ gW ∧ (y.cls ≠ "java/lang/invoke/MethodHandle" ∧ y.cls ≠ "java/lang/invoke/VarHandle") ∧ (parseMethodDescriptor y.desc).map (fun d => d.parameters.length) = some na
theorem CV.B {R : Room} {s : State} {args : Array Value} {own : String} {ix : Nat} {y : MethodName} {cc' : ByteArray} {mL : Nat} {rt : Option FieldType} {na : Nat} {rm' : Room} (h : CV own ix y cc' mL rt na) (hts : ∀ w ∈ gW, w.before args s = true) (hR : rm'.frames + 1 ≤ R.frames ∧ 8 + (mL + 11) + rm'.locals ≤ R.locals) : CallB R s args own ix y cc' mL rt (.code y cc' mL rt :: gW) rm' rm'.cells rm'.slots na :=
  callB_of na hts (gW_good (fun w h => h) (fun w hw => by rcases List.mem_cons.mp hw with rfl | hw; exact h.2.1; exact hw)) rfl rfl rfl (hts _ h.2.2.1) (hts _ h.1) ⟨h.2.2.2.1.1, h.2.2.2.1.2, h.2.2.2.2⟩ hR
theorem J_callV (hK : Ok d Φ own nm cc nL ret rm) {ix na mL : Nat} {y : MethodName} {cc' : ByteArray} {rt : Option FieldType} {rm' : Room} (hd : decode cc pc = .ok (.invokevirtual ix, 3)) (hcv : CV own ix y cc' mL rt na) (hiv : Cond.instanceMethod y ∈ gW ∧ Cond.selects y.cls y y ∈ gW) {b : Nat} {As : List Value} {gc gr : List va_W} {S : Type} {post : S → Option Value × List va_W} (hct : Ct Φ.2.1 d y cc' mL rt rm' (.ref b :: As) gc post)
    {st0 : List Value} (hst : st0 = As.reverse ++ .ref b :: st) (hna : As.length = na) (hroom : (st.map fun v => v.category).sum ≤ 8) (hrm : (rm'.frames + 1 ≤ rm.frames ∧ 8 + (mL + 11) + rm'.locals ≤ rm.locals) ∧ ce + rm'.cells ≤ rm.cells ∧ sl + rm'.slots ≤ rm.slots) (i j : Nat) {g : va_W} (hi : gs[i]? = some g) {ci : Nat} {fs : List Value} (hj : g[j]? = some (b, .inr (ci, fs))) {T : u_T} {N : Nat} (hci : vwCl[ci]? = some (y.cls, T, N))
    {m : Nat} (isC isR : List Nat) (hn : gs.length = m) (hp : (isR ++ isC).isPerm (List.range m) = true) (hC : isC.map (fun i => gs[i]?) = gc.map some) (hR : isR.map (fun i => gs[i]?) = gr.map some) {m' : Nat} (ks : List Nat) (hks : ks.isPerm (List.range m') = true) (hm' : ∀ u, (gr ++ (post u).2).length = m') {gs' : S → List va_W} (hG : ∀ u, ks.map (fun i => (gr ++ (post u).2)[i]?) = (gs' u).map some)
    {ce' sl' : Nat} (hce : ce + rm'.cells = ce') (hsl : sl + rm'.slots = sl') (hpc : pc + 3 = n) {st' : S → List Value} (hst' : ∀ u, (post u).1.toList ++ st = st' u) (kk : ∀ u, J d Φ nL (gs' u) ce' sl' n L (st' u)) : J d Φ nL gs ce sl pc L st0 := by
  subst hst; subst hce; subst hsl; subst hpc
  refine J_core (av := (.ref b :: As)) (rm' := rm') (st := st) hK isC isR hn hp hC hR (fun H locs ls hP hS hl hpre => ?_) ks hks hm' hG (fun u => by rw [hst' u]; exact kk u)
  obtain ⟨q, hq, -⟩ := fl_at hi hj
  have hRm := hK.2.2.2.2.2.1
  exact va_runV (C := y.cls) ⟨hK.1, hK.2.1, hK.2.2.1, hK.2.2.2.1, hK.2.2.2.2.1⟩ (hct H.size) ⟨hcv.B hK.2.2.2.2.1 (by rw [hRm]; exact hrm.1), hK.2.2.2.2.1 _ hiv.1, hK.2.2.2.2.1 _ hiv.2⟩ ⟨hpre.1, va_recv hK.2.2.2.2.2.2.2.2.2.2.1 hP hci hq, hpre.2⟩ rfl hna hl.1 rfl (lv_room hroom) hd (by rw [hRm]; exact hrm.2)
theorem J_callT (hK : Ok d Φ own nm cc nL ret rm) {ix na mL : Nat} {y : MethodName} {cc' : ByteArray} {rt : Option FieldType} {rm' : Room} (hd : decode cc pc = .ok (.invokevirtual ix, 3)) (hcv : CV own ix y cc' mL rt na) (hiv : Cond.instanceMethod y ∈ gW ∧ Cond.selects y.cls y y ∈ gW) {b : Nat} {As : List Value} {gc gr : List va_W} {S : Type} {post : S → Option Value × List va_W} (hct : Ct Φ.2.1 d y cc' mL rt rm' (.ref b :: As) gc post)
    {st0 : List Value} (hst : st0 = As.reverse ++ .ref b :: st) (hna : As.length = na) (hroom : (st.map fun v => v.category).sum ≤ 8) (hrm : (rm'.frames + 1 ≤ rm.frames ∧ 8 + (mL + 11) + rm'.locals ≤ rm.locals) ∧ ce + rm'.cells ≤ rm.cells ∧ sl + rm'.slots ≤ rm.slots) (hob : va_O y.cls b Φ.2.2.2.2.2.2.2.2.2.2.1 Φ.2.2.2.2.1 Φ.2.2.2.2.1.heap)
    {m : Nat} (isC isR : List Nat) (hn : gs.length = m) (hp : (isR ++ isC).isPerm (List.range m) = true) (hC : isC.map (fun i => gs[i]?) = gc.map some) (hR : isR.map (fun i => gs[i]?) = gr.map some) {m' : Nat} (ks : List Nat) (hks : ks.isPerm (List.range m') = true) (hm' : ∀ u, (gr ++ (post u).2).length = m') {gs' : S → List va_W} (hG : ∀ u, ks.map (fun i => (gr ++ (post u).2)[i]?) = (gs' u).map some)
    {ce' sl' : Nat} (hce : ce + rm'.cells = ce') (hsl : sl + rm'.slots = sl') (hpc : pc + 3 = n) {st' : S → List Value} (hst' : ∀ u, (post u).1.toList ++ st = st' u) (kk : ∀ u, J d Φ nL (gs' u) ce' sl' n L (st' u)) : J d Φ nL gs ce sl pc L st0 := by
  subst hst; subst hce; subst hsl; subst hpc
  refine J_core (av := (.ref b :: As)) (rm' := rm') (st := st) hK isC isR hn hp hC hR (fun H locs ls hP hS hl hpre => ?_) ks hks hm' hG (fun u => by rw [hst' u]; exact kk u)
  obtain ⟨cell, ho1, ho2, ho3, -⟩ := hob.kept hS.2.1
  have hRm := hK.2.2.2.2.2.1
  exact va_runV (C := y.cls) ⟨hK.1, hK.2.1, hK.2.2.1, hK.2.2.2.1, hK.2.2.2.2.1⟩ (hct H.size) ⟨hcv.B hK.2.2.2.2.1 (by rw [hRm]; exact hrm.1), hK.2.2.2.2.1 _ hiv.1, hK.2.2.2.2.1 _ hiv.2⟩ ⟨hpre.1, ⟨cell, ho1, ho2, ho3⟩, hpre.2⟩ rfl hna hl.1 rfl (lv_room hroom) hd (by rw [hRm]; exact hrm.2)
theorem J_callS (hK : Ok d Φ own nm cc nL ret rm) {ix na mL : Nat} {y : MethodName} {cc' : ByteArray} {rt : Option FieldType} {rm' : Room} (hd : decode cc pc = .ok (.invokestatic ix, 3)) (hcv : CV own ix y cc' mL rt na) (hiv : Cond.static y ∈ gW) {As : List Value} {gc gr : List va_W} {S : Type} {post : S → Option Value × List va_W} (hct : Ct Φ.2.1 d y cc' mL rt rm' As gc post)
    {st0 : List Value} (hst : st0 = As.reverse ++ st) (hna : As.length = na) (hroom : (st.map fun v => v.category).sum ≤ 8) (hrm : (rm'.frames + 1 ≤ rm.frames ∧ 8 + (mL + 11) + rm'.locals ≤ rm.locals) ∧ ce + rm'.cells ≤ rm.cells ∧ sl + rm'.slots ≤ rm.slots)
    {m : Nat} (isC isR : List Nat) (hn : gs.length = m) (hp : (isR ++ isC).isPerm (List.range m) = true) (hC : isC.map (fun i => gs[i]?) = gc.map some) (hR : isR.map (fun i => gs[i]?) = gr.map some) {m' : Nat} (ks : List Nat) (hks : ks.isPerm (List.range m') = true) (hm' : ∀ u, (gr ++ (post u).2).length = m') {gs' : S → List va_W} (hG : ∀ u, ks.map (fun i => (gr ++ (post u).2)[i]?) = (gs' u).map some)
    {ce' sl' : Nat} (hce : ce + rm'.cells = ce') (hsl : sl + rm'.slots = sl') (hpc : pc + 3 = n) {st' : S → List Value} (hst' : ∀ u, (post u).1.toList ++ st = st' u) (kk : ∀ u, J d Φ nL (gs' u) ce' sl' n L (st' u)) : J d Φ nL gs ce sl pc L st0 := by
  subst hst; subst hce; subst hsl; subst hpc
  refine J_core (av := As) (rm' := rm') (st := st) hK isC isR hn hp hC hR (fun H locs ls hP hS hl hpre => ?_) ks hks hm' hG (fun u => by rw [hst' u]; exact kk u)
  have hRm := hK.2.2.2.2.2.1
  exact va_runS ⟨hK.1, hK.2.1, hK.2.2.1, hK.2.2.2.1, hK.2.2.2.2.1⟩ (hct H.size) ⟨hcv.B hK.2.2.2.2.1 (by rw [hRm]; exact hrm.1), hK.2.2.2.2.1 _ hiv⟩ hpre rfl hna hl.1 rfl (lv_room hroom) hd (by rw [hRm]; exact hrm.2)
/-- a private static method of the nest's host -/
def CN (own : String) (ix : Nat) (y : MethodName) (host : String) (cc' : ByteArray) (mL : Nat) (rt : Option FieldType) (na : Nat) : Prop := Cond.methodLinkNest own ix y host ∈ nestW ∧ Cond.code y cc' mL rt ∈ gW ∧ Cond.initialized y.cls ∈ gW ∧ Cond.static y ∈ gW ∧ (y.cls ≠ "java/lang/invoke/MethodHandle" ∧ y.cls ≠ "java/lang/invoke/VarHandle") ∧ (parseMethodDescriptor y.desc).map (fun d => d.parameters.length) = some na
theorem J_callN (hK : Ok d Φ own nm cc nL ret rm) {ix na mL : Nat} {y : MethodName} {host : String} {cc' : ByteArray} {rt : Option FieldType} {rm' : Room} (hd : decode cc pc = .ok (.invokestatic ix, 3)) (hcv : CN own ix y host cc' mL rt na) {As : List Value} {gc gr : List va_W} {S : Type} {post : S → Option Value × List va_W} (hct : Ct Φ.2.1 d y cc' mL rt rm' As gc post)
    {st0 : List Value} (hst : st0 = As.reverse ++ st) (hna : As.length = na) (hroom : (st.map fun v => v.category).sum ≤ 8) (hrm : (rm'.frames + 1 ≤ rm.frames ∧ 8 + (mL + 11) + rm'.locals ≤ rm.locals) ∧ ce + rm'.cells ≤ rm.cells ∧ sl + rm'.slots ≤ rm.slots)
    {m : Nat} (isC isR : List Nat) (hn : gs.length = m) (hp : (isR ++ isC).isPerm (List.range m) = true) (hC : isC.map (fun i => gs[i]?) = gc.map some) (hR : isR.map (fun i => gs[i]?) = gr.map some) {m' : Nat} (ks : List Nat) (hks : ks.isPerm (List.range m') = true) (hm' : ∀ u, (gr ++ (post u).2).length = m') {gs' : S → List va_W} (hG : ∀ u, ks.map (fun i => (gr ++ (post u).2)[i]?) = (gs' u).map some)
    {ce' sl' : Nat} (hce : ce + rm'.cells = ce') (hsl : sl + rm'.slots = sl') (hpc : pc + 3 = n) {st' : S → List Value} (hst' : ∀ u, (post u).1.toList ++ st = st' u) (kk : ∀ u, J d Φ nL (gs' u) ce' sl' n L (st' u)) : J d Φ nL gs ce sl pc L st0 := by
  subst hst; subst hce; subst hsl; subst hpc
  refine J_core (av := As) (rm' := rm') (st := st) hK isC isR hn hp hC hR (fun H locs ls hP hS hl hpre => ?_) ks hks hm' hG (fun u => by rw [hst' u]; exact kk u)
  have hRm := hK.2.2.2.2.2.1
  exact va_runSN ⟨hK.1, hK.2.1, hK.2.2.1, hK.2.2.2.1, hK.2.2.2.2.1⟩ (hct H.size) ⟨va_cnB na hK.2.2.2.2.1 (gW_good (fun w h => h) (fun w hw => by rcases List.mem_cons.mp hw with rfl | hw; exact hcv.2.1; exact hw)) rfl rfl rfl (hK.2.2.2.2.2.2.2.2.2.2.2.1 _ hcv.1) (hK.2.2.2.2.1 _ hcv.2.2.1) ⟨hcv.2.2.2.2.1.1, hcv.2.2.2.2.1.2, hcv.2.2.2.2.2⟩ (by rw [hRm]; exact hrm.1), hK.2.2.2.2.1 _ hcv.2.2.2.1, trivial⟩ hpre rfl hna hl.1 rfl (lv_room hroom) hd (by rw [hRm]; exact hrm.2)
theorem J_callI (hK : Ok d Φ own nm cc nL ret rm) {ix na mL : Nat} {y : MethodName} {cc' : ByteArray} {rm' : Room} (hd : decode cc pc = .ok (.invokespecial ix, 3)) (hcv : CV own ix y cc' mL none na) (hiv : y.name = "<init>" ∧ Cond.instanceMethod y ∈ gW) {b : Nat} {As : List Value} {gc gr : List va_W} {S : Type} {post : S → Option Value × List va_W} (hct : Ct Φ.2.1 d y cc' mL none rm' (.ref b :: As) gc post)
    {st0 : List Value} (hst : st0 = As.reverse ++ .ref b :: st) (hna : As.length = na) (hroom : (st.map fun v => v.category).sum ≤ 8) (hrm : (rm'.frames + 1 ≤ rm.frames ∧ 8 + (mL + 11) + rm'.locals ≤ rm.locals) ∧ ce + rm'.cells ≤ rm.cells ∧ sl + rm'.slots ≤ rm.slots)
    {m : Nat} (isC isR : List Nat) (hn : gs.length = m) (hp : (isR ++ isC).isPerm (List.range m) = true) (hC : isC.map (fun i => gs[i]?) = gc.map some) (hR : isR.map (fun i => gs[i]?) = gr.map some) {m' : Nat} (ks : List Nat) (hks : ks.isPerm (List.range m') = true) (hm' : ∀ u, (gr ++ (post u).2).length = m') {gs' : S → List va_W} (hG : ∀ u, ks.map (fun i => (gr ++ (post u).2)[i]?) = (gs' u).map some)
    {ce' sl' : Nat} (hce : ce + rm'.cells = ce') (hsl : sl + rm'.slots = sl') (hpc : pc + 3 = n) {st' : S → List Value} (hst' : ∀ u, (post u).1.toList ++ st = st' u) (kk : ∀ u, J d Φ nL (gs' u) ce' sl' n L (st' u)) : J d Φ nL gs ce sl pc L st0 := by
  subst hst; subst hce; subst hsl; subst hpc
  refine J_core (av := (.ref b :: As)) (rm' := rm') (st := st) hK isC isR hn hp hC hR (fun H locs ls hP hS hl hpre => ?_) ks hks hm' hG (fun u => by rw [hst' u]; exact kk u)
  have hRm := hK.2.2.2.2.2.1
  exact va_runI ⟨hK.1, hK.2.1, hK.2.2.1, hK.2.2.2.1, hK.2.2.2.2.1⟩ (hct H.size) ⟨hcv.B hK.2.2.2.2.1 (by rw [hRm]; exact hrm.1), hiv.1, hK.2.2.2.2.1 _ hiv.2⟩ hpre rfl hna hl.1 rfl (lv_room hroom) hd (by rw [hRm]; exact hrm.2)
/-! returns -/
theorem J_ret0 {S : Type} {post : S → Option Value × List va_W} (hK : Ok d Φ own nm cc nL ret rm) (hR : Rt d Φ rm post) (u : S) {o : Option Value} (hp : post u = (o, gs)) (hc : ce ≤ rm.cells) (hs : sl ≤ rm.slots)
    (hw : ∀ (H : Heap) (locs : List Loc) (ls : Array Slot), (∀ t : State, t.heap = H → Φ.2.2.2.2.1.WarmedH t.vm → Pst d post Φ.2.2.2.2.2.2.2.2.2.2.1 Φ.2.2.2.2.2.2.1 Φ.2.2.2.2.1 (.returned o) t) → (∀ q ∈ locs, Φ.2.2.2.2.2.2.2.2.2.2.1 q.base) → W Φ.1 Φ.2.1 Φ.2.2.1 Φ.2.2.2.1 Φ.2.2.2.2.1 Φ.2.2.2.2.2.1 Φ.2.2.2.2.2.2.1 Φ.2.2.2.2.2.2.2.1 Φ.2.2.2.2.2.2.2.2.1 Φ.2.2.2.2.2.2.2.2.2.1 H locs rm.cells rm.slots (MQ Φ.2.2.2.2.2.2.2.1 (Pst d post Φ.2.2.2.2.2.2.2.2.2.2.1) Φ.2.2.2.2.2.2.1 Φ.2.2.2.2.1 rm.cells rm.slots Φ.2.2.2.2.2.2.2.2.2.2.1) (F0 Φ.2.2.2.2.2.1 pc ls st)) : J d Φ nL gs ce sl pc L st := by
  intro H locs ls hP hD hS hl
  have hQ : Φ.2.2.2.2.2.2.2.2.2.2.2 = _ := hR
  rw [hQ]
  refine W.widen hc hs (hw H locs ls (fun t ht hW => ⟨⟨u, by rw [hp], by rw [hp, ht]; exact hP, by rw [hp]; exact hD⟩, hS.F ht⟩) hS.2.2)
theorem J_iret {S : Type} {post : S → Option Value × List va_W} (hK : Ok d Φ own nm cc nL (some .int) rm) (hR : Rt d Φ rm post) (hd : decode cc pc = .ok (.ireturn, 1)) (u : S) {v : Int32} (hp : post u = (some (.int v), gs)) (hc : ce ≤ rm.cells) (hs : sl ≤ rm.slots) : J d Φ nL gs ce sl pc L [.int v] :=
  J_ret0 hK hR u hp hc hs fun H locs ls hq hf => W.iret hK.1 hK.2.1 hK.2.2.2.2.2.2.1 hq hf hd hK.2.2.2.2.2.2.2.1
theorem J_zret {S : Type} {post : S → Option Value × List va_W} {ty : FieldType} (hK : Ok d Φ own nm cc nL (some ty) rm) (hR : Rt d Φ rm post) (hd : decode cc pc = .ok (.ireturn, 1)) (u : S) {v : Int32} (hz : narrow ty (.int v) = .int v) (hp : post u = (some (.int v), gs)) (hc : ce ≤ rm.cells) (hs : sl ≤ rm.slots) : J d Φ nL gs ce sl pc L [.int v] :=
  J_ret0 hK hR u hp hc hs fun H locs ls hq hf => W.zret hK.1 hK.2.1 hK.2.2.2.2.2.2.1 hz hq hf hd hK.2.2.2.2.2.2.2.1
theorem J_lret {S : Type} {post : S → Option Value × List va_W} (hK : Ok d Φ own nm cc nL (some .long) rm) (hR : Rt d Φ rm post) (hd : decode cc pc = .ok (.lreturn, 1)) (u : S) {v : Int64} (hp : post u = (some (.long v), gs)) (hc : ce ≤ rm.cells) (hs : sl ≤ rm.slots) : J d Φ nL gs ce sl pc L [.long v] :=
  J_ret0 hK hR u hp hc hs fun H locs ls hq hf => W.lret hK.1 hK.2.1 hK.2.2.2.2.2.2.1 hq hf hd hK.2.2.2.2.2.2.2.1
theorem J_vret {S : Type} {post : S → Option Value × List va_W} (hK : Ok d Φ own nm cc nL none rm) (hR : Rt d Φ rm post) (hd : decode cc pc = .ok (.return_, 1)) (u : S) (hp : post u = (none, gs)) (hc : ce ≤ rm.cells) (hs : sl ≤ rm.slots) : J d Φ nL gs ce sl pc L [] :=
  J_ret0 hK hR u hp hc hs fun H locs ls hq hf => W.vret hK.1 hK.2.1 hK.2.2.2.2.2.2.1 hq hf hd hK.2.2.2.2.2.2.2.1
theorem J_aret {S : Type} {post : S → Option Value × List va_W} {C : String} (hK : Ok d Φ own nm cc nL (some (.object C)) rm) (hR : Rt d Φ rm post) (hd : decode cc pc = .ok (.areturn, 1)) (u : S) {a : Nat} (hp : post u = (some (.ref a), gs)) (hc : ce ≤ rm.cells) (hs : sl ≤ rm.slots) : J d Φ nL gs ce sl pc L [.ref a] :=
  J_ret0 hK hR u hp hc hs fun H locs ls hq hf => W.aret hK.1 hK.2.1 hK.2.2.2.2.2.2.1 (Or.inl ⟨_, rfl⟩) (Or.inr ⟨_, rfl⟩) hq hf hd hK.2.2.2.2.2.2.2.1
end BC

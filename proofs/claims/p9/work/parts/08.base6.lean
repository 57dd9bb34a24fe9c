/-! new objects and arrays; the JDK's small ones; tables -/
section BN
variable {d : DT} {Φ : JC} {own nm : String} {cc : ByteArray} {nL : Nat} {ret : Option FieldType} {rm : Room} {gs : List va_W} {ce sl pc n : Nat} {L : List (Nat × Value)} {st : List Value}
theorem fl_snoc (gs : List va_W) (x : Nat × va_E) : (gs ++ [[x]]).flatten = gs.flatten ++ [x] := by simp
theorem J_new (hK : Ok d Φ own nm cc nL ret rm) {ix ci N : Nat} {C : String} {T : u_T} (hd : decode cc pc = .ok (.new ix, 3)) (hn : pc + 3 = n) (hw : Cond.classLink own ix C ∈ gW ∧ Cond.instantiable C N ∈ gW ∧ Cond.initialized C ∈ gW ∧ ∀ w ∈ u_ws C T N, w ∈ gW) (hc : vwCl[ci]? = some (C, T, N)) (ty : Nat → FieldType) (hty : ∀ k, k < N → parseFieldDescriptor (T k).2.2.1 = some (ty k)) {fs : List Value} (hfs : ∀ j, j < N → defaultValue (ty j) = vp_V fs j)
    {ce' sl' : Nat} (hce : ce + 1 = ce') (hsl : sl + N = sl') (h1 : ce' ≤ rm.cells) (h2 : sl' ≤ rm.slots) (kk : ∀ q : Nat, J d Φ nL (gs ++ [[cO ci q fs]]) ce' sl' n L (.ref q :: st)) : J d Φ nL gs ce sl pc L st := by
  subst hn; subst hce; subst hsl
  intro H locs ls hP hD hS hl
  have hRm := hK.2.2.2.2.2.1
  refine va_new (C := C) (T := T) (N := N) hK.1 hK.2.1 hK.2.2.2.2.1 hw.2.2.2 ty hty hK.2.2.2.1 (hK.2.2.2.2.1 _ hw.1) (hK.2.2.2.2.1 _ hw.2.1) (hK.2.2.2.2.1 _ hw.2.2.1) hK.2.2.2.2.2.2.2.2.2.2.1 hP hD hS hK.2.2.2.2.2.2.2.2.2.1 hc hfs (by rw [hRm]; exact h1) (by rw [hRm]; exact h2) hd (fun q H1 g1 g2 g3 => ?_)
  rw [← fl_snoc] at g1 g2
  exact kk q H1 locs ls g1 g2 g3 hl
theorem J_newI (hK : Ok d Φ own nm cc nL ret rm) (hd : decode cc pc = .ok (.newarray .int, 2)) (hn : pc + 2 = n) (hw : Cond.arrayClass .int ∈ gW) {z : Int32} {N : Nat} (hz : ¬ z < 0) (hN : z.toNatClampNeg = N) (hb : N ≤ 1000) {ce' sl' : Nat} (hce : ce + 1 = ce') (hsl : sl + N = sl') (h1 : ce' ≤ rm.cells) (h2 : sl' ≤ rm.slots) (kk : ∀ q : Nat, J d Φ nL (gs ++ [[cI d q N (fun _ => 0)]]) ce' sl' n L (.ref q :: st)) : J d Φ nL gs ce sl pc L (.int z :: st) := by
  subst hn; subst hce; subst hsl
  intro H locs ls hP hD hS hl
  have hRm := hK.2.2.2.2.2.1
  refine va_newa (atype := .int) (ty := .int) (a0 := (N, .inl (fun _ => 0))) hK.1 hK.2.1 (hK.2.2.2.2.1 _ hw) rfl hK.2.2.2.2.2.2.2.2.2.2.1 hP hD hS hK.2.2.2.2.2.2.2.2.2.1 (fun cA => rfl) hz hN (by show N * 4 ≤ 536870912; omega) (by rw [hRm]; exact h1) (by rw [hRm]; exact h2) hd (fun q cA H1 g0 g1 g2 g3 => ?_)
  have e1 := (g0.2 0 _ rfl).2
  have e2 := (g0.2 4 _ rfl).2
  have e : cA = d.2.1 0 := Option.some.inj (e2.symm.trans e1)
  subst e
  rw [← fl_snoc] at g1 g2
  exact kk q H1 locs ls g1 g2 g3 hl
theorem J_newJ (hK : Ok d Φ own nm cc nL ret rm) (hd : decode cc pc = .ok (.newarray .long, 2)) (hn : pc + 2 = n) (hw : Cond.arrayClass .long ∈ gW) {z : Int32} {N : Nat} (hz : ¬ z < 0) (hN : z.toNatClampNeg = N) (hb : N ≤ 1000) {ce' sl' : Nat} (hce : ce + 1 = ce') (hsl : sl + N = sl') (h1 : ce' ≤ rm.cells) (h2 : sl' ≤ rm.slots) (kk : ∀ q : Nat, J d Φ nL (gs ++ [[cJ d q N (fun _ => 0)]]) ce' sl' n L (.ref q :: st)) : J d Φ nL gs ce sl pc L (.int z :: st) := by
  subst hn; subst hce; subst hsl
  intro H locs ls hP hD hS hl
  have hRm := hK.2.2.2.2.2.1
  refine va_newa (atype := .long) (ty := .long) (a0 := (N, .inr (.inl (fun _ => 0)))) hK.1 hK.2.1 (hK.2.2.2.2.1 _ hw) rfl hK.2.2.2.2.2.2.2.2.2.2.1 hP hD hS hK.2.2.2.2.2.2.2.2.2.1 (fun cA => rfl) hz hN (by show N * 8 ≤ 536870912; omega) (by rw [hRm]; exact h1) (by rw [hRm]; exact h2) hd (fun q cA H1 g0 g1 g2 g3 => ?_)
  have e1 := (g0.2 1 _ rfl).2
  have e2 := (g0.2 4 _ rfl).2
  have e : cA = d.2.1 1 := Option.some.inj (e2.symm.trans e1)
  subst e
  rw [← fl_snoc] at g1 g2
  exact kk q H1 locs ls g1 g2 g3 hl
theorem pl_rows {e : va_E} {f : Nat → va_E} (r : Nat → Nat) (N : Nat) : va_pl ((List.range N).map r) (vr_up f ((List.range N).map r) e) = (List.range N).map (fun i => (r i, e)) := by
  unfold va_pl
  rw [List.map_map]
  apply List.map_congr_left
  intro i hi
  simp only [Function.comp]
  rw [vr_up_in (List.mem_map.mpr ⟨i, hi, rfl⟩)]
theorem J_mnaI (hK : Ok d Φ own nm cc nL ret rm) {ix : Nat} (hd : decode cc pc = .ok (.multianewarray ix 2, 4)) (hn : pc + 4 = n) (hw : Cond.classLink own ix "[[I" ∈ gW ∧ Cond.arrayClass .int ∈ gW) {z y : Int32} {N K : Nat} (hz : ¬ z < 0) (hy : ¬ y < 0) (hN : z.toNatClampNeg = N) (hM : y.toNatClampNeg = K) (hb : N ≤ 1000) (hb2 : K ≤ 1000) {ce' sl' : Nat} (hce : ce + (1 + N) = ce') (hsl : sl + (N + N * K) = sl') (h1 : ce' ≤ rm.cells) (h2 : sl' ≤ rm.slots)
    (kk : ∀ (q : Nat) (r : Nat → Nat), J d Φ nL (gs ++ [[cR d 2 q N (rowsF N r)], gridI d r N K (fun _ _ => 0)]) ce' sl' n L (.ref q :: st)) : J d Φ nL gs ce sl pc L (.int y :: .int z :: st) := by
  subst hn; subst hce; subst hsl
  intro H locs ls hP hD hS hl
  have hRm := hK.2.2.2.2.2.1
  have hGl := hK.2.2.2.2.2.2.2.2.2.2
  have hcy : Φ.2.2.2.2.1.vm.findClass (FieldType.array .int).toString = some (d.2.1 0) := (hGl.1.2 0 _ rfl).2
  have hP' : va_P d.1 vwCl (gs.flatten ++ va_pl [] (fun _ => .inr (0, []))) H := by rw [show va_pl [] (fun _ => (.inr (0, []) : va_E)) = [] from rfl, List.append_nil]; exact hP
  have hD' : va_D Φ.2.2.2.2.2.2.2.2.2.2.1 (gs.flatten ++ va_pl [] (fun _ => .inr (0, []))) := by rw [show va_pl [] (fun _ => (.inr (0, []) : va_E)) = [] from rfl, List.append_nil]; exact hD
  refine va_mna (ty := .int) (N' := N) (K' := K) (z := (K, .inl (fun _ => 0))) hK.1 hK.2.1 hK.2.2.2.1 (hK.2.2.2.2.1 _ hw.1) hGl.2.2.1 (hK.2.2.2.2.1 _ hw.2) hcy hGl.1 hP' hD' hS hK.2.2.2.2.2.2.2.2.2.1 hz hy hN hM (by omega) (by show K * 4 ≤ 536870912; omega) (by omega) rfl rfl (by rw [hRm]; exact h1) (by rw [hRm]; exact h2) (fun cA => by show ({ cls := cA, slots := Array.replicate K (defaultValue .int), vm := .none } : Cell) = _; rw [arrV_new]; rfl) hd (fun q r cA H1 _ _ g0 g1 g2 g3 => ?_)
  have e1 := (g0.2 2 _ rfl).2
  have e2 := (g0.2 4 _ rfl).2
  have e : cA = d.2.1 2 := Option.some.inj (e2.symm.trans e1)
  subst e
  rw [List.nil_append, pl_rows] at g1 g2
  have ef : (gs ++ [[cR d 2 q N (rowsF N r)], gridI d r N K (fun _ _ => 0)]).flatten = (gs.flatten ++ [cR d 2 q N (rowsF N r)]) ++ (List.range N).map (fun i => (r i, .inl (d.2.1 0, K, .inl (fun _ => 0)))) := by
    rw [List.flatten_append]
    simp [gridI]
  have g1' : va_P d.1 vwCl (gs ++ [[cR d 2 q N (rowsF N r)], gridI d r N K (fun _ _ => 0)]).flatten H1 := by rw [ef]; exact g1
  have g2' : va_D Φ.2.2.2.2.2.2.2.2.2.2.1 (gs ++ [[cR d 2 q N (rowsF N r)], gridI d r N K (fun _ _ => 0)]).flatten := by rw [ef]; exact g2
  have := kk q r H1 locs ls g1' g2' g3 hl
  rw [← Nat.add_assoc, ← Nat.add_assoc] at this
  exact this
theorem J_mnaJ (hK : Ok d Φ own nm cc nL ret rm) {ix : Nat} (hd : decode cc pc = .ok (.multianewarray ix 2, 4)) (hn : pc + 4 = n) (hw : Cond.classLink own ix "[[J" ∈ gW ∧ Cond.arrayClass .long ∈ gW) {z y : Int32} {N K : Nat} (hz : ¬ z < 0) (hy : ¬ y < 0) (hN : z.toNatClampNeg = N) (hM : y.toNatClampNeg = K) (hb : N ≤ 1000) (hb2 : K ≤ 1000) {ce' sl' : Nat} (hce : ce + (1 + N) = ce') (hsl : sl + (N + N * K) = sl') (h1 : ce' ≤ rm.cells) (h2 : sl' ≤ rm.slots)
    (kk : ∀ (q : Nat) (r : Nat → Nat), J d Φ nL (gs ++ [[cR d 3 q N (rowsF N r)], gridJ d r N K (fun _ _ => 0)]) ce' sl' n L (.ref q :: st)) : J d Φ nL gs ce sl pc L (.int y :: .int z :: st) := by
  subst hn; subst hce; subst hsl
  intro H locs ls hP hD hS hl
  have hRm := hK.2.2.2.2.2.1
  have hGl := hK.2.2.2.2.2.2.2.2.2.2
  have hcy : Φ.2.2.2.2.1.vm.findClass (FieldType.array .long).toString = some (d.2.1 1) := (hGl.1.2 1 _ rfl).2
  have hP' : va_P d.1 vwCl (gs.flatten ++ va_pl [] (fun _ => .inr (0, []))) H := by rw [show va_pl [] (fun _ => (.inr (0, []) : va_E)) = [] from rfl, List.append_nil]; exact hP
  have hD' : va_D Φ.2.2.2.2.2.2.2.2.2.2.1 (gs.flatten ++ va_pl [] (fun _ => .inr (0, []))) := by rw [show va_pl [] (fun _ => (.inr (0, []) : va_E)) = [] from rfl, List.append_nil]; exact hD
  refine va_mna (ty := .long) (N' := N) (K' := K) (z := (K, .inr (.inl (fun _ => 0)))) hK.1 hK.2.1 hK.2.2.2.1 (hK.2.2.2.2.1 _ hw.1) hGl.2.2.2.1 (hK.2.2.2.2.1 _ hw.2) hcy hGl.1 hP' hD' hS hK.2.2.2.2.2.2.2.2.2.1 hz hy hN hM (by omega) (by show K * 8 ≤ 536870912; omega) (by omega) rfl rfl (by rw [hRm]; exact h1) (by rw [hRm]; exact h2) (fun cA => by show ({ cls := cA, slots := Array.replicate K (defaultValue .long), vm := .none } : Cell) = _; rw [arrV_new]; rfl) hd (fun q r cA H1 _ _ g0 g1 g2 g3 => ?_)
  have e1 := (g0.2 3 _ rfl).2
  have e2 := (g0.2 4 _ rfl).2
  have e : cA = d.2.1 3 := Option.some.inj (e2.symm.trans e1)
  subst e
  rw [List.nil_append, pl_rows] at g1 g2
  have ef : (gs ++ [[cR d 3 q N (rowsF N r)], gridJ d r N K (fun _ _ => 0)]).flatten = (gs.flatten ++ [cR d 3 q N (rowsF N r)]) ++ (List.range N).map (fun i => (r i, .inl (d.2.1 1, K, .inr (.inl (fun _ => 0))))) := by
    rw [List.flatten_append]
    simp [gridJ]
  have g1' : va_P d.1 vwCl (gs ++ [[cR d 3 q N (rowsF N r)], gridJ d r N K (fun _ _ => 0)]).flatten H1 := by rw [ef]; exact g1
  have g2' : va_D Φ.2.2.2.2.2.2.2.2.2.2.1 (gs ++ [[cR d 3 q N (rowsF N r)], gridJ d r N K (fun _ _ => 0)]).flatten := by rw [ef]; exact g2
  have := kk q r H1 locs ls g1' g2' g3 hl
  rw [← Nat.add_assoc, ← Nat.add_assoc] at this
  exact this
theorem J_oinit (hK : Ok d Φ own nm cc nL ret rm) {ix : Nat} (hd : decode cc pc = .ok (.invokespecial ix, 3)) (hn : pc + 3 = n) (hw : Cond.methodLink own ix Lib.objectInit ∈ gW ∧ Cond.instanceMethod Lib.objectInit ∈ gW ∧ Cond.code Lib.objectInit ⟨#[0xb1]⟩ 1 none ∈ gW) (h1 : 1 ≤ rm.frames) (h2 : (st.map fun v => v.category).sum + 12 ≤ rm.locals) {a : Nat} (kk : J d Φ nL gs ce sl n L st) : J d Φ nL gs ce sl pc L (.ref a :: st) := by
  subst hn
  intro H locs ls hP hD hS hl
  have hRm := hK.2.2.2.2.2.1
  exact W.objInit hK.1 hK.2.1 hK.2.2.2.1 (hK.2.2.2.2.1 _ hw.1) (hK.2.2.2.2.1 _ hw.2.1) (hK.2.2.2.2.1 _ hw.2.2) rfl (by rw [hK.2.2.1]; exact hl.1) rfl hd (by rw [hRm]; exact h1) (by rw [hRm]; show 2 * 0 + _ + 12 ≤ _; omega) (kk H locs ls hP hD hS hl)
theorem cpy_ok {α : Type} {n0 n1 : Nat} {f g h : Nat → α} {sp dp m : Int32} (e : cpy n0 f n1 g sp dp m = some h) : (¬ sp < 0 ∧ ¬ dp < 0 ∧ ¬ m < 0 ∧ sp.toNatClampNeg + m.toNatClampNeg ≤ n0 ∧ dp.toNatClampNeg + m.toNatClampNeg ≤ n1) ∧ h = va_cpy f g sp.toNatClampNeg dp.toNatClampNeg m.toNatClampNeg := by
  unfold cpy at e
  split at e
  · next h1 => cases e; exact ⟨h1, rfl⟩
  · cases e
def CC (own : String) (ix : Nat) : Prop := Cond.methodLink own ix arraycopyName ∈ gW ∧ Cond.native arraycopyName ∈ gW ∧ Cond.static arraycopyName ∈ gW ∧ Cond.initialized "java/lang/System" ∈ gW
theorem J_cpyI (hK : Ok d Φ own nm cc nL ret rm) {ix : Nat} (hd : decode cc pc = .ok (.invokestatic ix, 3)) (hn : pc + 3 = n) (hw : CC own ix) (i0 j0 i1 j1 : Nat) {g0 g1 g' : va_W} {gs' : List va_W} (hi0 : gs[i0]? = some g0) (hi1 : gs[i1]? = some g1) {a0 a1 n0 n1 : Nat} {f g h : Nat → Int32} (hj0 : g0[j0]? = some (cI d a0 n0 f)) (hj1 : g1[j1]? = some (cI d a1 n1 g)) {sp dp m : Int32} (hc : cpy n0 f n1 g sp dp m = some h) (h1 : 1 ≤ rm.frames) (h2 : (st.map fun v => v.category).sum + 18 ≤ rm.locals) (hg : g1.set j1 (cI d a1 n1 h) = g') (hgs : gs.set i1 g' = gs') (kk : J d Φ nL gs' ce sl n L st) : J d Φ nL gs ce sl pc L (.int m :: .int dp :: .ref a1 :: .int sp :: .ref a0 :: st) := by
  subst hn; subst hg; subst hgs
  intro H locs ls hP hD hS hl
  have hRm := hK.2.2.2.2.2.1
  obtain ⟨q0, hq0, -⟩ := fl_at hi0 hj0
  obtain ⟨q1, hq1, hset⟩ := fl_at hi1 hj1
  obtain ⟨⟨c1, c2, c3, c4, c5⟩, rfl⟩ := cpy_ok hc
  refine va_copyi (ty := .int) hK.1 hK.2.1 (by rw [hK.2.2.1]; exact hl.1.symm) hK.2.2.2.1 (hK.2.2.2.2.1 _ hw.1) (hK.2.2.2.2.1 _ hw.2.1) (hK.2.2.2.2.1 _ hw.2.2.1) (hK.2.2.2.2.1 _ hw.2.2.2) hK.2.2.2.2.2.2.2.2.2.2.1 hP hD hS q0 q1 0 0 hq0 hq1 rfl rfl rfl c1 c2 c3 c4 c5 (fun _ _ => rfl) (by rw [hRm]; exact h1) (by rw [hRm]; exact h2) hd (fun H1 locs1 g1 g2 g3 => ?_)
  rw [hset] at g1 g2
  exact kk H1 locs1 ls g1 g2 g3 hl
theorem J_cpyJ (hK : Ok d Φ own nm cc nL ret rm) {ix : Nat} (hd : decode cc pc = .ok (.invokestatic ix, 3)) (hn : pc + 3 = n) (hw : CC own ix) (i0 j0 i1 j1 : Nat) {g0 g1 g' : va_W} {gs' : List va_W} (hi0 : gs[i0]? = some g0) (hi1 : gs[i1]? = some g1) {a0 a1 n0 n1 : Nat} {f g h : Nat → Int64} (hj0 : g0[j0]? = some (cJ d a0 n0 f)) (hj1 : g1[j1]? = some (cJ d a1 n1 g)) {sp dp m : Int32} (hc : cpy n0 f n1 g sp dp m = some h) (h1 : 1 ≤ rm.frames) (h2 : (st.map fun v => v.category).sum + 18 ≤ rm.locals) (hg : g1.set j1 (cJ d a1 n1 h) = g') (hgs : gs.set i1 g' = gs') (kk : J d Φ nL gs' ce sl n L st) : J d Φ nL gs ce sl pc L (.int m :: .int dp :: .ref a1 :: .int sp :: .ref a0 :: st) := by
  subst hn; subst hg; subst hgs
  intro H locs ls hP hD hS hl
  have hRm := hK.2.2.2.2.2.1
  obtain ⟨q0, hq0, -⟩ := fl_at hi0 hj0
  obtain ⟨q1, hq1, hset⟩ := fl_at hi1 hj1
  obtain ⟨⟨c1, c2, c3, c4, c5⟩, rfl⟩ := cpy_ok hc
  refine va_copyl (ty := .long) hK.1 hK.2.1 (by rw [hK.2.2.1]; exact hl.1.symm) hK.2.2.2.1 (hK.2.2.2.2.1 _ hw.1) (hK.2.2.2.2.1 _ hw.2.1) (hK.2.2.2.2.1 _ hw.2.2.1) (hK.2.2.2.2.1 _ hw.2.2.2) hK.2.2.2.2.2.2.2.2.2.2.1 hP hD hS q0 q1 1 1 hq0 hq1 rfl rfl rfl c1 c2 c3 c4 c5 (fun _ _ => rfl) (by rw [hRm]; exact h1) (by rw [hRm]; exact h2) hd (fun H1 locs1 g1 g2 g3 => ?_)
  rw [hset] at g1 g2
  exact kk H1 locs1 ls g1 g2 g3 hl
def CMx (own : String) (ix : Nat) : Prop := Cond.methodLink own ix Lib.Math.max.name ∈ gW ∧ Cond.static Lib.Math.max.name ∈ gW ∧ Cond.initialized "java/lang/Math" ∈ gW ∧ Cond.code Lib.Math.max.name Lib.Math.max.code 2 (some .int) ∈ gW
def CMn (own : String) (ix : Nat) : Prop := Cond.methodLink own ix Lib.Math.min.name ∈ gW ∧ Cond.static Lib.Math.min.name ∈ gW ∧ Cond.initialized "java/lang/Math" ∈ gW ∧ Cond.code Lib.Math.min.name Lib.Math.min.code 2 (some .int) ∈ gW
theorem J_max (hK : Ok d Φ own nm cc nL ret rm) {ix : Nat} (hd : decode cc pc = .ok (.invokestatic ix, 3)) (hn : pc + 3 = n) (hw : CMx own ix) (h1 : 1 ≤ rm.frames) (h2 : (st.map fun v => v.category).sum + 13 ≤ rm.locals) (h3 : ce ≤ rm.cells) (h4 : sl ≤ rm.slots) {x y : Int32} (kk : J d Φ nL gs ce sl n L (.int (if x < y then y else x) :: st)) : J d Φ nL gs ce sl pc L (.int y :: .int x :: st) := by
  subst hn
  intro H locs ls hP hD hS hl
  have hRm := hK.2.2.2.2.2.1
  exact va_mmax hK.1 hK.2.1 (by rw [hK.2.2.1]; exact hl.1.symm) hK.2.2.2.1 (hK.2.2.2.2.1 _ hw.1) (hK.2.2.2.2.1 _ hw.2.1) (hK.2.2.2.2.1 _ hw.2.2.1) (hK.2.2.2.2.1 _ hw.2.2.2) (by rw [hRm]; exact h1) (by rw [hRm]; exact h2) (by rw [hRm]; exact h3) (by rw [hRm]; exact h4) hd (kk H locs ls hP hD hS hl)
theorem J_min (hK : Ok d Φ own nm cc nL ret rm) {ix : Nat} (hd : decode cc pc = .ok (.invokestatic ix, 3)) (hn : pc + 3 = n) (hw : CMn own ix) (h1 : 1 ≤ rm.frames) (h2 : (st.map fun v => v.category).sum + 13 ≤ rm.locals) (h3 : ce ≤ rm.cells) (h4 : sl ≤ rm.slots) {x y : Int32} (kk : J d Φ nL gs ce sl n L (.int (if y < x then y else x) :: st)) : J d Φ nL gs ce sl pc L (.int y :: .int x :: st) := by
  subst hn
  intro H locs ls hP hD hS hl
  have hRm := hK.2.2.2.2.2.1
  exact va_mmin hK.1 hK.2.1 (by rw [hK.2.2.1]; exact hl.1.symm) hK.2.2.2.1 (hK.2.2.2.2.1 _ hw.1) (hK.2.2.2.2.1 _ hw.2.1) (hK.2.2.2.2.1 _ hw.2.2.1) (hK.2.2.2.2.1 _ hw.2.2.2) (by rw [hRm]; exact h1) (by rw [hRm]; exact h2) (by rw [hRm]; exact h3) (by rw [hRm]; exact h4) hd (kk H locs ls hP hD hS hl)
def ABV : Nat → Int32 := fun j => ([-1, 0, 1, 0, 0, 4] : List Int32).getD j 0
theorem J_abv (hK : Ok d Φ own nm cc nL ret rm) {ix : Nat} (hd : decode cc pc = .ok (.getstatic ix, 3)) (hn : pc + 3 = n) (hw : Cond.fieldLink own ix "TwoWidths" "ABOVE" "[I" ∈ gW) (kk : J d Φ nL gs ce sl n L (.ref d.2.2.1 :: st)) : J d Φ nL gs ce sl pc L st := by
  subst hn
  intro H locs ls hP hD hS hl
  exact va_gets hK.1 hK.2.1 hK.2.2.2.2.2.2.2.2.2.2.2.2.2.2.1 hS hK.2.2.2.1 (hK.2.2.2.2.1 _ hw) (fun _ h => h) hd (kk H locs ls hP hD hS hl)
theorem J_abi (hK : Ok d Φ own nm cc nL ret rm) (hd : decode cc pc = .ok (.iaload, 1)) (hn : pc + 1 = n) {x v : Int32} (hr : rd 6 ABV x = some v) (kk : J d Φ nL gs ce sl n L (.int v :: st)) : J d Φ nL gs ce sl pc L (.int x :: .ref d.2.2.1 :: st) := by
  subst hn
  intro H locs ls hP hD hS hl
  obtain ⟨h1, rfl⟩ := rd_ok hr
  exact va_ti hK.1 hK.2.1 hK.2.2.2.2.2.2.2.2.2.2.2.2.2.2.2.1 hS (inb_vp h1) rfl hd (kk H locs ls hP hD hS hl)
theorem J_abl (hK : Ok d Φ own nm cc nL ret rm) (hd : decode cc pc = .ok (.arraylength, 1)) (hn : pc + 1 = n) (kk : J d Φ nL gs ce sl n L (.int 6 :: st)) : J d Φ nL gs ce sl pc L (.ref d.2.2.1 :: st) := by
  subst hn
  intro H locs ls hP hD hS hl
  exact va_tlen hK.1 hK.2.1 hK.2.2.2.2.2.2.2.2.2.2.2.2.2.2.2.1 hS rfl hd (kk H locs ls hP hD hS hl)
theorem J_str (hK : Ok d Φ own nm cc nL ret rm) {ix : Nat} (hd : decode cc pc = .ok (.ldc ix, 2)) (hn : pc + 2 = n) (i : Nat) {q : String × Nat × String × List Int32} (hq : strT[i]? = some q) (ho : q.1 = own) (hx : q.2.1 = ix) (kk : J d Φ nL gs ce sl n L (.ref (d.2.2.2.1 i) :: st)) : J d Φ nL gs ce sl pc L st := by
  subst hn; subst ho; subst hx
  intro H locs ls hP hD hS hl
  exact va_ldcS hK.1 hK.2.1 hK.2.2.2.1 (hK.2.2.2.2.2.2.2.2.2.2.2.2.2.2.2.2.2.2 i q hq).2.2.2.2 hd (kk H locs ls hP hD hS hl)
end BN
theorem gW_all {ws : List Cond} (ps : List Nat) (h : ps.map (fun i => lw_tbl[i]?) = ws.map some) (hg : ws.all goodWord = true) : ∀ w ∈ ws, w ∈ gW := by
  intro w hw
  have h1 : some w ∈ ps.map (fun i => lw_tbl[i]?) := by rw [h]; exact List.mem_map.mpr ⟨w, hw, rfl⟩
  obtain ⟨i, -, hi⟩ := List.mem_map.mp h1
  exact gW_mem i hi (List.all_eq_true.mp hg w hw)
theorem nest_mem {a : String} {j : Nat} {x : MethodName} {b : String} (i : Nat) (h : lw_tbl[i]? = some (.methodLinkNest a j x b)) : Cond.methodLinkNest a j x b ∈ nestW := List.mem_filter.mpr ⟨List.mem_of_getElem? h, rfl⟩
section BS
variable {d : DT} {Φ : JC} {own nm : String} {cc : ByteArray} {nL : Nat} {ret : Option FieldType} {rm : Room} {gs : List va_W} {ce sl pc tg : Nat} {L : List (Nat × Value)} {st : List Value}
theorem J_swI (hK : Ok d Φ own nm cc nL ret rm) {dflt lo hi : Int} {offs : Array Int} {len : Nat} {x : Int32} {off : Int} (hd : decode cc pc = .ok (.tableswitch dflt lo hi offs, len)) (h1 : ¬ x.toInt < lo) (h2 : ¬ hi < x.toInt) (ho : offs[(x.toInt - lo).toNat]? = some off) (ht : (pc : Int) + off = (tg : Int)) (k : J d Φ nL gs ce sl tg L st) : J d Φ nL gs ce sl pc L (.int x :: st) := fun H locs ls hP hD hS hl => lv_tableIn hK.1 hK.2.1 hd h1 h2 ho ht (k H locs ls hP hD hS hl)
theorem J_swO (hK : Ok d Φ own nm cc nL ret rm) {dflt lo hi : Int} {offs : Array Int} {len : Nat} {x : Int32} (hd : decode cc pc = .ok (.tableswitch dflt lo hi offs, len)) (h : x.toInt < lo ∨ hi < x.toInt) (ht : (pc : Int) + dflt = (tg : Int)) (k : J d Φ nL gs ce sl tg L st) : J d Φ nL gs ce sl pc L (.int x :: st) := fun H locs ls hP hD hS hl => lv_tableOut hK.1 hK.2.1 hd h ht (k H locs ls hP hD hS hl)
theorem J_lk (hK : Ok d Φ own nm cc nL ret rm) {dflt : Int} {ps : Array (Int × Int)} {len : Nat} {x : Int32} {off : Int} (hd : decode cc pc = .ok (.lookupswitch dflt ps, len)) (hp : (ps.toList.zip (ps.toList.drop 1)).all (fun (a, next) => a.1 < next.1) = true) (ho : Op.lookupswitch.offset ps.toList dflt x.toInt = off) (ht : (pc : Int) + off = (tg : Int)) (k : J d Φ nL gs ce sl tg L st) : J d Φ nL gs ce sl pc L (.int x :: st) := fun H locs ls hP hD hS hl => lv_lookup hK.1 hK.2.1 hd hp ho ht (k H locs ls hP hD hS hl)
end BS
def mmax (x y : Int32) : Int32 := if x < y then y else x
def mmin (x y : Int32) : Int32 := if y < x then y else x
/-! a row by itself, and back -/
def gridIx (d : DT) (r : Nat → Nat) (n k : Nat) (M : Nat → Nat → Int32) (q : Nat) : va_W := ((List.range n).erase q).map fun i => cI d (r i) k (M i)
def gridJx (d : DT) (r : Nat → Nat) (n k : Nat) (M : Nat → Nat → Int64) (q : Nat) : va_W := ((List.range n).erase q).map fun i => cJ d (r i) k (M i)
theorem gridI_sp {d : DT} {r : Nat → Nat} {n k : Nat} {M : Nat → Nat → Int32} {q : Nat} (h : q < n) : (gridI d r n k M).Perm ([cI d (r q) k (M q)] ++ gridIx d r n k M q) := (List.perm_cons_erase (List.mem_range.mpr h)).map (fun i => cI d (r i) k (M i))
theorem gridJ_sp {d : DT} {r : Nat → Nat} {n k : Nat} {M : Nat → Nat → Int64} {q : Nat} (h : q < n) : (gridJ d r n k M).Perm ([cJ d (r q) k (M q)] ++ gridJx d r n k M q) := (List.perm_cons_erase (List.mem_range.mpr h)).map (fun i => cJ d (r i) k (M i))
theorem gridI_mg {d : DT} {r : Nat → Nat} {n k : Nat} {M : Nat → Nat → Int32} {q : Nat} {f : Nat → Int32} (h : q < n) : ([cI d (r q) k f] ++ gridIx d r n k M q).Perm (gridI d r n k (va_up M q f)) := by
  have e : gridIx d r n k M q = gridIx d r n k (va_up M q f) q := by
    apply List.map_congr_left
    intro i hi
    have hne : i ≠ q := ((List.nodup_range).mem_erase_iff.mp hi).1
    simp [va_up, hne]
  rw [e]
  have h1 := (gridI_sp (d := d) (r := r) (k := k) (M := va_up M q f) h).symm
  have h2 : va_up M q f q = f := by simp [va_up]
  rw [h2] at h1
  exact h1
theorem gridJ_mg {d : DT} {r : Nat → Nat} {n k : Nat} {M : Nat → Nat → Int64} {q : Nat} {f : Nat → Int64} (h : q < n) : ([cJ d (r q) k f] ++ gridJx d r n k M q).Perm (gridJ d r n k (va_up M q f)) := by
  have e : gridJx d r n k M q = gridJx d r n k (va_up M q f) q := by
    apply List.map_congr_left
    intro i hi
    have hne : i ≠ q := ((List.nodup_range).mem_erase_iff.mp hi).1
    simp [va_up, hne]
  rw [e]
  have h1 := (gridJ_sp (d := d) (r := r) (k := k) (M := va_up M q f) h).symm
  have h2 : va_up M q f q = f := by simp [va_up]
  rw [h2] at h1
  exact h1
theorem J_split {d : DT} {Φ : JC} {nL : Nat} {gs gs2 : List va_W} {ce sl pc : Nat} {L : List (Nat × Value)} {st : List Value} (i : Nat) {g a b : va_W} (hi : gs[i]? = some g) (hp : g.Perm (a ++ b)) (h2 : gs.take i ++ a :: b :: gs.drop (i + 1) = gs2) (k : J d Φ nL gs2 ce sl pc L st) : J d Φ nL gs ce sl pc L st := by
  refine J_perm ?_ k
  subst h2
  obtain ⟨hl, e⟩ := List.getElem?_eq_some_iff.mp hi
  have h1 : gs = gs.take i ++ g :: gs.drop (i + 1) := by rw [← e, List.getElem_cons_drop, List.take_append_drop]
  rw [h1]
  simp only [List.flatten_append, List.flatten_cons]
  rw [← h1, ← List.append_assoc a b]
  exact (hp.append_right _).append_left _
theorem J_merge {d : DT} {Φ : JC} {nL : Nat} {gs gs2 : List va_W} {ce sl pc : Nat} {L : List (Nat × Value)} {st : List Value} (i : Nat) {g a b : va_W} (hi : gs[i]? = some a) (hj : gs[i + 1]? = some b) (hp : (a ++ b).Perm g) (h2 : gs.take i ++ g :: gs.drop (i + 2) = gs2) (k : J d Φ nL gs2 ce sl pc L st) : J d Φ nL gs ce sl pc L st := by
  refine J_perm ?_ k
  subst h2
  obtain ⟨hl, e⟩ := List.getElem?_eq_some_iff.mp hi
  obtain ⟨hl2, e2⟩ := List.getElem?_eq_some_iff.mp hj
  have h1 : gs = gs.take i ++ a :: b :: gs.drop (i + 2) := by rw [← e, ← e2, List.getElem_cons_drop, List.getElem_cons_drop, List.take_append_drop]
  rw [h1]
  simp only [List.flatten_append, List.flatten_cons]
  rw [← h1, ← List.append_assoc a b]
  exact (hp.append_right _).append_left _

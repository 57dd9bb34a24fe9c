section BJ
variable {d : DT} {Φ : JC} {own nm : String} {cc : ByteArray} {nL : Nat} {ret : Option FieldType} {rm : Room} {gs gs' : List va_W} {ce sl pc n : Nat} {L : List (Nat × Value)} {st : List Value}
theorem J_perm {gs2 : List va_W} (h : gs.flatten.Perm gs2.flatten) (k : J d Φ nL gs2 ce sl pc L st) : J d Φ nL gs ce sl pc L st := fun H locs ls hP hD hS hl => k H locs ls (va_P_perm h hP) (va_D_perm h hD) hS hl
theorem J_fl {gs2 : List va_W} (h : gs.flatten = gs2.flatten) (k : J d Φ nL gs2 ce sl pc L st) : J d Φ nL gs ce sl pc L st := J_perm (by rw [h]) k
theorem J_seg {gs2 : List va_W} {m : Nat} (ks : List Nat) (hn : gs.length = m) (hp : ks.isPerm (List.range m) = true) (h : ks.map (fun i => gs[i]?) = gs2.map some) (k : J d Φ nL gs2 ce sl pc L st) : J d Φ nL gs ce sl pc L st := J_perm (perm_pick ks hn hp h).flatten k
/-- a field of ours: class, place, link -/
def FO (own : String) (ix ci k : Nat) : Prop := ∃ (C : String) (T : u_T) (N : Nat), vwCl[ci]? = some (C, T, N) ∧ k < N ∧ Cond.fieldLink own ix (T k).1 (T k).2.1 (T k).2.2.1 ∈ gW ∧ ∀ w ∈ u_ws C T N, w ∈ gW
def FP (own : String) (ix ci k : Nat) (ty : FieldType) (fin : Bool) : Prop := ∃ (C : String) (T : u_T) (N : Nat) (ty0 : Nat → FieldType), vwCl[ci]? = some (C, T, N) ∧ k < N ∧ Cond.fieldLink own ix (T k).1 (T k).2.1 (T k).2.2.1 ∈ gW ∧ (∀ w ∈ u_ws C T N, w ∈ gW) ∧ (∀ k, k < N → parseFieldDescriptor (T k).2.2.1 = some (ty0 k)) ∧ (∀ a, a < N → ∀ b, b < N → a ≠ b → (T a).2.1 ≠ (T b).2.1) ∧ (T k).2.2.2 = fin ∧ parseFieldDescriptor (T k).2.2.1 = some ty ∧ (fin = true → (T k).1 = own)
theorem J_get (hK : Ok d Φ own nm cc nL ret rm) {ix ci k : Nat} (hF : FO own ix ci k) (hd : decode cc pc = .ok (.getfield ix, 3)) (hn : pc + 3 = n) (i j : Nat) {g : va_W} (hi : gs[i]? = some g) {a : Nat} {fs : List Value} (hj : g[j]? = some (a, .inr (ci, fs))) {v : Value} (hv : fs[k]? = some v) (kk : J d Φ nL gs ce sl n L (v :: st)) : J d Φ nL gs ce sl pc L (.ref a :: st) := by
  subst hn
  intro H locs ls hP hD hS hl
  obtain ⟨C, T, N, f1, f2, f3, f4⟩ := hF
  obtain ⟨q, hq, -⟩ := fl_at hi hj
  exact va_get (C := C) (T := T) (N := N) (ref := (T k).1) hK.1 hK.2.1 hK.2.2.2.2.1 f4 hK.2.2.2.1 hK.2.2.2.2.2.2.2.2.2.2.1 hP q hq f1 k f2 (hK.2.2.2.2.1 _ f3) (fun _ h => h) hv hd (kk H locs ls hP hD hS hl)
theorem J_put (hK : Ok d Φ own nm cc nL ret rm) {ix ci k : Nat} {ty : FieldType} (hF : FP own ix ci k ty false) (hd : decode cc pc = .ok (.putfield ix, 3)) (hn : pc + 3 = n) (i j : Nat) {g g' : va_W} (hi : gs[i]? = some g) {a : Nat} {fs : List Value} (hj : g[j]? = some (a, .inr (ci, fs))) {v : Value} (hN : narrow ty v = v) (hfit : fits ty v = true) (hl : k < fs.length) (hg : g.set j (a, .inr (ci, fs.set k v)) = g') (hgs : gs.set i g' = gs') (kk : J d Φ nL gs' ce sl n L st) : J d Φ nL gs ce sl pc L (v :: .ref a :: st) := by
  subst hn; subst hg; subst hgs
  intro H locs ls hP hD hS hll
  obtain ⟨C, T, N, ty0, f1, f2, f3, f4, f5, f6, f7, f8, -⟩ := hF
  obtain ⟨q, hq, hset⟩ := fl_at hi hj
  refine va_put (C := C) (T := T) (N := N) (ref := (T k).1) hK.1 hK.2.1 hK.2.2.2.2.1 f4 ty0 f5 f6 hK.2.2.2.1 hK.2.2.2.2.2.2.2.2.2.2.1 hP hD hS q hq f1 k f2 (hK.2.2.2.2.1 _ f3) (fun _ h => h) f7 f8 hN hfit hl hd (fun H1 locs1 h1 h2 h3 => ?_)
  rw [hset] at h1 h2
  exact kk H1 locs1 ls h1 h2 h3 hll
theorem J_putF (hK : Ok d Φ own "<init>" cc nL ret rm) {ix ci k : Nat} {ty : FieldType} (hF : FP own ix ci k ty true) (hd : decode cc pc = .ok (.putfield ix, 3)) (hn : pc + 3 = n) (i j : Nat) {g g' : va_W} (hi : gs[i]? = some g) {a : Nat} {fs : List Value} (hj : g[j]? = some (a, .inr (ci, fs))) {v : Value} (hN : narrow ty v = v) (hfit : fits ty v = true) (hl : k < fs.length) (hg : g.set j (a, .inr (ci, fs.set k v)) = g') (hgs : gs.set i g' = gs') (kk : J d Φ nL gs' ce sl n L st) : J d Φ nL gs ce sl pc L (v :: .ref a :: st) := by
  subst hn; subst hg; subst hgs
  intro H locs ls hP hD hS hll
  obtain ⟨C, T, N, ty0, f1, f2, f3, f4, f5, f6, f7, f8, f9⟩ := hF
  obtain ⟨q, hq, hset⟩ := fl_at hi hj
  refine va_putF (C := C) (T := T) (N := N) (ref := (T k).1) hK.1 hK.2.1 hK.2.2.2.2.1 f4 ty0 f5 f6 hK.2.2.2.1 hK.2.2.2.2.2.2.2.2.2.2.1 hP hD hS q hq f1 k f2 (hK.2.2.2.2.1 _ f3) (fun _ h => h) f7 hK.2.2.2.2.2.2.2.2.1 (f9 rfl) f8 hN hfit hl hd (fun H1 locs1 h1 h2 h3 => ?_)
  rw [hset] at h1 h2
  exact kk H1 locs1 ls h1 h2 h3 hll
theorem J_iald (hK : Ok d Φ own nm cc nL ret rm) (hd : decode cc pc = .ok (.iaload, 1)) (hn : pc + 1 = n) (i j : Nat) {g : va_W} (hi : gs[i]? = some g) {a m : Nat} {f : Nat → Int32} (hj : g[j]? = some (cI d a m f)) {x v : Int32} (hr : rd m f x = some v) (kk : J d Φ nL gs ce sl n L (.int v :: st)) : J d Φ nL gs ce sl pc L (.int x :: .ref a :: st) := by
  subst hn
  intro H locs ls hP hD hS hl
  obtain ⟨q, hq, -⟩ := fl_at hi hj
  obtain ⟨h1, rfl⟩ := rd_ok hr
  exact va_iald hK.1 hK.2.1 hK.2.2.2.2.2.2.2.2.2.2.1 hP q 0 hq rfl (inb_vp h1) hd (kk H locs ls hP hD hS hl)
theorem J_lald (hK : Ok d Φ own nm cc nL ret rm) (hd : decode cc pc = .ok (.laload, 1)) (hn : pc + 1 = n) (i j : Nat) {g : va_W} (hi : gs[i]? = some g) {a m : Nat} {f : Nat → Int64} (hj : g[j]? = some (cJ d a m f)) {x : Int32} {v : Int64} (hr : rd m f x = some v) (kk : J d Φ nL gs ce sl n L (.long v :: st)) : J d Φ nL gs ce sl pc L (.int x :: .ref a :: st) := by
  subst hn
  intro H locs ls hP hD hS hl
  obtain ⟨q, hq, -⟩ := fl_at hi hj
  obtain ⟨h1, rfl⟩ := rd_ok hr
  exact va_lald hK.1 hK.2.1 hK.2.2.2.2.2.2.2.2.2.2.1 hP q 1 hq rfl (inb_vp h1) hd (kk H locs ls hP hD hS hl)
theorem J_iast (hK : Ok d Φ own nm cc nL ret rm) (hd : decode cc pc = .ok (.iastore, 1)) (hn : pc + 1 = n) (i j : Nat) {g g' : va_W} (hi : gs[i]? = some g) {a m : Nat} {f f' : Nat → Int32} (hj : g[j]? = some (cI d a m f)) {x v : Int32} (hr : wr m f x v = some f') (hg : g.set j (cI d a m f') = g') (hgs : gs.set i g' = gs') (kk : J d Φ nL gs' ce sl n L st) : J d Φ nL gs ce sl pc L (.int v :: .int x :: .ref a :: st) := by
  subst hn; subst hg; subst hgs
  intro H locs ls hP hD hS hl
  obtain ⟨q, hq, hset⟩ := fl_at hi hj
  obtain ⟨h1, rfl⟩ := wr_ok hr
  refine va_iast hK.1 hK.2.1 hK.2.2.2.2.2.2.2.2.2.2.1 hP hD hS q 0 hq rfl (inb_vp h1) hd (fun H1 locs1 g1 g2 g3 => ?_)
  rw [hset] at g1 g2
  exact kk H1 locs1 ls g1 g2 g3 hl
theorem J_last (hK : Ok d Φ own nm cc nL ret rm) (hd : decode cc pc = .ok (.lastore, 1)) (hn : pc + 1 = n) (i j : Nat) {g g' : va_W} (hi : gs[i]? = some g) {a m : Nat} {f f' : Nat → Int64} (hj : g[j]? = some (cJ d a m f)) {x : Int32} {v : Int64} (hr : wr m f x v = some f') (hg : g.set j (cJ d a m f') = g') (hgs : gs.set i g' = gs') (kk : J d Φ nL gs' ce sl n L st) : J d Φ nL gs ce sl pc L (.long v :: .int x :: .ref a :: st) := by
  subst hn; subst hg; subst hgs
  intro H locs ls hP hD hS hl
  obtain ⟨q, hq, hset⟩ := fl_at hi hj
  obtain ⟨h1, rfl⟩ := wr_ok hr
  refine va_last hK.1 hK.2.1 hK.2.2.2.2.2.2.2.2.2.2.1 hP hD hS q 1 hq rfl (inb_vp h1) hd (fun H1 locs1 g1 g2 g3 => ?_)
  have e : ∀ y, va_up f x.toNatClampNeg v = vp_updL f x.toNatClampNeg v → gs.flatten.set q y = (gs.set i (g.set j y)).flatten := fun y _ => hset y
  rw [hset] at g1 g2
  exact kk H1 locs1 ls g1 g2 g3 hl
theorem J_alen (hK : Ok d Φ own nm cc nL ret rm) (hd : decode cc pc = .ok (.arraylength, 1)) (hn : pc + 1 = n) (i j : Nat) {g : va_W} (hi : gs[i]? = some g) {a : Nat} {cA : ClassId} {x : vp_A} (hj : g[j]? = some (a, .inl (cA, x))) (t0 : Nat) {ty : FieldType} (ht : (tyD d)[t0]? = some (cA, ty)) {v : Int32} (hv : Int32.ofNat x.1 = v) (kk : J d Φ nL gs ce sl n L (.int v :: st)) : J d Φ nL gs ce sl pc L (.ref a :: st) := by
  subst hn
  intro H locs ls hP hD hS hl
  obtain ⟨q, hq, -⟩ := fl_at hi hj
  exact va_alen hK.1 hK.2.1 hK.2.2.2.2.2.2.2.2.2.2.1 hP q t0 hq ht hv hd (kk H locs ls hP hD hS hl)
theorem J_aald (hK : Ok d Φ own nm cc nL ret rm) (hd : decode cc pc = .ok (.aaload, 1)) (hn : pc + 1 = n) (i j : Nat) {g : va_W} (hi : gs[i]? = some g) {t0 a m : Nat} {r : Nat → Nat} (hj : g[j]? = some (cR d t0 a m (rowsF m r))) {et : FieldType} (ht : (tyD d)[t0]? = some (d.2.1 t0, .array et)) {x : Int32} {q : Nat} (hr : ck x m = some q) (kk : J d Φ nL gs ce sl n L (.ref (r q) :: st)) : J d Φ nL gs ce sl pc L (.int x :: .ref a :: st) := by
  subst hn
  intro H locs ls hP hD hS hl
  obtain ⟨q0, hq, -⟩ := fl_at hi hj
  obtain ⟨h1, rfl, hlt⟩ := ck_ok hr
  have hin := inb_vp h1
  refine W.aald (v := .ref (r x.toNatClampNeg)) (ty := .array et) hK.1 hK.2.1 (hP q0 _ hq) ((hK.2.2.2.2.2.2.2.2.2.2.1.2 t0 _ ht).1 m (fun j => va_rf (rowsF m r j))) rfl (fun q => by cases q) ?_ ?_ rfl rfl hd (kk H locs ls hP hD hS hl)
  · show ¬ (x < 0 ∨ (arrV _ _ _).slots.size ≤ _)
    rw [arrV_size]
    exact hin
  · show (arrV _ _ _).slots[_]? = _
    rw [arrV_read _ _ hlt]
    simp [rowsF, hlt, va_rf]
end BJ

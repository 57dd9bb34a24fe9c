/-! what may be left behind: a world that is part of another; a call whose cells nobody asks for any more -/
theorem J_sub {d : DT} {Φ : JC} {nL : Nat} {gs gs2 : List va_W} {ce sl pc : Nat} {L : List (Nat × Value)} {st : List Value} (h : gs2.flatten.Sublist gs.flatten) (k : J d Φ nL gs2 ce sl pc L st) : J d Φ nL gs ce sl pc L st := by
  intro H locs ls hP hD hS hl
  have hD' := va_D_iff.mp hD
  exact k H locs ls (va_P_iff.mpr fun q hq => va_P_iff.mp hP q (h.subset hq)) (va_D_iff.mpr ⟨hD'.1.sublist (h.map Prod.fst), fun q hq => hD'.2 q (h.subset hq)⟩) hS hl
theorem J_nil {d : DT} {Φ : JC} {nL : Nat} {gs : List va_W} {ce sl pc : Nat} {L : List (Nat × Value)} {st : List Value} (k : J d Φ nL [] ce sl pc L st) : J d Φ nL gs ce sl pc L st := J_sub (gs2 := []) (List.nil_sublist gs.flatten) k
theorem fl_td (l : List va_W) (n : Nat) : l.flatten = (l.take n).flatten ++ (l.drop n).flatten := by rw [← List.flatten_append, List.take_append_drop]
theorem sub_drop {l : List va_W} (n : Nat) : (l.drop n).flatten.Sublist l.flatten := by
  have h := fl_td l n
  rw [h]
  exact List.sublist_append_right _ _
theorem sub_take {l : List va_W} (n : Nat) : (l.take n).flatten.Sublist l.flatten := by
  have h := fl_td l n
  rw [h]
  exact List.sublist_append_left _ _
theorem J_take {d : DT} {Φ : JC} {nL : Nat} {gs gs2 : List va_W} {ce sl pc : Nat} {L : List (Nat × Value)} {st : List Value} (n : Nat) (h : gs.take n = gs2) (k : J d Φ nL gs2 ce sl pc L st) : J d Φ nL gs ce sl pc L st := by
  subst h
  exact J_sub (sub_take n) k
theorem J_drp {d : DT} {Φ : JC} {nL : Nat} {gs gs2 : List va_W} {ce sl pc : Nat} {L : List (Nat × Value)} {st : List Value} (n : Nat) (h : gs.drop n = gs2) (k : J d Φ nL gs2 ce sl pc L st) : J d Φ nL gs ce sl pc L st := by
  subst h
  exact J_sub (sub_drop n) k
theorem J_newF {d : DT} {Φ : JC} {own nm : String} {cc : ByteArray} {nL : Nat} {ret : Option FieldType} {rm : Room} {gs : List va_W} {ce sl pc n : Nat} {L : List (Nat × Value)} {st : List Value} (hK : Ok d Φ own nm cc nL ret rm) {ix ci N : Nat} {C : String} {T : u_T} (hd : decode cc pc = .ok (.new ix, 3)) (hn : pc + 3 = n) (hw : Cond.classLink own ix C ∈ gW ∧ Cond.instantiable C N ∈ gW ∧ Cond.initialized C ∈ gW ∧ ∀ w ∈ u_ws C T N, w ∈ gW) (hc : vwCl[ci]? = some (C, T, N)) (ty : Nat → FieldType) (hty : ∀ k, k < N → parseFieldDescriptor (T k).2.2.1 = some (ty k)) {fs : List Value} (hfs : ∀ j, j < N → defaultValue (ty j) = vp_V fs j)
    {ce' sl' : Nat} (hce : ce + 1 = ce') (hsl : sl + N = sl') (h1 : ce' ≤ rm.cells) (h2 : sl' ≤ rm.slots) (kk : ∀ q : Nat, J d Φ nL ([cO ci q fs] :: gs) ce' sl' n L (.ref q :: st)) : J d Φ nL gs ce sl pc L st :=
  J_new hK hd hn hw hc ty hty hfs hce hsl h1 h2 (fun q => J_perm (by
    rw [List.flatten_append, List.flatten_cons]
    exact (List.perm_append_comm).trans (by simp)) (kk q))

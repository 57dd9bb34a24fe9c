/-! what may be left behind: a world that is part of another; a call whose cells nobody asks for any more -/
theorem J_sub {d : DT} {Φ : JC} {nL : Nat} {gs gs2 : List va_W} {ce sl pc : Nat} {L : List (Nat × Value)} {st : List Value} (h : gs2.flatten.Sublist gs.flatten) (k : J d Φ nL gs2 ce sl pc L st) : J d Φ nL gs ce sl pc L st := by
  intro H locs ls hP hD hS hl
  have hD' := va_D_iff.mp hD
  exact k H locs ls (va_P_iff.mpr fun q hq => va_P_iff.mp hP q (h.subset hq)) (va_D_iff.mpr ⟨hD'.1.sublist (h.map Prod.fst), fun q hq => hD'.2 q (h.subset hq)⟩) hS hl
theorem J_nil {d : DT} {Φ : JC} {nL : Nat} {gs : List va_W} {ce sl pc : Nat} {L : List (Nat × Value)} {st : List Value} (k : J d Φ nL [] ce sl pc L st) : J d Φ nL gs ce sl pc L st := J_sub (gs2 := []) (List.nil_sublist gs.flatten) k
theorem fl_td (l : List va_W) (n : Nat) : l.flatten = (l.take n).flatten ++ (l.drop n).flatten := by rw [← List.flatten_append, List.take_append_drop]
theorem sub_drop {l : List va_W} (n : Nat) : (l.drop n).flatten.Sublist l.flatten := by
  have h := fl_td l n
  rw [h]
  exact List.sublist_append_right _ _
theorem sub_take {l : List va_W} (n : Nat) : (l.take n).flatten.Sublist l.flatten := by
  have h := fl_td l n
  rw [h]
  exact List.sublist_append_left _ _

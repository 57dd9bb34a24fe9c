/-! String.length and String.charAt of the text constants -/
def slen (p : Nat) : Option Int32 := match strT[p]? with
  | some q => some (Int32.ofNat q.2.2.2.length)
  | none => none
def schar (p : Nat) (i : Int32) : Option Int32 := match strT[p]? with
  | some q => rd q.2.2.2.length (fun j => q.2.2.2.getD j 0) i
  | none => none
section BT
variable {d : DT} {Φ : JC} {own nm : String} {cc : ByteArray} {nL : Nat} {ret : Option FieldType} {rm : Room} {gs : List va_W} {ce sl pc n : Nat} {L : List (Nat × Value)} {st : List Value}
theorem J_cst (hK : Ok d Φ own nm cc nL ret rm) {ix : Nat} (hd : decode cc pc = .ok (.getstatic ix, 3)) (hn : pc + 3 = n) (hw : Cond.fieldLink own ix "java/lang/String" "COMPACT_STRINGS" "Z" ∈ gW) (kk : J d Φ nL gs ce sl n L (.int 1 :: st)) : J d Φ nL gs ce sl pc L st := by
  subst hn
  intro H locs ls hP hD hS hl
  exact va_gets hK.1 hK.2.1 hK.2.2.2.2.2.2.2.2.2.2.2.2.2.2.2.2.1 hS hK.2.2.2.1 (hK.2.2.2.2.1 _ hw) (fun _ h => h) hd (kk H locs ls hP hD hS hl)
theorem J_fmt (hK : Ok d Φ own nm cc nL ret rm) {ix : Nat} (hd : decode cc pc = .ok (.getstatic ix, 3)) (hn : pc + 3 = n) (hw : Cond.fieldLink own ix "jdk/internal/util/Preconditions" "SIOOBE_FORMATTER" "Ljava/util/function/BiFunction;" ∈ gW) (kk : ∀ w : Value, w.category = 1 → J d Φ nL gs ce sl n L (w :: st)) : J d Φ nL gs ce sl pc L st := by
  subst hn
  intro H locs ls hP hD hS hl
  rcases hK.2.2.2.2.2.2.2.2.2.2.2.2.2.2.2.2.2.1 with h | ⟨t, h⟩
  · exact va_gets hK.1 hK.2.1 h hS hK.2.2.2.1 (hK.2.2.2.2.1 _ hw) (fun _ h => h) hd (kk .null rfl H locs ls hP hD hS hl)
  · exact va_gets hK.1 hK.2.1 h hS hK.2.2.2.1 (hK.2.2.2.2.1 _ hw) (fun _ h => h) hd (kk (.ref t) rfl H locs ls hP hD hS hl)
theorem J_sget (hK : Ok d Φ own nm cc nL ret rm) {ix : Nat} {fn fd : String} {v : Value} {a : Nat} (hd : decode cc pc = .ok (.getfield ix, 3)) (hn : pc + 3 = n) (hw : Cond.fieldLink own ix "java/lang/String" fn fd ∈ gW) (hE : va_OF "java/lang/String" fn fd v a Φ.2.2.2.2.2.2.2.2.2.2.1 Φ.2.2.2.2.1 Φ.2.2.2.2.1.heap) (kk : J d Φ nL gs ce sl n L (v :: st)) : J d Φ nL gs ce sl pc L (.ref a :: st) := by
  subst hn
  intro H locs ls hP hD hS hl
  exact vk_getf hK.1 hK.2.1 hE hS hK.2.2.2.1 (hK.2.2.2.2.1 _ hw) (fun _ h => h) hd (kk H locs ls hP hD hS hl)
theorem J_stlen (hK : Ok d Φ own nm cc nL ret rm) {ty : FieldType} {t N : Nat} {f : Nat → Value} (hd : decode cc pc = .ok (.arraylength, 1)) (hn : pc + 1 = n) (hT : va_T ty t N f Φ.2.2.2.2.2.2.2.2.2.2.1 Φ.2.2.2.2.1 Φ.2.2.2.2.1.heap) (kk : J d Φ nL gs ce sl n L (.int (Int32.ofNat N) :: st)) : J d Φ nL gs ce sl pc L (.ref t :: st) := by
  subst hn
  intro H locs ls hP hD hS hl
  exact va_tlen hK.1 hK.2.1 hT hS rfl hd (kk H locs ls hP hD hS hl)
theorem J_stb (hK : Ok d Φ own nm cc nL ret rm) {t N : Nat} {f : Nat → Value} {x : Int32} {v : Value} (hd : decode cc pc = .ok (.baload, 1)) (hn : pc + 1 = n) (hT : va_T .byte t N f Φ.2.2.2.2.2.2.2.2.2.2.1 Φ.2.2.2.2.1 Φ.2.2.2.2.1.heap) (hin : inb x N = true) (hv : f x.toNatClampNeg = v) (kk : J d Φ nL gs ce sl n L (v :: st)) : J d Φ nL gs ce sl pc L (.int x :: .ref t :: st) := by
  subst hn
  intro H locs ls hP hD hS hl
  exact va_tb hK.1 hK.2.1 hT hS (inb_vp hin) hv hd (kk H locs ls hP hD hS hl)
end BT
theorem Ok.str {d : DT} {Φ : JC} {own nm : String} {cc : ByteArray} {nL : Nat} {ret : Option FieldType} {rm : Room} (hK : Ok d Φ own nm cc nL ret rm) {p : Nat} {q : String × Nat × String × List Int32} (h : strT[p]? = some q) : sK1 d Φ.2.2.2.2.2.2.2.2.2.2.1 Φ.2.2.2.2.1 Φ.2.2.2.2.1.heap p q := hK.2.2.2.2.2.2.2.2.2.2.2.2.2.2.2.2.2.2 p q h
set_option maxHeartbeats 4000000 in
theorem kJ_coder (l : Launch) (d : DT) (p : Nat) {q : String × Nat × String × List Int32} (hq : strT[p]? = some q) : Ct l d yJ0_coder_7d493 cJ0_coder_7d493 1 (some .byte) { frames := 0, cells := 0, slots := 0, locals := 0 } [.ref (d.2.2.2.1 p)] [] (fun _ : Unit => (some (.int 0), [])) := by
  refine Ct.of (by decide) (Nat.le_of_ble_eq_true rfl) ?_
  intro Φ hl hK hR
  subst hl
  have hK : Ok d Φ RJ0 "coder" cJ0_coder_7d493 1 (some .byte) { frames := 0, cells := 0, slots := 0, locals := 0 } := hK
  have hs := hK.str hq
  show J d Φ 1 [] 0 0 0 [(0, .ref (d.2.2.2.1 p))] []
  refine J_cst hK dJ0_coder_7d493_0 rfl wf_RJ0_38 ?_
  refine J_if_eq (tg := 13) hK dJ0_coder_7d493_3 rfl rfl (fun hc => absurd hc (by decide)) (fun _ => ?_)
  refine J_aload_n hK dJ0_coder_7d493_6 rfl 0 rfl rfl ?_
  refine J_sget hK dJ0_coder_7d493_7 rfl wf_RJ0_15 hs.2.1 ?_
  refine J_goto hK dJ0_coder_7d493_10 (n := 14) rfl ?_
  exact J_zret hK hR dJ0_coder_7d493_14 () rfl rfl (by decide) (by decide)
set_option maxHeartbeats 4000000 in
theorem kJ_isLatin1 (l : Launch) (d : DT) (p : Nat) {q : String × Nat × String × List Int32} (hq : strT[p]? = some q) : Ct l d yJ0_isLatin1_aae02 cJ0_isLatin1_aae02 1 (some .boolean) { frames := 0, cells := 0, slots := 0, locals := 0 } [.ref (d.2.2.2.1 p)] [] (fun _ : Unit => (some (.int 1), [])) := by
  refine Ct.of (by decide) (Nat.le_of_ble_eq_true rfl) ?_
  intro Φ hl hK hR
  subst hl
  have hK : Ok d Φ RJ0 "isLatin1" cJ0_isLatin1_aae02 1 (some .boolean) { frames := 0, cells := 0, slots := 0, locals := 0 } := hK
  have hs := hK.str hq
  show J d Φ 1 [] 0 0 0 [(0, .ref (d.2.2.2.1 p))] []
  refine J_cst hK dJ0_isLatin1_aae02_0 rfl wf_RJ0_38 ?_
  refine J_if_eq (tg := 17) hK dJ0_isLatin1_aae02_3 rfl rfl (fun hc => absurd hc (by decide)) (fun _ => ?_)
  refine J_aload_n hK dJ0_isLatin1_aae02_6 rfl 0 rfl rfl ?_
  refine J_sget hK dJ0_isLatin1_aae02_7 rfl wf_RJ0_15 hs.2.1 ?_
  refine J_if_ne (tg := 17) hK dJ0_isLatin1_aae02_10 rfl rfl (fun hc => absurd rfl hc) (fun _ => ?_)
  refine J_iconst (v := 1) hK dJ0_isLatin1_aae02_13 rfl (by decide) ?_
  refine J_goto hK dJ0_isLatin1_aae02_14 (n := 18) rfl ?_
  exact J_zret hK hR dJ0_isLatin1_aae02_18 () rfl rfl (by decide) (by decide)
set_option maxHeartbeats 4000000 in
theorem kJ_length (l : Launch) (d : DT) (p : Nat) {v : Int32} (hv : slen p = some v) : Ct l d yJ0_length_8abf5 cJ0_length_8abf5 1 (some .int) { frames := 1, cells := 0, slots := 0, locals := 20 } [.ref (d.2.2.2.1 p)] [] (fun _ : Unit => (some (.int v), [])) := by
  unfold slen at hv
  split at hv
  case h_2 => cases hv
  case h_1 q hq =>
  cases hv
  refine Ct.of (by decide) (Nat.le_of_ble_eq_true rfl) ?_
  intro Φ hl hK hR
  subst hl
  have hK : Ok d Φ RJ0 "length" cJ0_length_8abf5 1 (some .int) { frames := 1, cells := 0, slots := 0, locals := 20 } := hK
  have hs := hK.str hq
  show J d Φ 1 [] 0 0 0 [(0, .ref (d.2.2.2.1 p))] []
  refine J_aload_n hK dJ0_length_8abf5_0 rfl 0 rfl rfl ?_
  refine J_sget hK dJ0_length_8abf5_1 rfl wf_RJ0_9 hs.2.2.1 ?_
  refine J_stlen hK dJ0_length_8abf5_4 rfl hs.2.2.2.1 ?_
  refine J_aload_n hK dJ0_length_8abf5_5 rfl 0 rfl rfl ?_
  refine J_callT (gr := []) (gs' := fun _ => []) (st' := fun _ => [.int 0, .int (Int32.ofNat q.2.2.2.length)]) (st := [.int (Int32.ofNat q.2.2.2.length)]) hK dJ0_length_8abf5_6 cv_RJ0_335 iv_yJ0_coder_7d493 (As := []) (kJ_coder _ d p hq) rfl rfl (Nat.le_of_ble_eq_true rfl) (by decide) hs.1 [] [] rfl rfl rfl rfl [] rfl (fun _ => rfl) (fun _ => rfl) rfl rfl rfl (fun _ => rfl) (fun _ => ?_)
  refine J_ishr hK dJ0_length_8abf5_9 rfl ?_
  rw [sb_shr0]
  exact J_iret hK hR dJ0_length_8abf5_10 () rfl (by decide) (by decide)
set_option maxHeartbeats 4000000 in
theorem kJ_pre (l : Launch) (d : DT) (x y : Int32) (w : Value) (hw : w.category = 1) (h1 : ¬ x < 0) (h2 : x < y) : Ct l d yJ3_checkIndex_8e157 cJ3_checkIndex_8e157 3 (some .int) { frames := 0, cells := 0, slots := 0, locals := 0 } [.int x, .int y, w] [] (fun _ : Unit => (some (.int x), [])) := by
  refine Ct.of (by decide) (by show (lg_sl [.int x, .int y, w]).length ≤ 3; cases w <;> first | exact Nat.le_of_ble_eq_true rfl | cases hw) ?_
  intro Φ hl hK hR
  subst hl
  have hK : Ok d Φ RJ3 "checkIndex" cJ3_checkIndex_8e157 3 (some .int) { frames := 0, cells := 0, slots := 0, locals := 0 } := hK
  show J d Φ 3 [] 0 0 0 [(0, .int x), (1, .int y), (2, w)] []
  refine J_iload_n hK dJ3_checkIndex_8e157_0 rfl 0 rfl rfl ?_
  refine J_if_lt (tg := 9) hK dJ3_checkIndex_8e157_1 rfl rfl (fun hc => absurd hc h1) (fun _ => ?_)
  refine J_iload_n hK dJ3_checkIndex_8e157_4 rfl 0 rfl rfl ?_
  refine J_iload_n hK dJ3_checkIndex_8e157_5 rfl 1 rfl rfl ?_
  refine J_icmp_lt (tg := 16) hK dJ3_checkIndex_8e157_6 rfl rfl (fun _ => ?_) (fun hc => absurd h2 hc)
  refine J_iload_n hK dJ3_checkIndex_8e157_16 rfl 0 rfl rfl ?_
  exact J_iret hK hR dJ3_checkIndex_8e157_17 () rfl (by decide) (by decide)
set_option maxHeartbeats 4000000 in
theorem kJ_check (l : Launch) (d : DT) (x y : Int32) (h1 : ¬ x < 0) (h2 : x < y) : Ct l d yJ0_checkIndex_df160 cJ0_checkIndex_df160 2 none { frames := 1, cells := 0, slots := 0, locals := 22 } [.int x, .int y] [] (fun _ : Unit => (none, [])) := by
  refine Ct.of (by decide) (Nat.le_of_ble_eq_true rfl) ?_
  intro Φ hl hK hR
  subst hl
  have hK : Ok d Φ RJ0 "checkIndex" cJ0_checkIndex_df160 2 none { frames := 1, cells := 0, slots := 0, locals := 22 } := hK
  show J d Φ 2 [] 0 0 0 [(0, .int x), (1, .int y)] []
  refine J_iload_n hK dJ0_checkIndex_df160_0 rfl 0 rfl rfl ?_
  refine J_iload_n hK dJ0_checkIndex_df160_1 rfl 1 rfl rfl ?_
  refine J_fmt hK dJ0_checkIndex_df160_2 rfl wf_RJ0_1053 (fun w hw => ?_)
  refine J_callS (gr := []) (gs' := fun _ => []) (st' := fun _ => [.int x]) (st := []) hK dJ0_checkIndex_df160_5 cv_RJ0_1059 ws_yJ3_checkIndex_8e157 (As := [.int x, .int y, w]) (kJ_pre _ d x y w hw h1 h2) rfl rfl (Nat.le_of_ble_eq_true rfl) (by decide) [] [] rfl rfl rfl rfl [] rfl (fun _ => rfl) (fun _ => rfl) rfl rfl rfl (fun _ => rfl) (fun _ => ?_)
  refine J_pop hK dJ0_checkIndex_df160_8 rfl rfl ?_
  exact J_vret hK hR dJ0_checkIndex_df160_9 () rfl (by decide) (by decide)
theorem str_some_length {p : Nat} {v : Int32} (h : slen p = some v) : ∃ q, strT[p]? = some q := by
  unfold slen at h
  split at h
  · next q hq => exact ⟨q, hq⟩
  · cases h
theorem str_some_charAt {p : Nat} {i v : Int32} (h : schar p i = some v) : ∃ q, strT[p]? = some q := by
  unfold schar at h
  split at h
  · next q hq => exact ⟨q, hq⟩
  · cases h
theorem str_ascii : ∀ q ∈ strT, ∀ b ∈ q.2.2.2, ((b &&& 255).toUInt32 % 65536).toInt32 = b ∧ narrow .char (.int b) = .int b := by decide +kernel
theorem str_len : ∀ q ∈ strT, q.2.2.2.length < 100 := by decide +kernel
set_option maxHeartbeats 4000000 in
theorem kJ_latin (l : Launch) (d : DT) (p : Nat) {q : String × Nat × String × List Int32} (hq : strT[p]? = some q) (x : Int32) {v : Int32} (hv : rd q.2.2.2.length (fun j => q.2.2.2.getD j 0) x = some v) : Ct l d yJ1_charAt_3b067 cJ1_charAt_3b067 2 (some .char) { frames := 2, cells := 0, slots := 0, locals := 43 } [.ref (d.2.2.2.2 p), .int x] [] (fun _ : Unit => (some (.int v), [])) := by
  obtain ⟨hin, rfl⟩ := rd_ok hv
  have hlt : x.toNatClampNeg < q.2.2.2.length := Nat.not_le.mp fun z => (inb_vp hin) (Or.inr z)
  have hneg : ¬ x < 0 := fun z => (inb_vp hin) (Or.inl z)
  have hlen := str_len q (List.mem_of_getElem? hq)
  have hmem : q.2.2.2.getD x.toNatClampNeg 0 ∈ q.2.2.2 := by rw [List.getD_eq_getElem?_getD, List.getElem?_eq_getElem hlt]; exact List.getElem_mem hlt
  have hasc := str_ascii q (List.mem_of_getElem? hq) _ hmem
  have hlt2 : x < Int32.ofNat q.2.2.2.length := by
    obtain ⟨j, hj, rfl⟩ := vp_in_of (inb_vp hin) (by omega)
    exact nI_lt hj (by omega)
  refine Ct.of (by decide) (Nat.le_of_ble_eq_true rfl) ?_
  intro Φ hl hK hR
  subst hl
  have hK : Ok d Φ RJ1 "charAt" cJ1_charAt_3b067 2 (some .char) { frames := 2, cells := 0, slots := 0, locals := 43 } := hK
  have hs := hK.str hq
  show J d Φ 2 [] 0 0 0 [(0, .ref (d.2.2.2.2 p)), (1, .int x)] []
  refine J_iload_n hK dJ1_charAt_3b067_0 rfl 1 rfl rfl ?_
  refine J_aload_n hK dJ1_charAt_3b067_1 rfl 0 rfl rfl ?_
  refine J_stlen hK dJ1_charAt_3b067_2 rfl hs.2.2.2.1 ?_
  refine J_callS (gr := []) (gs' := fun _ => []) (st' := fun _ => []) (st := []) hK dJ1_charAt_3b067_3 cv_RJ1_9 ws_yJ0_checkIndex_df160 (As := [.int x, .int (Int32.ofNat q.2.2.2.length)]) (kJ_check _ d x _ hneg hlt2) rfl rfl (Nat.le_of_ble_eq_true rfl) (by decide) [] [] rfl rfl rfl rfl [] rfl (fun _ => rfl) (fun _ => rfl) rfl rfl rfl (fun _ => rfl) (fun _ => ?_)
  refine J_aload_n hK dJ1_charAt_3b067_6 rfl 0 rfl rfl ?_
  refine J_iload_n hK dJ1_charAt_3b067_7 rfl 1 rfl rfl ?_
  refine J_stb (v := .int (q.2.2.2.getD x.toNatClampNeg 0)) hK dJ1_charAt_3b067_8 rfl hs.2.2.2.1 hin rfl ?_
  refine J_sipush (v := 255) hK dJ1_charAt_3b067_9 rfl (by decide) ?_
  refine J_iand hK dJ1_charAt_3b067_12 rfl ?_
  refine J_i2c hK dJ1_charAt_3b067_13 rfl ?_
  rw [hasc.1]
  exact J_zret hK hR dJ1_charAt_3b067_14 () hasc.2 rfl (by decide) (by decide)
set_option maxHeartbeats 4000000 in
theorem kJ_charAt (l : Launch) (d : DT) (p : Nat) (x : Int32) {v : Int32} (hv : schar p x = some v) : Ct l d yJ0_charAt_5068e cJ0_charAt_5068e 2 (some .char) { frames := 3, cells := 0, slots := 0, locals := 64 } [.ref (d.2.2.2.1 p), .int x] [] (fun _ : Unit => (some (.int v), [])) := by
  unfold schar at hv
  split at hv
  case h_2 => cases hv
  case h_1 q hq =>
  have hch : narrow .char (.int v) = .int v := by
    obtain ⟨hin, rfl⟩ := rd_ok hv
    have hlt : x.toNatClampNeg < q.2.2.2.length := Nat.not_le.mp fun z => (inb_vp hin) (Or.inr z)
    have hmem : q.2.2.2.getD x.toNatClampNeg 0 ∈ q.2.2.2 := by rw [List.getD_eq_getElem?_getD, List.getElem?_eq_getElem hlt]; exact List.getElem_mem hlt
    exact (str_ascii q (List.mem_of_getElem? hq) _ hmem).2
  refine Ct.of (by decide) (Nat.le_of_ble_eq_true rfl) ?_
  intro Φ hl hK hR
  subst hl
  have hK : Ok d Φ RJ0 "charAt" cJ0_charAt_5068e 2 (some .char) { frames := 3, cells := 0, slots := 0, locals := 64 } := hK
  have hs := hK.str hq
  show J d Φ 2 [] 0 0 0 [(0, .ref (d.2.2.2.1 p)), (1, .int x)] []
  refine J_aload_n hK dJ0_charAt_5068e_0 rfl 0 rfl rfl ?_
  refine J_callT (gr := []) (gs' := fun _ => []) (st' := fun _ => [.int 1]) (st := []) hK dJ0_charAt_5068e_1 cv_RJ0_492 iv_yJ0_isLatin1_aae02 (As := []) (kJ_isLatin1 _ d p hq) rfl rfl (Nat.le_of_ble_eq_true rfl) (by decide) hs.1 [] [] rfl rfl rfl rfl [] rfl (fun _ => rfl) (fun _ => rfl) rfl rfl rfl (fun _ => rfl) (fun _ => ?_)
  refine J_if_eq (tg := 16) hK dJ0_charAt_5068e_4 rfl rfl (fun hc => absurd hc (by decide)) (fun _ => ?_)
  refine J_aload_n hK dJ0_charAt_5068e_7 rfl 0 rfl rfl ?_
  refine J_sget hK dJ0_charAt_5068e_8 rfl wf_RJ0_9 hs.2.2.1 ?_
  refine J_iload_n hK dJ0_charAt_5068e_11 rfl 1 rfl rfl ?_
  refine J_callS (gr := []) (gs' := fun _ => []) (st' := fun _ => [.int v]) (st := []) hK dJ0_charAt_5068e_12 cv_RJ0_495 ws_yJ1_charAt_3b067 (As := [.ref (d.2.2.2.2 p), .int x]) (kJ_latin _ d p hq x hv) rfl rfl (Nat.le_of_ble_eq_true rfl) (by decide) [] [] rfl rfl rfl rfl [] rfl (fun _ => rfl) (fun _ => rfl) rfl rfl rfl (fun _ => rfl) (fun _ => ?_)
  exact J_zret hK hR dJ0_charAt_5068e_15 () hch rfl (by decide) (by decide)

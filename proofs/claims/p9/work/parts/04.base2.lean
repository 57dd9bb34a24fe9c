/-! the rules of J: what asks the cells for nothing -/
theorem J_iconst {d : DT} {Φ : JC} {own nm : String} {cc : ByteArray} {nL : Nat} {ret : Option FieldType} {rm : Room} {gs : List va_W} {ce sl pc n : Nat} {L : List (Nat × Value)} {st : List Value} (hK : Ok d Φ own nm cc nL ret rm) {z : Int} {v : Int32} (hd : decode cc pc = .ok (.iconst z, 1)) (hn : pc + 1 = n) (hv : Int32.ofInt z = v) (k : J d Φ nL gs ce sl n L (.int v :: st)) : J d Φ nL gs ce sl pc L (st) := by
  subst hn
  exact fun H locs ls hP hD hS hl => lv_iconst hK.1 hK.2.1 hd hv (k H locs ls hP hD hS hl)
theorem J_bipush {d : DT} {Φ : JC} {own nm : String} {cc : ByteArray} {nL : Nat} {ret : Option FieldType} {rm : Room} {gs : List va_W} {ce sl pc n : Nat} {L : List (Nat × Value)} {st : List Value} (hK : Ok d Φ own nm cc nL ret rm) {z : Int} {v : Int32} (hd : decode cc pc = .ok (.bipush z, 2)) (hn : pc + 2 = n) (hv : (Int8.ofInt z).toInt32 = v) (k : J d Φ nL gs ce sl n L (.int v :: st)) : J d Φ nL gs ce sl pc L (st) := by
  subst hn
  exact fun H locs ls hP hD hS hl => lv_bipush hK.1 hK.2.1 hd hv (k H locs ls hP hD hS hl)
theorem J_sipush {d : DT} {Φ : JC} {own nm : String} {cc : ByteArray} {nL : Nat} {ret : Option FieldType} {rm : Room} {gs : List va_W} {ce sl pc n : Nat} {L : List (Nat × Value)} {st : List Value} (hK : Ok d Φ own nm cc nL ret rm) {z : Int} {v : Int32} (hd : decode cc pc = .ok (.sipush z, 3)) (hn : pc + 3 = n) (hv : (Int16.ofInt z).toInt32 = v) (k : J d Φ nL gs ce sl n L (.int v :: st)) : J d Φ nL gs ce sl pc L (st) := by
  subst hn
  exact fun H locs ls hP hD hS hl => lv_sipush hK.1 hK.2.1 hd hv (k H locs ls hP hD hS hl)
theorem J_lconst {d : DT} {Φ : JC} {own nm : String} {cc : ByteArray} {nL : Nat} {ret : Option FieldType} {rm : Room} {gs : List va_W} {ce sl pc n : Nat} {L : List (Nat × Value)} {st : List Value} (hK : Ok d Φ own nm cc nL ret rm) {z : Fin 2} {v : Int64} (hd : decode cc pc = .ok (.lconst z, 1)) (hn : pc + 1 = n) (hv : Int64.ofNat (z : Nat) = v) (k : J d Φ nL gs ce sl n L (.long v :: st)) : J d Φ nL gs ce sl pc L (st) := by
  subst hn
  exact fun H locs ls hP hD hS hl => lv_lconst hK.1 hK.2.1 hd hv (k H locs ls hP hD hS hl)
theorem J_ldc {d : DT} {Φ : JC} {own nm : String} {cc : ByteArray} {nL : Nat} {ret : Option FieldType} {rm : Room} {gs : List va_W} {ce sl pc n : Nat} {L : List (Nat × Value)} {st : List Value} (hK : Ok d Φ own nm cc nL ret rm) {ix : Nat} {v : Int32} (hd : decode cc pc = .ok (.ldc ix, 2)) (hn : pc + 2 = n) (hw : Cond.constant own ix v ∈ gW) (k : J d Φ nL gs ce sl n L (.int v :: st)) : J d Φ nL gs ce sl pc L (st) := by
  subst hn
  exact fun H locs ls hP hD hS hl => lv_ldc hK.1 hK.2.1 hK.2.2.2.1 (hK.2.2.2.2.1 _ hw) hd (k H locs ls hP hD hS hl)
theorem J_ldcw {d : DT} {Φ : JC} {own nm : String} {cc : ByteArray} {nL : Nat} {ret : Option FieldType} {rm : Room} {gs : List va_W} {ce sl pc n : Nat} {L : List (Nat × Value)} {st : List Value} (hK : Ok d Φ own nm cc nL ret rm) {ix : Nat} {v : Int32} (hd : decode cc pc = .ok (.ldc_w ix, 3)) (hn : pc + 3 = n) (hw : Cond.constant own ix v ∈ gW) (k : J d Φ nL gs ce sl n L (.int v :: st)) : J d Φ nL gs ce sl pc L (st) := by
  subst hn
  exact fun H locs ls hP hD hS hl => lv_ldcw hK.1 hK.2.1 hK.2.2.2.1 (hK.2.2.2.2.1 _ hw) hd (k H locs ls hP hD hS hl)
theorem J_ldc2 {d : DT} {Φ : JC} {own nm : String} {cc : ByteArray} {nL : Nat} {ret : Option FieldType} {rm : Room} {gs : List va_W} {ce sl pc n : Nat} {L : List (Nat × Value)} {st : List Value} (hK : Ok d Φ own nm cc nL ret rm) {ix : Nat} {v : Int64} (hd : decode cc pc = .ok (.ldc2_w ix, 3)) (hn : pc + 3 = n) (hw : Cond.constantLong own ix v ∈ gW) (k : J d Φ nL gs ce sl n L (.long v :: st)) : J d Φ nL gs ce sl pc L (st) := by
  subst hn
  exact fun H locs ls hP hD hS hl => lv_ldc2 hK.1 hK.2.1 hK.2.2.2.1 (hK.2.2.2.2.1 _ hw) hd (k H locs ls hP hD hS hl)
theorem J_iload_n {d : DT} {Φ : JC} {own nm : String} {cc : ByteArray} {nL : Nat} {ret : Option FieldType} {rm : Room} {gs : List va_W} {ce sl pc n : Nat} {L : List (Nat × Value)} {st : List Value} (hK : Ok d Φ own nm cc nL ret rm) {i : Fin 4} {j : Nat} {x : Int32} (hd : decode cc pc = .ok (.iload_n i, 1)) (hn : pc + 1 = n) (q : Nat) (hq : L[q]? = some (j, .int x)) (hi : (i : Nat) = j) (k : J d Φ nL gs ce sl n L (.int x :: st)) : J d Φ nL gs ce sl pc L st := by
  subst hn
  exact fun H locs ls hP hD hS hl => lv_iload_n hK.1 hK.2.1 hd hi (lv_at hl q hq) (k H locs ls hP hD hS hl)
theorem J_iload {d : DT} {Φ : JC} {own nm : String} {cc : ByteArray} {nL : Nat} {ret : Option FieldType} {rm : Room} {gs : List va_W} {ce sl pc n : Nat} {L : List (Nat × Value)} {st : List Value} (hK : Ok d Φ own nm cc nL ret rm) {i : Nat} {x : Int32} (hd : decode cc pc = .ok (.iload i, 2)) (hn : pc + 2 = n) (q : Nat) (hq : L[q]? = some (i, .int x)) (k : J d Φ nL gs ce sl n L (.int x :: st)) : J d Φ nL gs ce sl pc L st := by
  subst hn
  exact fun H locs ls hP hD hS hl => lv_iload hK.1 hK.2.1 hd (lv_at hl q hq) (k H locs ls hP hD hS hl)
theorem J_istore_n {d : DT} {Φ : JC} {own nm : String} {cc : ByteArray} {nL : Nat} {ret : Option FieldType} {rm : Room} {gs : List va_W} {ce sl pc n : Nat} {L : List (Nat × Value)} {st : List Value} (hK : Ok d Φ own nm cc nL ret rm) {i : Fin 4} {j : Nat} {x : Int32} {L' : List (Nat × Value)} (hd : decode cc pc = .ok (.istore_n i, 1)) (hn : pc + 1 = n) (hi : (i : Nat) = j) (hj : j < nL) (hl' : (j, Value.int x) :: L.filter (fun q => !(q.1 == j) && !(q.1 + 1 == j && q.2.category == 2)) = L') (k : J d Φ nL gs ce sl n L' st) : J d Φ nL gs ce sl pc L (.int x :: st) := by
  subst hn
  exact fun H locs ls hP hD hS hl => lv_istore_n hK.1 hK.2.1 hd hi hl hj hl' (fun ls' hl2 => k H locs ls' hP hD hS hl2)
theorem J_istore {d : DT} {Φ : JC} {own nm : String} {cc : ByteArray} {nL : Nat} {ret : Option FieldType} {rm : Room} {gs : List va_W} {ce sl pc n : Nat} {L : List (Nat × Value)} {st : List Value} (hK : Ok d Φ own nm cc nL ret rm) {i : Nat} {x : Int32} {L' : List (Nat × Value)} (hd : decode cc pc = .ok (.istore i, 2)) (hn : pc + 2 = n) (hj : i < nL) (hl' : (i, Value.int x) :: L.filter (fun q => !(q.1 == i) && !(q.1 + 1 == i && q.2.category == 2)) = L') (k : J d Φ nL gs ce sl n L' st) : J d Φ nL gs ce sl pc L (.int x :: st) := by
  subst hn
  exact fun H locs ls hP hD hS hl => lv_istore hK.1 hK.2.1 hd hl hj hl' (fun ls' hl2 => k H locs ls' hP hD hS hl2)
theorem J_lload_n {d : DT} {Φ : JC} {own nm : String} {cc : ByteArray} {nL : Nat} {ret : Option FieldType} {rm : Room} {gs : List va_W} {ce sl pc n : Nat} {L : List (Nat × Value)} {st : List Value} (hK : Ok d Φ own nm cc nL ret rm) {i : Fin 4} {j : Nat} {x : Int64} (hd : decode cc pc = .ok (.lload_n i, 1)) (hn : pc + 1 = n) (q : Nat) (hq : L[q]? = some (j, .long x)) (hi : (i : Nat) = j) (k : J d Φ nL gs ce sl n L (.long x :: st)) : J d Φ nL gs ce sl pc L st := by
  subst hn
  exact fun H locs ls hP hD hS hl => lv_lload_n hK.1 hK.2.1 hd hi (lv_at hl q hq) (k H locs ls hP hD hS hl)
theorem J_lload {d : DT} {Φ : JC} {own nm : String} {cc : ByteArray} {nL : Nat} {ret : Option FieldType} {rm : Room} {gs : List va_W} {ce sl pc n : Nat} {L : List (Nat × Value)} {st : List Value} (hK : Ok d Φ own nm cc nL ret rm) {i : Nat} {x : Int64} (hd : decode cc pc = .ok (.lload i, 2)) (hn : pc + 2 = n) (q : Nat) (hq : L[q]? = some (i, .long x)) (k : J d Φ nL gs ce sl n L (.long x :: st)) : J d Φ nL gs ce sl pc L st := by
  subst hn
  exact fun H locs ls hP hD hS hl => lv_lload hK.1 hK.2.1 hd (lv_at hl q hq) (k H locs ls hP hD hS hl)
theorem J_lstore_n {d : DT} {Φ : JC} {own nm : String} {cc : ByteArray} {nL : Nat} {ret : Option FieldType} {rm : Room} {gs : List va_W} {ce sl pc n : Nat} {L : List (Nat × Value)} {st : List Value} (hK : Ok d Φ own nm cc nL ret rm) {i : Fin 4} {j : Nat} {x : Int64} {L' : List (Nat × Value)} (hd : decode cc pc = .ok (.lstore_n i, 1)) (hn : pc + 1 = n) (hi : (i : Nat) = j) (hj : j + 1 < nL) (hl' : (j, Value.long x) :: L.filter (fun q => !(q.1 == j) && (!(q.1 == j + 1) && !(q.1 + 1 == j && q.2.category == 2))) = L') (k : J d Φ nL gs ce sl n L' st) : J d Φ nL gs ce sl pc L (.long x :: st) := by
  subst hn
  exact fun H locs ls hP hD hS hl => lv_lstore_n hK.1 hK.2.1 hd hi hl hj hl' (fun ls' hl2 => k H locs ls' hP hD hS hl2)
theorem J_lstore {d : DT} {Φ : JC} {own nm : String} {cc : ByteArray} {nL : Nat} {ret : Option FieldType} {rm : Room} {gs : List va_W} {ce sl pc n : Nat} {L : List (Nat × Value)} {st : List Value} (hK : Ok d Φ own nm cc nL ret rm) {i : Nat} {x : Int64} {L' : List (Nat × Value)} (hd : decode cc pc = .ok (.lstore i, 2)) (hn : pc + 2 = n) (hj : i + 1 < nL) (hl' : (i, Value.long x) :: L.filter (fun q => !(q.1 == i) && (!(q.1 == i + 1) && !(q.1 + 1 == i && q.2.category == 2))) = L') (k : J d Φ nL gs ce sl n L' st) : J d Φ nL gs ce sl pc L (.long x :: st) := by
  subst hn
  exact fun H locs ls hP hD hS hl => lv_lstore hK.1 hK.2.1 hd hl hj hl' (fun ls' hl2 => k H locs ls' hP hD hS hl2)
theorem J_aload_n {d : DT} {Φ : JC} {own nm : String} {cc : ByteArray} {nL : Nat} {ret : Option FieldType} {rm : Room} {gs : List va_W} {ce sl pc n : Nat} {L : List (Nat × Value)} {st : List Value} (hK : Ok d Φ own nm cc nL ret rm) {i : Fin 4} {j : Nat} {x : Nat} (hd : decode cc pc = .ok (.aload_n i, 1)) (hn : pc + 1 = n) (q : Nat) (hq : L[q]? = some (j, .ref x)) (hi : (i : Nat) = j) (k : J d Φ nL gs ce sl n L (.ref x :: st)) : J d Φ nL gs ce sl pc L st := by
  subst hn
  exact fun H locs ls hP hD hS hl => lv_aload_n hK.1 hK.2.1 hd hi (lv_at hl q hq) (k H locs ls hP hD hS hl)
theorem J_aload {d : DT} {Φ : JC} {own nm : String} {cc : ByteArray} {nL : Nat} {ret : Option FieldType} {rm : Room} {gs : List va_W} {ce sl pc n : Nat} {L : List (Nat × Value)} {st : List Value} (hK : Ok d Φ own nm cc nL ret rm) {i : Nat} {x : Nat} (hd : decode cc pc = .ok (.aload i, 2)) (hn : pc + 2 = n) (q : Nat) (hq : L[q]? = some (i, .ref x)) (k : J d Φ nL gs ce sl n L (.ref x :: st)) : J d Φ nL gs ce sl pc L st := by
  subst hn
  exact fun H locs ls hP hD hS hl => lv_aload hK.1 hK.2.1 hd (lv_at hl q hq) (k H locs ls hP hD hS hl)
theorem J_astore_n {d : DT} {Φ : JC} {own nm : String} {cc : ByteArray} {nL : Nat} {ret : Option FieldType} {rm : Room} {gs : List va_W} {ce sl pc n : Nat} {L : List (Nat × Value)} {st : List Value} (hK : Ok d Φ own nm cc nL ret rm) {i : Fin 4} {j : Nat} {x : Nat} {L' : List (Nat × Value)} (hd : decode cc pc = .ok (.astore_n i, 1)) (hn : pc + 1 = n) (hi : (i : Nat) = j) (hj : j < nL) (hl' : (j, Value.ref x) :: L.filter (fun q => !(q.1 == j) && !(q.1 + 1 == j && q.2.category == 2)) = L') (k : J d Φ nL gs ce sl n L' st) : J d Φ nL gs ce sl pc L (.ref x :: st) := by
  subst hn
  exact fun H locs ls hP hD hS hl => lv_astore_n hK.1 hK.2.1 hd hi hl hj hl' (fun ls' hl2 => k H locs ls' hP hD hS hl2)
theorem J_astore {d : DT} {Φ : JC} {own nm : String} {cc : ByteArray} {nL : Nat} {ret : Option FieldType} {rm : Room} {gs : List va_W} {ce sl pc n : Nat} {L : List (Nat × Value)} {st : List Value} (hK : Ok d Φ own nm cc nL ret rm) {i : Nat} {x : Nat} {L' : List (Nat × Value)} (hd : decode cc pc = .ok (.astore i, 2)) (hn : pc + 2 = n) (hj : i < nL) (hl' : (i, Value.ref x) :: L.filter (fun q => !(q.1 == i) && !(q.1 + 1 == i && q.2.category == 2)) = L') (k : J d Φ nL gs ce sl n L' st) : J d Φ nL gs ce sl pc L (.ref x :: st) := by
  subst hn
  exact fun H locs ls hP hD hS hl => lv_astore hK.1 hK.2.1 hd hl hj hl' (fun ls' hl2 => k H locs ls' hP hD hS hl2)
theorem J_iinc {d : DT} {Φ : JC} {own nm : String} {cc : ByteArray} {nL : Nat} {ret : Option FieldType} {rm : Room} {gs : List va_W} {ce sl pc n : Nat} {L : List (Nat × Value)} {st : List Value} (hK : Ok d Φ own nm cc nL ret rm) {i : Nat} {z : Int} {x v : Int32} {L' : List (Nat × Value)} (hd : decode cc pc = .ok (.iinc i z, 3)) (hn : pc + 3 = n) (q : Nat) (hq : L[q]? = some (i, .int x)) (hv : x + Int32.ofInt z = v) (hj : i < nL) (hl' : (i, Value.int v) :: L.filter (fun q => !(q.1 == i) && !(q.1 + 1 == i && q.2.category == 2)) = L') (k : J d Φ nL gs ce sl n L' st) : J d Φ nL gs ce sl pc L st := by
  subst hn
  exact fun H locs ls hP hD hS hl => lv_iinc hK.1 hK.2.1 hd hl hq hv hj hl' (fun ls' hl2 => k H locs ls' hP hD hS hl2)
theorem J_iadd {d : DT} {Φ : JC} {own nm : String} {cc : ByteArray} {nL : Nat} {ret : Option FieldType} {rm : Room} {gs : List va_W} {ce sl pc n : Nat} {L : List (Nat × Value)} {st : List Value} (hK : Ok d Φ own nm cc nL ret rm) {x y : Int32} (hd : decode cc pc = .ok (.iadd, 1)) (hn : pc + 1 = n)  (k : J d Φ nL gs ce sl n L (.int (x + y) :: st)) : J d Φ nL gs ce sl pc L (.int y :: .int x :: st) := by
  subst hn
  exact fun H locs ls hP hD hS hl => lv_iadd hK.1 hK.2.1 hd (k H locs ls hP hD hS hl)
theorem J_isub {d : DT} {Φ : JC} {own nm : String} {cc : ByteArray} {nL : Nat} {ret : Option FieldType} {rm : Room} {gs : List va_W} {ce sl pc n : Nat} {L : List (Nat × Value)} {st : List Value} (hK : Ok d Φ own nm cc nL ret rm) {x y : Int32} (hd : decode cc pc = .ok (.isub, 1)) (hn : pc + 1 = n)  (k : J d Φ nL gs ce sl n L (.int (x - y) :: st)) : J d Φ nL gs ce sl pc L (.int y :: .int x :: st) := by
  subst hn
  exact fun H locs ls hP hD hS hl => lv_isub hK.1 hK.2.1 hd (k H locs ls hP hD hS hl)
theorem J_imul {d : DT} {Φ : JC} {own nm : String} {cc : ByteArray} {nL : Nat} {ret : Option FieldType} {rm : Room} {gs : List va_W} {ce sl pc n : Nat} {L : List (Nat × Value)} {st : List Value} (hK : Ok d Φ own nm cc nL ret rm) {x y : Int32} (hd : decode cc pc = .ok (.imul, 1)) (hn : pc + 1 = n)  (k : J d Φ nL gs ce sl n L (.int (x * y) :: st)) : J d Φ nL gs ce sl pc L (.int y :: .int x :: st) := by
  subst hn
  exact fun H locs ls hP hD hS hl => lv_imul hK.1 hK.2.1 hd (k H locs ls hP hD hS hl)
theorem J_iand {d : DT} {Φ : JC} {own nm : String} {cc : ByteArray} {nL : Nat} {ret : Option FieldType} {rm : Room} {gs : List va_W} {ce sl pc n : Nat} {L : List (Nat × Value)} {st : List Value} (hK : Ok d Φ own nm cc nL ret rm) {x y : Int32} (hd : decode cc pc = .ok (.iand, 1)) (hn : pc + 1 = n)  (k : J d Φ nL gs ce sl n L (.int (x &&& y) :: st)) : J d Φ nL gs ce sl pc L (.int y :: .int x :: st) := by
  subst hn
  exact fun H locs ls hP hD hS hl => lv_iand hK.1 hK.2.1 hd (k H locs ls hP hD hS hl)
theorem J_ior {d : DT} {Φ : JC} {own nm : String} {cc : ByteArray} {nL : Nat} {ret : Option FieldType} {rm : Room} {gs : List va_W} {ce sl pc n : Nat} {L : List (Nat × Value)} {st : List Value} (hK : Ok d Φ own nm cc nL ret rm) {x y : Int32} (hd : decode cc pc = .ok (.ior, 1)) (hn : pc + 1 = n)  (k : J d Φ nL gs ce sl n L (.int (x ||| y) :: st)) : J d Φ nL gs ce sl pc L (.int y :: .int x :: st) := by
  subst hn
  exact fun H locs ls hP hD hS hl => lv_ior hK.1 hK.2.1 hd (k H locs ls hP hD hS hl)
theorem J_ixor {d : DT} {Φ : JC} {own nm : String} {cc : ByteArray} {nL : Nat} {ret : Option FieldType} {rm : Room} {gs : List va_W} {ce sl pc n : Nat} {L : List (Nat × Value)} {st : List Value} (hK : Ok d Φ own nm cc nL ret rm) {x y : Int32} (hd : decode cc pc = .ok (.ixor, 1)) (hn : pc + 1 = n)  (k : J d Φ nL gs ce sl n L (.int (x ^^^ y) :: st)) : J d Φ nL gs ce sl pc L (.int y :: .int x :: st) := by
  subst hn
  exact fun H locs ls hP hD hS hl => lv_ixor hK.1 hK.2.1 hd (k H locs ls hP hD hS hl)
theorem J_ishl {d : DT} {Φ : JC} {own nm : String} {cc : ByteArray} {nL : Nat} {ret : Option FieldType} {rm : Room} {gs : List va_W} {ce sl pc n : Nat} {L : List (Nat × Value)} {st : List Value} (hK : Ok d Φ own nm cc nL ret rm) {x y : Int32} (hd : decode cc pc = .ok (.ishl, 1)) (hn : pc + 1 = n)  (k : J d Φ nL gs ce sl n L (.int (x <<< (y &&& 31)) :: st)) : J d Φ nL gs ce sl pc L (.int y :: .int x :: st) := by
  subst hn
  exact fun H locs ls hP hD hS hl => lv_ishl hK.1 hK.2.1 hd (k H locs ls hP hD hS hl)
theorem J_ishr {d : DT} {Φ : JC} {own nm : String} {cc : ByteArray} {nL : Nat} {ret : Option FieldType} {rm : Room} {gs : List va_W} {ce sl pc n : Nat} {L : List (Nat × Value)} {st : List Value} (hK : Ok d Φ own nm cc nL ret rm) {x y : Int32} (hd : decode cc pc = .ok (.ishr, 1)) (hn : pc + 1 = n)  (k : J d Φ nL gs ce sl n L (.int (x >>> (y &&& 31)) :: st)) : J d Φ nL gs ce sl pc L (.int y :: .int x :: st) := by
  subst hn
  exact fun H locs ls hP hD hS hl => lv_ishr hK.1 hK.2.1 hd (k H locs ls hP hD hS hl)
theorem J_iushr {d : DT} {Φ : JC} {own nm : String} {cc : ByteArray} {nL : Nat} {ret : Option FieldType} {rm : Room} {gs : List va_W} {ce sl pc n : Nat} {L : List (Nat × Value)} {st : List Value} (hK : Ok d Φ own nm cc nL ret rm) {x y : Int32} (hd : decode cc pc = .ok (.iushr, 1)) (hn : pc + 1 = n)  (k : J d Φ nL gs ce sl n L (.int ((x.toUInt32 >>> (y.toUInt32 &&& Int32.toUInt32 31)).toInt32) :: st)) : J d Φ nL gs ce sl pc L (.int y :: .int x :: st) := by
  subst hn
  exact fun H locs ls hP hD hS hl => lv_iushr hK.1 hK.2.1 hd rfl (k H locs ls hP hD hS hl)
theorem J_idiv {d : DT} {Φ : JC} {own nm : String} {cc : ByteArray} {nL : Nat} {ret : Option FieldType} {rm : Room} {gs : List va_W} {ce sl pc n : Nat} {L : List (Nat × Value)} {st : List Value} (hK : Ok d Φ own nm cc nL ret rm) {x y : Int32} (hd : decode cc pc = .ok (.idiv, 1)) (hn : pc + 1 = n) (hne : ¬ y = 0) (k : J d Φ nL gs ce sl n L (.int (x / y) :: st)) : J d Φ nL gs ce sl pc L (.int y :: .int x :: st) := by
  subst hn
  exact fun H locs ls hP hD hS hl => lv_idiv hK.1 hK.2.1 hd hne (k H locs ls hP hD hS hl)
theorem J_irem {d : DT} {Φ : JC} {own nm : String} {cc : ByteArray} {nL : Nat} {ret : Option FieldType} {rm : Room} {gs : List va_W} {ce sl pc n : Nat} {L : List (Nat × Value)} {st : List Value} (hK : Ok d Φ own nm cc nL ret rm) {x y : Int32} (hd : decode cc pc = .ok (.irem, 1)) (hn : pc + 1 = n) (hne : ¬ y = 0) (k : J d Φ nL gs ce sl n L (.int (x - x / y * y) :: st)) : J d Φ nL gs ce sl pc L (.int y :: .int x :: st) := by
  subst hn
  exact fun H locs ls hP hD hS hl => lv_irem hK.1 hK.2.1 hd hne (k H locs ls hP hD hS hl)
theorem J_ineg {d : DT} {Φ : JC} {own nm : String} {cc : ByteArray} {nL : Nat} {ret : Option FieldType} {rm : Room} {gs : List va_W} {ce sl pc n : Nat} {L : List (Nat × Value)} {st : List Value} (hK : Ok d Φ own nm cc nL ret rm) {x : Int32} (hd : decode cc pc = .ok (.ineg, 1)) (hn : pc + 1 = n)  (k : J d Φ nL gs ce sl n L (.int (-x) :: st)) : J d Φ nL gs ce sl pc L (.int x :: st) := by
  subst hn
  exact fun H locs ls hP hD hS hl => lv_ineg hK.1 hK.2.1 hd (k H locs ls hP hD hS hl)
theorem J_ladd {d : DT} {Φ : JC} {own nm : String} {cc : ByteArray} {nL : Nat} {ret : Option FieldType} {rm : Room} {gs : List va_W} {ce sl pc n : Nat} {L : List (Nat × Value)} {st : List Value} (hK : Ok d Φ own nm cc nL ret rm) {x y : Int64} (hd : decode cc pc = .ok (.ladd, 1)) (hn : pc + 1 = n)  (k : J d Φ nL gs ce sl n L (.long (x + y) :: st)) : J d Φ nL gs ce sl pc L (.long y :: .long x :: st) := by
  subst hn
  exact fun H locs ls hP hD hS hl => lv_ladd hK.1 hK.2.1 hd (k H locs ls hP hD hS hl)
theorem J_lsub {d : DT} {Φ : JC} {own nm : String} {cc : ByteArray} {nL : Nat} {ret : Option FieldType} {rm : Room} {gs : List va_W} {ce sl pc n : Nat} {L : List (Nat × Value)} {st : List Value} (hK : Ok d Φ own nm cc nL ret rm) {x y : Int64} (hd : decode cc pc = .ok (.lsub, 1)) (hn : pc + 1 = n)  (k : J d Φ nL gs ce sl n L (.long (x - y) :: st)) : J d Φ nL gs ce sl pc L (.long y :: .long x :: st) := by
  subst hn
  exact fun H locs ls hP hD hS hl => lv_lsub hK.1 hK.2.1 hd (k H locs ls hP hD hS hl)
theorem J_lmul {d : DT} {Φ : JC} {own nm : String} {cc : ByteArray} {nL : Nat} {ret : Option FieldType} {rm : Room} {gs : List va_W} {ce sl pc n : Nat} {L : List (Nat × Value)} {st : List Value} (hK : Ok d Φ own nm cc nL ret rm) {x y : Int64} (hd : decode cc pc = .ok (.lmul, 1)) (hn : pc + 1 = n)  (k : J d Φ nL gs ce sl n L (.long (x * y) :: st)) : J d Φ nL gs ce sl pc L (.long y :: .long x :: st) := by
  subst hn
  exact fun H locs ls hP hD hS hl => lv_lmul hK.1 hK.2.1 hd (k H locs ls hP hD hS hl)
theorem J_land {d : DT} {Φ : JC} {own nm : String} {cc : ByteArray} {nL : Nat} {ret : Option FieldType} {rm : Room} {gs : List va_W} {ce sl pc n : Nat} {L : List (Nat × Value)} {st : List Value} (hK : Ok d Φ own nm cc nL ret rm) {x y : Int64} (hd : decode cc pc = .ok (.land, 1)) (hn : pc + 1 = n)  (k : J d Φ nL gs ce sl n L (.long (x &&& y) :: st)) : J d Φ nL gs ce sl pc L (.long y :: .long x :: st) := by
  subst hn
  exact fun H locs ls hP hD hS hl => lv_land hK.1 hK.2.1 hd (k H locs ls hP hD hS hl)
theorem J_lor {d : DT} {Φ : JC} {own nm : String} {cc : ByteArray} {nL : Nat} {ret : Option FieldType} {rm : Room} {gs : List va_W} {ce sl pc n : Nat} {L : List (Nat × Value)} {st : List Value} (hK : Ok d Φ own nm cc nL ret rm) {x y : Int64} (hd : decode cc pc = .ok (.lor, 1)) (hn : pc + 1 = n)  (k : J d Φ nL gs ce sl n L (.long (x ||| y) :: st)) : J d Φ nL gs ce sl pc L (.long y :: .long x :: st) := by
  subst hn
  exact fun H locs ls hP hD hS hl => lv_lor hK.1 hK.2.1 hd (k H locs ls hP hD hS hl)
theorem J_lshl {d : DT} {Φ : JC} {own nm : String} {cc : ByteArray} {nL : Nat} {ret : Option FieldType} {rm : Room} {gs : List va_W} {ce sl pc n : Nat} {L : List (Nat × Value)} {st : List Value} (hK : Ok d Φ own nm cc nL ret rm) {x : Int64} {y : Int32} (hd : decode cc pc = .ok (.lshl, 1)) (hn : pc + 1 = n)  (k : J d Φ nL gs ce sl n L (.long (x <<< (y.toInt64 &&& 63)) :: st)) : J d Φ nL gs ce sl pc L (.int y :: .long x :: st) := by
  subst hn
  exact fun H locs ls hP hD hS hl => lv_lshl hK.1 hK.2.1 hd rfl (k H locs ls hP hD hS hl)
theorem J_lshr {d : DT} {Φ : JC} {own nm : String} {cc : ByteArray} {nL : Nat} {ret : Option FieldType} {rm : Room} {gs : List va_W} {ce sl pc n : Nat} {L : List (Nat × Value)} {st : List Value} (hK : Ok d Φ own nm cc nL ret rm) {x : Int64} {y : Int32} (hd : decode cc pc = .ok (.lshr, 1)) (hn : pc + 1 = n)  (k : J d Φ nL gs ce sl n L (.long (x >>> (y.toInt64 &&& 63)) :: st)) : J d Φ nL gs ce sl pc L (.int y :: .long x :: st) := by
  subst hn
  exact fun H locs ls hP hD hS hl => lv_lshr hK.1 hK.2.1 hd rfl (k H locs ls hP hD hS hl)
theorem J_i2l {d : DT} {Φ : JC} {own nm : String} {cc : ByteArray} {nL : Nat} {ret : Option FieldType} {rm : Room} {gs : List va_W} {ce sl pc n : Nat} {L : List (Nat × Value)} {st : List Value} (hK : Ok d Φ own nm cc nL ret rm) {x : Int32} (hd : decode cc pc = .ok (.i2l, 1)) (hn : pc + 1 = n)  (k : J d Φ nL gs ce sl n L (.long x.toInt64 :: st)) : J d Φ nL gs ce sl pc L (.int x :: st) := by
  subst hn
  exact fun H locs ls hP hD hS hl => lv_i2l hK.1 hK.2.1 hd rfl (k H locs ls hP hD hS hl)
theorem J_l2i {d : DT} {Φ : JC} {own nm : String} {cc : ByteArray} {nL : Nat} {ret : Option FieldType} {rm : Room} {gs : List va_W} {ce sl pc n : Nat} {L : List (Nat × Value)} {st : List Value} (hK : Ok d Φ own nm cc nL ret rm) {x : Int64} (hd : decode cc pc = .ok (.l2i, 1)) (hn : pc + 1 = n)  (k : J d Φ nL gs ce sl n L (.int x.toInt32 :: st)) : J d Φ nL gs ce sl pc L (.long x :: st) := by
  subst hn
  exact fun H locs ls hP hD hS hl => lv_l2i hK.1 hK.2.1 hd rfl (k H locs ls hP hD hS hl)
theorem J_i2b {d : DT} {Φ : JC} {own nm : String} {cc : ByteArray} {nL : Nat} {ret : Option FieldType} {rm : Room} {gs : List va_W} {ce sl pc n : Nat} {L : List (Nat × Value)} {st : List Value} (hK : Ok d Φ own nm cc nL ret rm) {x : Int32} (hd : decode cc pc = .ok (.i2b, 1)) (hn : pc + 1 = n)  (k : J d Φ nL gs ce sl n L (.int x.toInt8.toInt32 :: st)) : J d Φ nL gs ce sl pc L (.int x :: st) := by
  subst hn
  exact fun H locs ls hP hD hS hl => lv_i2b hK.1 hK.2.1 hd rfl (k H locs ls hP hD hS hl)
theorem J_i2s {d : DT} {Φ : JC} {own nm : String} {cc : ByteArray} {nL : Nat} {ret : Option FieldType} {rm : Room} {gs : List va_W} {ce sl pc n : Nat} {L : List (Nat × Value)} {st : List Value} (hK : Ok d Φ own nm cc nL ret rm) {x : Int32} (hd : decode cc pc = .ok (.i2s, 1)) (hn : pc + 1 = n)  (k : J d Φ nL gs ce sl n L (.int x.toInt16.toInt32 :: st)) : J d Φ nL gs ce sl pc L (.int x :: st) := by
  subst hn
  exact fun H locs ls hP hD hS hl => lv_i2s hK.1 hK.2.1 hd rfl (k H locs ls hP hD hS hl)
theorem J_i2c {d : DT} {Φ : JC} {own nm : String} {cc : ByteArray} {nL : Nat} {ret : Option FieldType} {rm : Room} {gs : List va_W} {ce sl pc n : Nat} {L : List (Nat × Value)} {st : List Value} (hK : Ok d Φ own nm cc nL ret rm) {x : Int32} (hd : decode cc pc = .ok (.i2c, 1)) (hn : pc + 1 = n)  (k : J d Φ nL gs ce sl n L (.int ((x.toUInt32 % 65536).toInt32) :: st)) : J d Φ nL gs ce sl pc L (.int x :: st) := by
  subst hn
  exact fun H locs ls hP hD hS hl => lv_i2c hK.1 hK.2.1 hd rfl (k H locs ls hP hD hS hl)
theorem J_lcmp {d : DT} {Φ : JC} {own nm : String} {cc : ByteArray} {nL : Nat} {ret : Option FieldType} {rm : Room} {gs : List va_W} {ce sl pc n : Nat} {L : List (Nat × Value)} {st : List Value} (hK : Ok d Φ own nm cc nL ret rm) {x y : Int64} (hd : decode cc pc = .ok (.lcmp, 1)) (hn : pc + 1 = n)  (k : J d Φ nL gs ce sl n L (.int (lg_cmp x y) :: st)) : J d Φ nL gs ce sl pc L (.long y :: .long x :: st) := by
  subst hn
  exact fun H locs ls hP hD hS hl => W.lcmp hK.1 hK.2.1 hd (k H locs ls hP hD hS hl)
theorem J_dup {d : DT} {Φ : JC} {own nm : String} {cc : ByteArray} {nL : Nat} {ret : Option FieldType} {rm : Room} {gs : List va_W} {ce sl pc n : Nat} {L : List (Nat × Value)} {st : List Value} (hK : Ok d Φ own nm cc nL ret rm) {v : Value} (hd : decode cc pc = .ok (.dup, 1)) (hn : pc + 1 = n) (hv : v.category = 1) (k : J d Φ nL gs ce sl n L (v :: v :: st)) : J d Φ nL gs ce sl pc L (v :: st) := by
  subst hn
  exact fun H locs ls hP hD hS hl => lv_dup hK.1 hK.2.1 hd hv (k H locs ls hP hD hS hl)
theorem J_dup_x1 {d : DT} {Φ : JC} {own nm : String} {cc : ByteArray} {nL : Nat} {ret : Option FieldType} {rm : Room} {gs : List va_W} {ce sl pc n : Nat} {L : List (Nat × Value)} {st : List Value} (hK : Ok d Φ own nm cc nL ret rm) {v w : Value} (hd : decode cc pc = .ok (.dup_x1, 1)) (hn : pc + 1 = n) (hv : v.category = 1) (hw : w.category = 1) (k : J d Φ nL gs ce sl n L (v :: w :: v :: st)) : J d Φ nL gs ce sl pc L (v :: w :: st) := by
  subst hn
  exact fun H locs ls hP hD hS hl => lv_dup_x1 hK.1 hK.2.1 hd hv hw (k H locs ls hP hD hS hl)
theorem J_dup2 {d : DT} {Φ : JC} {own nm : String} {cc : ByteArray} {nL : Nat} {ret : Option FieldType} {rm : Room} {gs : List va_W} {ce sl pc n : Nat} {L : List (Nat × Value)} {st : List Value} (hK : Ok d Φ own nm cc nL ret rm) {v w : Value} (hd : decode cc pc = .ok (.dup2, 1)) (hn : pc + 1 = n) (hv : v.category = 1) (hw : w.category = 1) (k : J d Φ nL gs ce sl n L (v :: w :: v :: w :: st)) : J d Φ nL gs ce sl pc L (v :: w :: st) := by
  subst hn
  exact fun H locs ls hP hD hS hl => lv_dup2_11 hK.1 hK.2.1 hd hv hw (k H locs ls hP hD hS hl)
theorem J_pop {d : DT} {Φ : JC} {own nm : String} {cc : ByteArray} {nL : Nat} {ret : Option FieldType} {rm : Room} {gs : List va_W} {ce sl pc n : Nat} {L : List (Nat × Value)} {st : List Value} (hK : Ok d Φ own nm cc nL ret rm) {v : Value} (hd : decode cc pc = .ok (.pop, 1)) (hn : pc + 1 = n) (hv : v.category = 1) (k : J d Φ nL gs ce sl n L (st)) : J d Φ nL gs ce sl pc L (v :: st) := by
  subst hn
  exact fun H locs ls hP hD hS hl => lv_pop hK.1 hK.2.1 hd hv (k H locs ls hP hD hS hl)
theorem J_if_eq {d : DT} {Φ : JC} {own nm : String} {cc : ByteArray} {nL : Nat} {ret : Option FieldType} {rm : Room} {gs : List va_W} {ce sl pc n tg : Nat} {L : List (Nat × Value)} {st : List Value} (hK : Ok d Φ own nm cc nL ret rm) {x : Int32} {off : Int} (hd : decode cc pc = .ok (.ifCond .eq off, 3)) (hn : pc + 3 = n) (ht : (pc : Int) + off = (tg : Int)) (kt : x = 0 → J d Φ nL gs ce sl tg L st) (kf : ¬ x = 0 → J d Φ nL gs ce sl n L st) : J d Φ nL gs ce sl pc L (.int x :: st) := by
  subst hn
  exact fun H locs ls hP hD hS hl => lv_if_eq hK.1 hK.2.1 hd ht (fun h => kt h H locs ls hP hD hS hl) (fun h => kf h H locs ls hP hD hS hl)
theorem J_if_ne {d : DT} {Φ : JC} {own nm : String} {cc : ByteArray} {nL : Nat} {ret : Option FieldType} {rm : Room} {gs : List va_W} {ce sl pc n tg : Nat} {L : List (Nat × Value)} {st : List Value} (hK : Ok d Φ own nm cc nL ret rm) {x : Int32} {off : Int} (hd : decode cc pc = .ok (.ifCond .ne off, 3)) (hn : pc + 3 = n) (ht : (pc : Int) + off = (tg : Int)) (kt : ¬ x = 0 → J d Φ nL gs ce sl tg L st) (kf : x = 0 → J d Φ nL gs ce sl n L st) : J d Φ nL gs ce sl pc L (.int x :: st) := by
  subst hn
  exact fun H locs ls hP hD hS hl => lv_if_ne hK.1 hK.2.1 hd ht (fun h => kt h H locs ls hP hD hS hl) (fun h => kf h H locs ls hP hD hS hl)
theorem J_if_lt {d : DT} {Φ : JC} {own nm : String} {cc : ByteArray} {nL : Nat} {ret : Option FieldType} {rm : Room} {gs : List va_W} {ce sl pc n tg : Nat} {L : List (Nat × Value)} {st : List Value} (hK : Ok d Φ own nm cc nL ret rm) {x : Int32} {off : Int} (hd : decode cc pc = .ok (.ifCond .lt off, 3)) (hn : pc + 3 = n) (ht : (pc : Int) + off = (tg : Int)) (kt : x < 0 → J d Φ nL gs ce sl tg L st) (kf : ¬ x < 0 → J d Φ nL gs ce sl n L st) : J d Φ nL gs ce sl pc L (.int x :: st) := by
  subst hn
  exact fun H locs ls hP hD hS hl => lv_if_lt hK.1 hK.2.1 hd ht (fun h => kt h H locs ls hP hD hS hl) (fun h => kf h H locs ls hP hD hS hl)
theorem J_if_ge {d : DT} {Φ : JC} {own nm : String} {cc : ByteArray} {nL : Nat} {ret : Option FieldType} {rm : Room} {gs : List va_W} {ce sl pc n tg : Nat} {L : List (Nat × Value)} {st : List Value} (hK : Ok d Φ own nm cc nL ret rm) {x : Int32} {off : Int} (hd : decode cc pc = .ok (.ifCond .ge off, 3)) (hn : pc + 3 = n) (ht : (pc : Int) + off = (tg : Int)) (kt : 0 ≤ x → J d Φ nL gs ce sl tg L st) (kf : ¬ 0 ≤ x → J d Φ nL gs ce sl n L st) : J d Φ nL gs ce sl pc L (.int x :: st) := by
  subst hn
  exact fun H locs ls hP hD hS hl => lv_if_ge hK.1 hK.2.1 hd ht (fun h => kt h H locs ls hP hD hS hl) (fun h => kf h H locs ls hP hD hS hl)
theorem J_if_gt {d : DT} {Φ : JC} {own nm : String} {cc : ByteArray} {nL : Nat} {ret : Option FieldType} {rm : Room} {gs : List va_W} {ce sl pc n tg : Nat} {L : List (Nat × Value)} {st : List Value} (hK : Ok d Φ own nm cc nL ret rm) {x : Int32} {off : Int} (hd : decode cc pc = .ok (.ifCond .gt off, 3)) (hn : pc + 3 = n) (ht : (pc : Int) + off = (tg : Int)) (kt : 0 < x → J d Φ nL gs ce sl tg L st) (kf : ¬ 0 < x → J d Φ nL gs ce sl n L st) : J d Φ nL gs ce sl pc L (.int x :: st) := by
  subst hn
  exact fun H locs ls hP hD hS hl => lv_if_gt hK.1 hK.2.1 hd ht (fun h => kt h H locs ls hP hD hS hl) (fun h => kf h H locs ls hP hD hS hl)
theorem J_if_le {d : DT} {Φ : JC} {own nm : String} {cc : ByteArray} {nL : Nat} {ret : Option FieldType} {rm : Room} {gs : List va_W} {ce sl pc n tg : Nat} {L : List (Nat × Value)} {st : List Value} (hK : Ok d Φ own nm cc nL ret rm) {x : Int32} {off : Int} (hd : decode cc pc = .ok (.ifCond .le off, 3)) (hn : pc + 3 = n) (ht : (pc : Int) + off = (tg : Int)) (kt : x ≤ 0 → J d Φ nL gs ce sl tg L st) (kf : ¬ x ≤ 0 → J d Φ nL gs ce sl n L st) : J d Φ nL gs ce sl pc L (.int x :: st) := by
  subst hn
  exact fun H locs ls hP hD hS hl => lv_if_le hK.1 hK.2.1 hd ht (fun h => kt h H locs ls hP hD hS hl) (fun h => kf h H locs ls hP hD hS hl)
theorem J_icmp_eq {d : DT} {Φ : JC} {own nm : String} {cc : ByteArray} {nL : Nat} {ret : Option FieldType} {rm : Room} {gs : List va_W} {ce sl pc n tg : Nat} {L : List (Nat × Value)} {st : List Value} (hK : Ok d Φ own nm cc nL ret rm) {x y : Int32} {off : Int} (hd : decode cc pc = .ok (.if_icmp .eq off, 3)) (hn : pc + 3 = n) (ht : (pc : Int) + off = (tg : Int)) (kt : x = y → J d Φ nL gs ce sl tg L st) (kf : ¬ x = y → J d Φ nL gs ce sl n L st) : J d Φ nL gs ce sl pc L (.int y :: .int x :: st) := by
  subst hn
  exact fun H locs ls hP hD hS hl => lv_icmp_eq hK.1 hK.2.1 hd ht (fun h => kt h H locs ls hP hD hS hl) (fun h => kf h H locs ls hP hD hS hl)
theorem J_icmp_ne {d : DT} {Φ : JC} {own nm : String} {cc : ByteArray} {nL : Nat} {ret : Option FieldType} {rm : Room} {gs : List va_W} {ce sl pc n tg : Nat} {L : List (Nat × Value)} {st : List Value} (hK : Ok d Φ own nm cc nL ret rm) {x y : Int32} {off : Int} (hd : decode cc pc = .ok (.if_icmp .ne off, 3)) (hn : pc + 3 = n) (ht : (pc : Int) + off = (tg : Int)) (kt : ¬ x = y → J d Φ nL gs ce sl tg L st) (kf : x = y → J d Φ nL gs ce sl n L st) : J d Φ nL gs ce sl pc L (.int y :: .int x :: st) := by
  subst hn
  exact fun H locs ls hP hD hS hl => lv_icmp_ne hK.1 hK.2.1 hd ht (fun h => kt h H locs ls hP hD hS hl) (fun h => kf h H locs ls hP hD hS hl)
theorem J_icmp_lt {d : DT} {Φ : JC} {own nm : String} {cc : ByteArray} {nL : Nat} {ret : Option FieldType} {rm : Room} {gs : List va_W} {ce sl pc n tg : Nat} {L : List (Nat × Value)} {st : List Value} (hK : Ok d Φ own nm cc nL ret rm) {x y : Int32} {off : Int} (hd : decode cc pc = .ok (.if_icmp .lt off, 3)) (hn : pc + 3 = n) (ht : (pc : Int) + off = (tg : Int)) (kt : x < y → J d Φ nL gs ce sl tg L st) (kf : ¬ x < y → J d Φ nL gs ce sl n L st) : J d Φ nL gs ce sl pc L (.int y :: .int x :: st) := by
  subst hn
  exact fun H locs ls hP hD hS hl => lv_icmp_lt hK.1 hK.2.1 hd ht (fun h => kt h H locs ls hP hD hS hl) (fun h => kf h H locs ls hP hD hS hl)
theorem J_icmp_ge {d : DT} {Φ : JC} {own nm : String} {cc : ByteArray} {nL : Nat} {ret : Option FieldType} {rm : Room} {gs : List va_W} {ce sl pc n tg : Nat} {L : List (Nat × Value)} {st : List Value} (hK : Ok d Φ own nm cc nL ret rm) {x y : Int32} {off : Int} (hd : decode cc pc = .ok (.if_icmp .ge off, 3)) (hn : pc + 3 = n) (ht : (pc : Int) + off = (tg : Int)) (kt : y ≤ x → J d Φ nL gs ce sl tg L st) (kf : ¬ y ≤ x → J d Φ nL gs ce sl n L st) : J d Φ nL gs ce sl pc L (.int y :: .int x :: st) := by
  subst hn
  exact fun H locs ls hP hD hS hl => lv_icmp_ge hK.1 hK.2.1 hd ht (fun h => kt h H locs ls hP hD hS hl) (fun h => kf h H locs ls hP hD hS hl)
theorem J_icmp_gt {d : DT} {Φ : JC} {own nm : String} {cc : ByteArray} {nL : Nat} {ret : Option FieldType} {rm : Room} {gs : List va_W} {ce sl pc n tg : Nat} {L : List (Nat × Value)} {st : List Value} (hK : Ok d Φ own nm cc nL ret rm) {x y : Int32} {off : Int} (hd : decode cc pc = .ok (.if_icmp .gt off, 3)) (hn : pc + 3 = n) (ht : (pc : Int) + off = (tg : Int)) (kt : y < x → J d Φ nL gs ce sl tg L st) (kf : ¬ y < x → J d Φ nL gs ce sl n L st) : J d Φ nL gs ce sl pc L (.int y :: .int x :: st) := by
  subst hn
  exact fun H locs ls hP hD hS hl => lv_icmp_gt hK.1 hK.2.1 hd ht (fun h => kt h H locs ls hP hD hS hl) (fun h => kf h H locs ls hP hD hS hl)
theorem J_icmp_le {d : DT} {Φ : JC} {own nm : String} {cc : ByteArray} {nL : Nat} {ret : Option FieldType} {rm : Room} {gs : List va_W} {ce sl pc n tg : Nat} {L : List (Nat × Value)} {st : List Value} (hK : Ok d Φ own nm cc nL ret rm) {x y : Int32} {off : Int} (hd : decode cc pc = .ok (.if_icmp .le off, 3)) (hn : pc + 3 = n) (ht : (pc : Int) + off = (tg : Int)) (kt : x ≤ y → J d Φ nL gs ce sl tg L st) (kf : ¬ x ≤ y → J d Φ nL gs ce sl n L st) : J d Φ nL gs ce sl pc L (.int y :: .int x :: st) := by
  subst hn
  exact fun H locs ls hP hD hS hl => lv_icmp_le hK.1 hK.2.1 hd ht (fun h => kt h H locs ls hP hD hS hl) (fun h => kf h H locs ls hP hD hS hl)
theorem J_goto {d : DT} {Φ : JC} {own nm : String} {cc : ByteArray} {nL : Nat} {ret : Option FieldType} {rm : Room} {gs : List va_W} {ce sl pc n : Nat} {L : List (Nat × Value)} {st : List Value} (hK : Ok d Φ own nm cc nL ret rm) {off : Int} (hd : decode cc pc = .ok (.goto off, 3)) (ht : (pc : Int) + off = (n : Int)) (k : J d Φ nL gs ce sl n L st) : J d Φ nL gs ce sl pc L st := fun H locs ls hP hD hS hl => lv_goto hK.1 hK.2.1 hd ht (k H locs ls hP hD hS hl)
theorem J_tab {d : DT} {Φ : JC} {own nm : String} {cc : ByteArray} {nL : Nat} {ret : Option FieldType} {rm : Room} {gs : List va_W} {ce sl pc n : Nat} {L : List (Nat × Value)} {st : List Value} (hK : Ok d Φ own nm cc nL ret rm) {dflt lo hi : Int} {offs : Array Int} {len : Nat} {x : Int32} (hd : decode cc pc = .ok (.tableswitch dflt lo hi offs, len)) (ht : (pc : Int) + dflt = (n : Int)) (ko : (x.toInt < lo ∨ hi < x.toInt) → J d Φ nL gs ce sl n L st) (ki : ∀ (off : Int) (t : Nat), ¬ x.toInt < lo → ¬ hi < x.toInt → offs[(x.toInt - lo).toNat]? = some off → (pc : Int) + off = (t : Int) → J d Φ nL gs ce sl t L st) (hin : ∀ k : Nat, k < offs.size → ∃ (off : Int) (t : Nat), offs[k]? = some off ∧ (pc : Int) + off = (t : Int)) (hsz : hi - lo < offs.size) : J d Φ nL gs ce sl pc L (.int x :: st) := by
  intro H locs ls hP hD hS hl
  by_cases h1 : x.toInt < lo
  · exact lv_tableOut hK.1 hK.2.1 hd (Or.inl h1) ht (ko (Or.inl h1) H locs ls hP hD hS hl)
  · by_cases h2 : hi < x.toInt
    · exact lv_tableOut hK.1 hK.2.1 hd (Or.inr h2) ht (ko (Or.inr h2) H locs ls hP hD hS hl)
    · obtain ⟨off, t, h3, h4⟩ := hin (x.toInt - lo).toNat (by omega)
      exact lv_tableIn hK.1 hK.2.1 hd h1 h2 h3 h4 (ki off t h1 h2 h3 h4 H locs ls hP hD hS hl)
theorem J_ifnonnull {d : DT} {Φ : JC} {own nm : String} {cc : ByteArray} {nL : Nat} {ret : Option FieldType} {rm : Room} {gs : List va_W} {ce sl pc n : Nat} {L : List (Nat × Value)} {st : List Value} (hK : Ok d Φ own nm cc nL ret rm) {x : Nat} {off : Int} (hd : decode cc pc = .ok (.ifnonnull off, 3)) (ht : (pc : Int) + off = (n : Int)) (k : J d Φ nL gs ce sl n L st) : J d Φ nL gs ce sl pc L (.ref x :: st) := fun H locs ls hP hD hS hl => lv_ifnonnull hK.1 hK.2.1 hd ht (k H locs ls hP hD hS hl)
theorem J_ifnonnullN {d : DT} {Φ : JC} {own nm : String} {cc : ByteArray} {nL : Nat} {ret : Option FieldType} {rm : Room} {gs : List va_W} {ce sl pc n : Nat} {L : List (Nat × Value)} {st : List Value} (hK : Ok d Φ own nm cc nL ret rm) {off : Int} (hd : decode cc pc = .ok (.ifnonnull off, 3)) (hn : pc + 3 = n) (k : J d Φ nL gs ce sl n L st) : J d Φ nL gs ce sl pc L (.null :: st) := by
  subst hn
  exact fun H locs ls hP hD hS hl => lv_ifnonnullN hK.1 hK.2.1 hd (k H locs ls hP hD hS hl)
theorem J_loc {d : DT} {Φ : JC} {nL : Nat} {gs : List va_W} {ce sl pc : Nat} {L L' : List (Nat × Value)} {st : List Value} (ks : List Nat) (h : lv_pick L ks = L') (k : J d Φ nL gs ce sl pc L' st) : J d Φ nL gs ce sl pc L st := fun H locs ls hP hD hS hl => k H locs ls hP hD hS (lv_sub hl ks h)
theorem J_widen {d : DT} {Φ : JC} {nL : Nat} {gs : List va_W} {ce sl ce' sl' pc : Nat} {L : List (Nat × Value)} {st : List Value} (h1 : ce ≤ ce') (h2 : sl ≤ sl') (k : J d Φ nL gs ce' sl' pc L st) : J d Φ nL gs ce sl pc L st := fun H locs ls hP hD hS hl => W.widen h1 h2 (k H locs ls hP hD hS hl)

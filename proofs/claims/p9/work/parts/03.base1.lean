/-! The words that every method of the system may lean on; worlds as lists of lists of cells; the judgement J. -/
def gW : List Cond := lw_tbl.filter goodWord
theorem gW_mem {w : Cond} (i : Nat) (h : lw_tbl[i]? = some w) (hg : goodWord w = true) : w ∈ gW := List.mem_filter.mpr ⟨List.mem_of_getElem? h, hg⟩
theorem gW_good {big : List Cond} (hb : ∀ w ∈ gW, w ∈ big) {ws : List Cond} (hw : ∀ w ∈ ws, w ∈ gW) : GoodIn big ws := fun w h => ⟨hb w (hw w h), good_of_word (List.mem_filter.mp (hw w h)).2⟩
/-- what is fixed in a claim's run: where classes and slots lie; the classes of arrays (0 int, 1 long, 2 int rows, 3 long rows); the table ABOVE; the text constants and their bytes -/
abbrev DT : Type := va_G × (Nat → ClassId) × Nat × (Nat → Nat) × (Nat → Nat)
def tyD (d : DT) : List (ClassId × FieldType) := [(d.2.1 0, .int), (d.2.1 1, .long), (d.2.1 2, .array .int), (d.2.1 3, .array .long)]
/-- cells: an object, an array of ints, of longs, of rows -/
abbrev cO (ci a : Nat) (fs : List Value) : Nat × va_E := (a, .inr (ci, fs))
abbrev cI (d : DT) (a n : Nat) (f : Nat → Int32) : Nat × va_E := (a, .inl (d.2.1 0, n, .inl f))
abbrev cJ (d : DT) (a n : Nat) (f : Nat → Int64) : Nat × va_E := (a, .inl (d.2.1 1, n, .inr (.inl f)))
abbrev cR (d : DT) (k a n : Nat) (g : Nat → Option Nat) : Nat × va_E := (a, .inl (d.2.1 k, n, .inr (.inr (.inr (.inr g)))))
def rowsF (n : Nat) (r : Nat → Nat) : Nat → Option Nat := fun i => if i < n then some (r i) else none
def gridI (d : DT) (r : Nat → Nat) (n k : Nat) (M : Nat → Nat → Int32) : va_W := (List.range n).map fun i => cI d (r i) k (M i)
def gridJ (d : DT) (r : Nat → Nat) (n k : Nat) (M : Nat → Nat → Int64) : va_W := (List.range n).map fun i => cJ d (r i) k (M i)

/-- the fixed things of a method's walk -/
abbrev JC : Type := Program × Launch × Env × Room × State × MethodId × Array Value × List Frame × Method × Code × (Nat → Prop) × (State → Prop)
def J (d : DT) (Φ : JC) (nL : Nat) (gs : List va_W) (ce sl pc : Nat) (L : List (Nat × Value)) (st : List Value) : Prop :=
  ∀ (H : Heap) (locs : List Loc) (ls : Array Slot), va_P d.1 vwCl gs.flatten H → va_D Φ.2.2.2.2.2.2.2.2.2.2.1 gs.flatten → va_S Φ.2.2.2.2.2.2.2.2.2.2.1 Φ.2.2.2.2.1.heap H locs → lv_has ls nL L →
    W Φ.1 Φ.2.1 Φ.2.2.1 Φ.2.2.2.1 Φ.2.2.2.2.1 Φ.2.2.2.2.2.1 Φ.2.2.2.2.2.2.1 Φ.2.2.2.2.2.2.2.1 Φ.2.2.2.2.2.2.2.2.1 Φ.2.2.2.2.2.2.2.2.2.1 H locs ce sl Φ.2.2.2.2.2.2.2.2.2.2.2 (F0 Φ.2.2.2.2.2.1 pc ls st)
/-- nest words, text constants -/
def nestW : List Cond := lw_tbl.filter fun w => match w with
  | .methodLinkNest _ _ _ _ => true
  | _ => false
def nest1 (w : Cond) : Prop := ∃ a i x h, w = .methodLinkNest a i x h
theorem nestW_one : ∀ w ∈ nestW, nest1 w := by
  intro w h
  have h2 := (List.mem_filter.mp h).2
  cases w <;> first | exact ⟨_, _, _, _, rfl⟩ | (simp at h2)
/-- the text constants: whose pool, which entry, the text, its signs -/
def strT : List (String × Nat × String × List Int32) := [("TwoWidths$Tape", 35, "line", [108, 105, 110, 101]), ("TwoWidths$Tape", 87, "width", [119, 105, 100, 116, 104]), ("TwoWidths$Tape", 89, "miles", [109, 105, 108, 101, 115]), ("TwoWidths$Tape", 91, "bears", [98, 101, 97, 114, 115]), ("TwoWidths$Tape", 97, "owner", [111, 119, 110, 101, 114]), ("TwoWidths$Tape", 49, "goods", [103, 111, 111, 100, 115]), ("TwoWidths$Tape", 57, "work", [119, 111, 114, 107]), ("TwoWidths$Tape", 65, "change", [99, 104, 97, 110, 103, 101]), ("TwoWidths$Tape", 70, "coin", [99, 111, 105, 110]), ("TwoWidths$Tape", 75, "years", [121, 101, 97, 114, 115]), ("TwoWidthsModel", 206, "line", [108, 105, 110, 101]), ("TwoWidthsModel", 211, "width", [119, 105, 100, 116, 104]), ("TwoWidthsModel", 213, "miles", [109, 105, 108, 101, 115]), ("TwoWidthsModel", 215, "bears", [98, 101, 97, 114, 115]), ("TwoWidthsModel", 220, "owner", [111, 119, 110, 101, 114]), ("TwoWidthsModel", 222, "goods", [103, 111, 111, 100, 115]), ("TwoWidthsModel", 223, "work", [119, 111, 114, 107]), ("TwoWidthsModel", 227, "change", [99, 104, 97, 110, 103, 101]), ("TwoWidthsModel", 229, "coin", [99, 111, 105, 110]), ("TwoWidthsModel", 231, "years", [121, 101, 97, 114, 115])]
def sByte (b : List Int32) : Nat → Value := fun j => .int (b.getD j 0)
def sK1 (d : DT) (A : Nat → Prop) (U : State) (H : Heap) (i : Nat) (q : String × Nat × String × List Int32) : Prop :=
  va_O "java/lang/String" (d.2.2.2.1 i) A U H ∧ va_OF "java/lang/String" "coder" "B" (.int 0) (d.2.2.2.1 i) A U H ∧ va_OF "java/lang/String" "value" "[B" (.ref (d.2.2.2.2 i)) (d.2.2.2.1 i) A U H ∧ va_T .byte (d.2.2.2.2 i) q.2.2.2.length (sByte q.2.2.2) A U H ∧ vk_R q.1 q.2.1 q.2.2.1 (d.2.2.2.1 i) U
def abF : Nat → Value := fun j => .int (([-1, 0, 1, 0, 0, 4] : List Int32).getD j 0)
/-- what tables and constants say, apart from the cells A -/
def Gl (d : DT) (A : Nat → Prop) (U : State) (H : Heap) : Prop :=
  va_K d.1 vwCl (tyD d) U ∧ (∀ w ∈ nestW, va_Nw w U) ∧ va_AOA .int U ∧ va_AOA .long U ∧ va_Z "TwoWidths" "ABOVE" "[I" (.ref d.2.2.1) A U H ∧ va_T .int d.2.2.1 6 abF A U H ∧ va_Z "java/lang/String" "COMPACT_STRINGS" "Z" (.int 1) A U H ∧ va_Zq "jdk/internal/util/Preconditions" "SIOOBE_FORMATTER" "Ljava/util/function/BiFunction;" A U H ∧
  ∀ (i : Nat) (q : String × Nat × String × List Int32), strT[i]? = some q → sK1 d A U H i q
theorem Gl.warm {d : DT} {A : Nat → Prop} {s U : State} {H : Heap} (hW : s.WarmedH U.vm) (h : Gl d A s H) : Gl d A U H := by
  obtain ⟨h1, h2, h3, h4, h5, h6, h7, h9, h8⟩ := h
  have ha := hW.alike
  refine ⟨va_K.moved ha h1, fun w hw => ?_, va_AOA.moved ha h3, va_AOA.moved ha h4, va_Z.moved ha h5, va_T.moved ha h6, va_Z.moved ha h7, va_Zq.moved ha h9, fun i q hq => ?_⟩
  · obtain ⟨a, i, x, z, rfl⟩ := nestW_one w hw
    exact va_Nw.warmM hW (h2 _ hw)
  · obtain ⟨g1, g2, g3, g4, g5⟩ := h8 i q hq
    exact ⟨va_O.moved ha g1, va_OF.moved ha g2, va_OF.moved ha g3, va_T.moved ha g4, vk_R.warm hW g5⟩
theorem Gl.same {d : DT} {A : Nat → Prop} {u U : State} {H : Heap} (hv : U.vm = u.vm) (h : Gl d A u H) : Gl d A U H := by
  obtain ⟨h1, h2, h3, h4, h5, h6, h7, h9, h8⟩ := h
  have ha : u.vm.Alike U.vm := by rw [hv]; exact Vm.Alike.refl u.vm
  refine ⟨va_K.moved ha h1, fun w hw => ?_, va_AOA.moved ha h3, va_AOA.moved ha h4, va_Z.moved ha h5, va_T.moved ha h6, va_Z.moved ha h7, va_Zq.moved ha h9, fun i q hq => ?_⟩
  · obtain ⟨a, i, x, z, rfl⟩ := nestW_one w hw
    exact va_Nw.same rfl hv.symm (h2 _ hw)
  · obtain ⟨g1, g2, g3, g4, g5⟩ := h8 i q hq
    exact ⟨va_O.moved ha g1, va_OF.moved ha g2, va_OF.moved ha g3, va_T.moved ha g4, vk_R.same hv g5⟩
theorem Gl.kept {d : DT} {A : Nat → Prop} {U : State} {H H1 : Heap} (h : Gl d A U H) (hq : ∀ a : Nat, a < H.size → ¬ A a → H1[a]? = H[a]?) : Gl d A U H1 := by
  obtain ⟨h1, h2, h3, h4, h5, h6, h7, h9, h8⟩ := h
  refine ⟨h1, h2, h3, h4, h5.kept hq, h6.kept hq, h7.kept hq, h9.kept hq, fun i q hi => ?_⟩
  obtain ⟨g1, g2, g3, g4, g5⟩ := h8 i q hi
  exact ⟨g1.kept hq, g2.kept hq, g3.kept hq, g4.kept hq, g5⟩
theorem Gl.narrow {d : DT} {A B : Nat → Prop} {U : State} {H : Heap} (h : Gl d A U H) (hAB : ∀ q, B q → A q) : Gl d B U H := by
  obtain ⟨h1, h2, h3, h4, h5, h6, h7, h9, h8⟩ := h
  refine ⟨h1, h2, h3, h4, h5.narrow hAB, h6.narrow hAB, h7.narrow hAB, h9.narrow hAB, fun i q hi => ?_⟩
  obtain ⟨g1, g2, g3, g4, g5⟩ := h8 i q hi
  exact ⟨g1.narrow hAB, g2.narrow hAB, g3.narrow hAB, g4.narrow hAB, g5⟩
/-- a contract's start and end; the contract -/
def Pre (d : DT) (av : List Value) (gs : List va_W) (sz : Nat) : Array Value → State → Prop := va_Pc av fun U => U.heap.size = sz ∧ va_P d.1 vwCl gs.flatten U.heap ∧ va_D (fun _ => True) gs.flatten ∧ Gl d (va_A gs.flatten sz) U U.heap
def Pst (d : DT) {S : Type} (post : S → Option Value × List va_W) (A : Nat → Prop) : Array Value → State → Outcome → State → Prop := fun _ st oc t =>
  (∃ u : S, oc = .returned (post u).1 ∧ va_P d.1 vwCl (post u).2.flatten t.heap ∧ va_D A (post u).2.flatten) ∧ va_F A st t
def Ct (l : Launch) (d : DT) (y : MethodName) (cc : ByteArray) (maxL : Nat) (ret : Option FieldType) (rm : Room) (av : List Value) (gs : List va_W) {S : Type} (post : S → Option Value × List va_W) : Prop :=
  ∀ sz : Nat, Met l y (.code y cc maxL ret :: gW) rm (Pre d av gs sz) (Pst d post (va_A gs.flatten sz)) rm.cells rm.slots (va_A gs.flatten sz)
/-- what a walk may use -/
def Ok (d : DT) (Φ : JC) (own nm : String) (cc : ByteArray) (nL : Nat) (ret : Option FieldType) (rm : Room) : Prop :=
  Φ.1.tables.exec = Jvm.exec ∧ Φ.2.2.2.2.2.2.2.2.2.1.code = cc ∧ Φ.2.2.2.2.2.2.2.2.2.1.maxLocals = nL ∧ Φ.2.2.2.2.1.vm.findClass own = some Φ.2.2.2.2.2.1.cls ∧ (∀ w ∈ gW, w.before Φ.2.2.2.2.2.2.1 Φ.2.2.2.2.1 = true) ∧ Φ.2.2.2.1 = rm ∧ Φ.2.2.2.2.2.2.2.2.1.sig.returnType = ret ∧ Φ.2.2.2.2.2.2.2.2.1.locks = false ∧ Φ.2.2.2.2.2.2.2.2.1.name = nm ∧ (∀ q, Φ.2.2.2.2.1.heap.size ≤ q → Φ.2.2.2.2.2.2.2.2.2.2.1 q) ∧ Gl d Φ.2.2.2.2.2.2.2.2.2.2.1 Φ.2.2.2.2.1 Φ.2.2.2.2.1.heap
def Rt (d : DT) (Φ : JC) (rm : Room) {S : Type} (post : S → Option Value × List va_W) : Prop :=
  Φ.2.2.2.2.2.2.2.2.2.2.2 = MQ Φ.2.2.2.2.2.2.2.1 (Pst d post Φ.2.2.2.2.2.2.2.2.2.2.1) Φ.2.2.2.2.2.2.1 Φ.2.2.2.2.1 rm.cells rm.slots Φ.2.2.2.2.2.2.2.2.2.2.1
set_option maxHeartbeats 4000000 in
theorem Ct.of {l : Launch} {d : DT} {y : MethodName} {cc : ByteArray} {maxL : Nat} {ret : Option FieldType} {rm : Room} {av : List Value} {gs : List va_W} {S : Type} {post : S → Option Value × List va_W} (hy : plainName y.cls = true) (hlen : (lg_sl av).length ≤ maxL)
    (body : ∀ Φ : JC, Φ.2.1 = l → Ok d Φ y.cls y.name cc maxL ret rm → Rt d Φ rm post → J d Φ maxL gs 0 0 0 (lv_args 0 av) []) : Ct l d y cc maxL ret rm av gs post := by
  intro sz
  refine Met.ofW (cc := cc) (maxL := maxL) (ret := ret) hy rfl ?_
  intro p e s m args below meth c s₁ B hml hv
  obtain ⟨rfl, hsz, hP, hD0, hG⟩ := hv
  have hts := atoms_spec (ws := .code y cc maxL ret :: gW) B.pre
  have hown : s.vm.findClass y.cls = some m.cls := findClass_of_methodNamed B.named
  have hin : meth.name = y.name := (name_of_methodNamed B.named B.method).1
  subst hsz
  have hD := hD0.self (sz := s.heap.size)
  have hl := lv_entry av (n := maxL) hlen
  rw [lg_entry_eq]
  exact body (p, l, e, (headSpec (.code y cc maxL ret :: gW) rm).room, s, m, av.toArray, below, meth, c, va_A gs.flatten s.heap.size, MQ below (Pst d post (va_A gs.flatten s.heap.size)) av.toArray s rm.cells rm.slots (va_A gs.flatten s.heap.size)) rfl
    ⟨B.exec, B.bytes, hml, hown, fun w hw => hts w (List.mem_cons_of_mem _ hw), rfl, B.returns, B.notSynchronized, hin, fun q h => Or.inr h, hG⟩ rfl s.heap [] _ hP hD va_S.rf hl

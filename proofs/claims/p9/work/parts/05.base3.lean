/-! worlds: places, orders; reading and writing; the rules of J that ask the cells -/
theorem fl_at : ∀ {gs : List va_W} {i j : Nat} {g : va_W} {x : Nat × va_E}, gs[i]? = some g → g[j]? = some x → ∃ k : Nat, gs.flatten[k]? = some x ∧ ∀ y, gs.flatten.set k y = (gs.set i (g.set j y)).flatten
  | [], i, j, g, x, hi, _ => by simp at hi
  | a :: t, 0, j, g, x, hi, hj => by
    have e : a = g := by simpa using hi
    subst e
    have hl : j < a.length := (List.getElem?_eq_some_iff.mp hj).1
    refine ⟨j, ?_, fun y => ?_⟩
    · rw [List.flatten_cons, List.getElem?_append_left hl]
      exact hj
    · rw [List.set_cons_zero, List.flatten_cons, List.flatten_cons, List.set_append_left _ _ hl]
  | a :: t, i + 1, j, g, x, hi, hj => by
    obtain ⟨k, h1, h2⟩ := fl_at (gs := t) (i := i) (by simpa using hi) hj
    refine ⟨a.length + k, ?_, fun y => ?_⟩
    · rw [List.flatten_cons, List.getElem?_append_right (by omega), Nat.add_sub_cancel_left]
      exact h1
    · rw [List.set_cons_succ, List.flatten_cons, List.flatten_cons, List.set_append_right _ _ (by omega), Nat.add_sub_cancel_left, h2 y]
theorem va_P_iff {D : va_G} {cl : List vw_C} {ws : va_W} {H : Heap} : va_P D cl ws H ↔ ∀ q ∈ ws, va_at D cl q H :=
  ⟨fun h q hq => by obtain ⟨k, hk⟩ := List.getElem?_of_mem hq; exact h k q hk, fun h k q hk => h q (List.mem_of_getElem? hk)⟩
theorem va_D_iff {A : Nat → Prop} {ws : va_W} : va_D A ws ↔ (ws.map Prod.fst).Nodup ∧ ∀ q ∈ ws, A q.1 := by
  constructor
  · intro h
    refine ⟨?_, fun q hq => by obtain ⟨k, hk⟩ := List.getElem?_of_mem hq; exact h.2 k q hk⟩
    rw [List.Nodup, List.pairwise_iff_getElem]
    intro i j hi hj hij he
    rw [List.length_map] at hi hj
    rw [List.getElem_map, List.getElem_map] at he
    have := h.1 i j _ _ (List.getElem?_eq_getElem hi) (List.getElem?_eq_getElem hj) he
    omega
  · intro h
    refine ⟨fun i j p q hi hj he => ?_, fun k q hk => h.2 q (List.mem_of_getElem? hk)⟩
    have hn := h.1
    rw [List.Nodup, List.pairwise_iff_getElem] at hn
    obtain ⟨li, ei⟩ := List.getElem?_eq_some_iff.mp hi
    obtain ⟨lj, ej⟩ := List.getElem?_eq_some_iff.mp hj
    rcases Nat.lt_trichotomy i j with z | z | z
    · exact absurd (by rw [List.getElem_map, List.getElem_map, ei, ej]; exact he) (hn i j (by rw [List.length_map]; exact li) (by rw [List.length_map]; exact lj) z)
    · exact z
    · exact absurd (by rw [List.getElem_map, List.getElem_map, ei, ej]; exact he.symm) (hn j i (by rw [List.length_map]; exact lj) (by rw [List.length_map]; exact li) z)
theorem va_P_perm {D : va_G} {cl : List vw_C} {ws ws' : va_W} {H : Heap} (h : ws.Perm ws') (hP : va_P D cl ws H) : va_P D cl ws' H := va_P_iff.mpr fun q hq => va_P_iff.mp hP q (h.mem_iff.mpr hq)
theorem va_D_perm {A : Nat → Prop} {ws ws' : va_W} (h : ws.Perm ws') (hD : va_D A ws) : va_D A ws' := by
  rw [va_D_iff] at hD ⊢
  exact ⟨(h.map Prod.fst).nodup_iff.mp hD.1, fun q hq => hD.2 q (h.mem_iff.mpr hq)⟩
theorem perm_pick {α : Type} {gs gs2 : List α} {n : Nat} (ks : List Nat) (hn : gs.length = n) (hp : ks.isPerm (List.range n) = true) (h : ks.map (fun i => gs[i]?) = gs2.map some) : gs.Perm gs2 := by
  have e1 : (List.range gs.length).map (fun i => gs[i]?) = gs.map some := by
    apply List.ext_getElem?
    intro i
    by_cases hi : i < gs.length
    · simp [hi]
    · simp [hi]
  have hp := List.isPerm_iff.mp hp
  rw [← hn] at hp
  have h2 := (hp.map (fun i => gs[i]?)).filterMap id
  rw [h, e1] at h2
  simpa [List.filterMap_map] using h2.symm
/-- the frame: a call has left the rest as it was -/
theorem frame_join {A0 : Nat → Prop} {D : va_G} {cl : List vw_C} {wr wc w1 : va_W} {H H1 : Heap} (hP : va_P D cl (wr ++ wc) H) (hD : va_D A0 (wr ++ wc)) (hk : ∀ q : Nat, q < H.size → ¬ va_A wc H.size q → H1[q]? = H[q]?) (hF : ∀ q, va_A wc H.size q → A0 q) (hP1 : va_P D cl w1 H1) (hD1 : va_D (va_A wc H.size) w1) :
    va_P D cl (wr ++ w1) H1 ∧ va_D A0 (wr ++ w1) := by
  have hm : ∀ {q : Nat}, (∃ (k : Nat) (e : va_E), wc[k]? = some (q, e)) → ∃ e, (q, e) ∈ wc := fun ⟨k, e, h⟩ => ⟨e, List.mem_of_getElem? h⟩
  have hD' := va_D_iff.mp hD
  have hD1' := va_D_iff.mp hD1
  have hnd := hD'.1
  rw [List.map_append, List.nodup_append] at hnd
  have apart : ∀ q ∈ wr, q.1 < H.size ∧ ¬ va_A wc H.size q.1 := by
    intro q hq
    have hlt := (va_P_iff.mp hP q (List.mem_append_left _ hq)).lt
    refine ⟨hlt, fun h => ?_⟩
    rcases h with h | h
    · obtain ⟨e, he⟩ := hm h
      exact hnd.2.2 q.1 (List.mem_map_of_mem hq) q.1 (List.mem_map.mpr ⟨_, he, rfl⟩) rfl
    · omega
  refine ⟨va_P_iff.mpr fun q hq => ?_, va_D_iff.mpr ⟨?_, fun q hq => ?_⟩⟩
  · rcases List.mem_append.mp hq with h | h
    · have hP0 : va_P D cl [q] H := va_P_iff.mpr fun x hx => by rw [List.mem_singleton.mp hx]; exact va_P_iff.mp hP q (List.mem_append_left _ h)
      have := va_P.kept (H1 := H1) hP0 (fun k x hx => by
        have hx' : x = q := List.mem_singleton.mp (List.mem_of_getElem? hx)
        rw [hx']
        exact hk _ (apart q h).1 (apart q h).2)
      exact va_P_iff.mp this q (List.mem_singleton.mpr rfl)
    · exact va_P_iff.mp hP1 q h
  · rw [List.map_append, List.nodup_append]
    refine ⟨hnd.1, hD1'.1, fun a ha b hb hab => ?_⟩
    obtain ⟨x, hx, rfl⟩ := List.mem_map.mp ha
    obtain ⟨z, hz, rfl⟩ := List.mem_map.mp hb
    exact (apart x hx).2 (hab ▸ hD1'.2 z hz)
  · rcases List.mem_append.mp hq with h | h
    · exact hD'.2 q (List.mem_append_left _ h)
    · exact hF _ (hD1'.2 q h)
/-! reading, writing, copying: what the functions say -/
def inb (i : Int32) (n : Nat) : Bool := decide (¬ (i < 0 ∨ n ≤ i.toNatClampNeg))
theorem inb_vp {i : Int32} {n : Nat} (h : inb i n = true) : vp_in i n := by
  unfold inb at h
  show ¬ (i < 0 ∨ n ≤ i.toNatClampNeg)
  exact of_decide_eq_true h
def ck (i : Int32) (n : Nat) : Option Nat := if inb i n = true then some i.toNatClampNeg else none
def rd {α : Type} (n : Nat) (f : Nat → α) (i : Int32) : Option α := if inb i n = true then some (f i.toNatClampNeg) else none
def wr {α : Type} (n : Nat) (f : Nat → α) (i : Int32) (x : α) : Option (Nat → α) := if inb i n = true then some (va_up f i.toNatClampNeg x) else none
def cpy {α : Type} (n0 : Nat) (f : Nat → α) (n1 : Nat) (g : Nat → α) (sp dp m : Int32) : Option (Nat → α) :=
  if ¬ sp < 0 ∧ ¬ dp < 0 ∧ ¬ m < 0 ∧ sp.toNatClampNeg + m.toNatClampNeg ≤ n0 ∧ dp.toNatClampNeg + m.toNatClampNeg ≤ n1 then some (va_cpy f g sp.toNatClampNeg dp.toNatClampNeg m.toNatClampNeg) else none
def zb (v : Int32) : Option Int32 := if v = 0 ∨ v = 1 then some v else none
def nz (v : Int32) : Option Unit := if v = 0 then none else some ()
def bnd {α β : Type} (x : α) (f : α → β) : β := f x
def lp {S E : Type} (step : S → Option (S ⊕ E)) : Nat → S → Option E
  | 0, _ => none
  | k + 1, s => match step s with
    | none => none
    | some (.inl s') => lp step k s'
    | some (.inr e) => some e
theorem ck_ok {i : Int32} {n q : Nat} (h : ck i n = some q) : inb i n = true ∧ q = i.toNatClampNeg ∧ q < n := by
  unfold ck at h
  split at h
  · next h1 => cases h; exact ⟨h1, rfl, Nat.not_le.mp fun z => (inb_vp h1) (Or.inr z)⟩
  · cases h
theorem rd_ok {α : Type} {n : Nat} {f : Nat → α} {i : Int32} {v : α} (h : rd n f i = some v) : inb i n = true ∧ v = f i.toNatClampNeg := by
  unfold rd at h
  split at h
  · next h1 => cases h; exact ⟨h1, rfl⟩
  · cases h
theorem wr_ok {α : Type} {n : Nat} {f f' : Nat → α} {i : Int32} {x : α} (h : wr n f i x = some f') : inb i n = true ∧ f' = va_up f i.toNatClampNeg x := by
  unfold wr at h
  split at h
  · next h1 => cases h; exact ⟨h1, rfl⟩
  · cases h
theorem bs {α β : Type} {x : Option α} {f : α → Option β} {b : β} (h : x.bind f = some b) : ∃ a, x = some a ∧ f a = some b := Option.bind_eq_some_iff.mp h
theorem ip {c : Prop} [inst : Decidable c] {α : Type} {a b : Option α} {o : α} (h : c) (hf : (if c then a else b) = some o) : a = some o := by rw [if_pos h] at hf; exact hf
theorem iq {c : Prop} [inst : Decidable c] {α : Type} {a b : Option α} {o : α} (h : ¬ c) (hf : (if c then a else b) = some o) : b = some o := by rw [if_neg h] at hf; exact hf
theorem lp_ok {S E : Type} {step : S → Option (S ⊕ E)} {k : Nat} {s : S} {e : E} (h : lp step k s = some e) : ∃ (k' : Nat) (r : S ⊕ E), k = k' + 1 ∧ step s = some r ∧ ((∃ s', r = .inl s' ∧ lp step k' s' = some e) ∨ r = .inr e) := by
  cases k with
  | zero => cases h
  | succ k =>
    simp only [lp] at h
    cases hs : step s with
    | none => rw [hs] at h; cases h
    | some r =>
      rw [hs] at h
      cases r with
      | inl s' => exact ⟨k, _, rfl, rfl, Or.inl ⟨s', rfl, h⟩⟩
      | inr e' => cases h; exact ⟨k, _, rfl, rfl, Or.inr rfl⟩
theorem zb_ok {v r : Int32} (h : zb v = some r) : r = v ∧ narrow .boolean (.int v) = .int v := by
  unfold zb at h
  split at h
  · next h1 => cases h; rcases h1 with rfl | rfl <;> exact ⟨rfl, rfl⟩
  · cases h
theorem nz_ok {v : Int32} {u : Unit} (h : nz v = some u) : ¬ v = 0 := by
  unfold nz at h
  split at h
  · cases h
  · next h1 => exact h1
theorem gridI_at {d : DT} {r : Nat → Nat} {n k : Nat} {M : Nat → Nat → Int32} {q : Nat} (h : q < n) : (gridI d r n k M)[q]? = some (cI d (r q) k (M q)) := by simp [gridI, h]
theorem gridJ_at {d : DT} {r : Nat → Nat} {n k : Nat} {M : Nat → Nat → Int64} {q : Nat} (h : q < n) : (gridJ d r n k M)[q]? = some (cJ d (r q) k (M q)) := by simp [gridJ, h]
theorem gridI_set {d : DT} {r : Nat → Nat} {n k : Nat} {M : Nat → Nat → Int32} {q : Nat} {f : Nat → Int32} : (gridI d r n k M).set q (cI d (r q) k f) = gridI d r n k (va_up M q f) := by
  apply List.ext_getElem?
  intro i
  rw [List.getElem?_set]
  by_cases hi : i < n
  · rw [gridI_at hi, gridI_at hi]
    by_cases h : q = i
    · subst h; simp [gridI, hi, va_up]
    · rw [if_neg h]; simp [va_up, Ne.symm h]
  · have h1 : (gridI d r n k M)[i]? = none := by simp [gridI, hi]
    have h2 : (gridI d r n k (va_up M q f))[i]? = none := by simp [gridI, hi]
    rw [h1, h2]
    by_cases h : q = i
    · subst h; simp [gridI, hi]
    · rw [if_neg h]
theorem gridJ_set {d : DT} {r : Nat → Nat} {n k : Nat} {M : Nat → Nat → Int64} {q : Nat} {f : Nat → Int64} : (gridJ d r n k M).set q (cJ d (r q) k f) = gridJ d r n k (va_up M q f) := by
  apply List.ext_getElem?
  intro i
  rw [List.getElem?_set]
  by_cases hi : i < n
  · rw [gridJ_at hi, gridJ_at hi]
    by_cases h : q = i
    · subst h; simp [gridJ, hi, va_up]
    · rw [if_neg h]; simp [va_up, Ne.symm h]
  · have h1 : (gridJ d r n k M)[i]? = none := by simp [gridJ, hi]
    have h2 : (gridJ d r n k (va_up M q f))[i]? = none := by simp [gridJ, hi]
    rw [h1, h2]
    by_cases h : q = i
    · subst h; simp [gridJ, hi]
    · rw [if_neg h]

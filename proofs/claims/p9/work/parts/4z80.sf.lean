/-! safety: a pure function gives some, and of what it gives something holds -/
def Sf {α : Type} (x : Option α) (Q : α → Prop) : Prop := ∃ a, x = some a ∧ Q a
theorem Sf.ok {α : Type} {a : α} {Q : α → Prop} (h : Q a) : Sf (some a) Q := ⟨a, rfl, h⟩
theorem Sf.mono {α : Type} {x : Option α} {P Q : α → Prop} (h : Sf x P) (k : ∀ a, P a → Q a) : Sf x Q := by
  obtain ⟨a, e, h⟩ := h
  exact ⟨a, e, k a h⟩
theorem Sf.both {α : Type} {x : Option α} {P Q : α → Prop} (h : Sf x P) (k : Sf x Q) : Sf x (fun a => P a ∧ Q a) := by
  obtain ⟨a, e, h⟩ := h
  obtain ⟨b, e2, k⟩ := k
  rw [e] at e2
  cases e2
  exact ⟨a, e, h, k⟩
theorem Sf.bind {α β : Type} {x : Option α} {f : α → Option β} {P : α → Prop} {Q : β → Prop} (hx : Sf x P) (hf : ∀ a, P a → Sf (f a) Q) : Sf (x.bind f) Q := by
  obtain ⟨a, rfl, h⟩ := hx
  exact hf a h
theorem Sf.bindS {α α' β : Type} {x : Option (α ⊕ α')} {f : α → Option β} {g : α' → Option β} {P : α → Prop} {P' : α' → Prop} {Q : β → Prop} (hx : Sf x (Sum.elim P P')) (hf : ∀ a, P a → Sf (f a) Q) (hg : ∀ a, P' a → Sf (g a) Q) : Sf (x.bind (Sum.elim f g)) Q := by
  obtain ⟨a, rfl, h⟩ := hx
  cases a with
  | inl a => exact hf a h
  | inr a => exact hg a h
theorem Sf.someb {α β : Type} {a : α} {f : α → Option β} {Q : β → Prop} (hf : ∀ b, b = a → Sf (f b) Q) : Sf ((some a).bind f) Q := hf a rfl
theorem Sf.ite {α : Type} {c : Prop} [inst : Decidable c] {a b : Option α} {Q : α → Prop} (h1 : c → Sf a Q) (h2 : ¬ c → Sf b Q) : Sf (if c then a else b) Q := by
  by_cases h : c
  · rw [if_pos h]; exact h1 h
  · rw [if_neg h]; exact h2 h
theorem i32_nn {i : Int32} (h : 0 ≤ i) : (0 : Int) ≤ i.toInt := by simpa using Int32.le_iff_toInt_le.mp h
theorem i32_cl {i : Int32} (h : 0 ≤ i) : ((i.toNatClampNeg : Nat) : Int) = i.toInt := by
  have := i32_nn h
  show ((i.toInt.toNat : Nat) : Int) = _
  omega
theorem i32_lt {i M : Int32} {N : Nat} (hM : M.toInt = (N : Int)) (hi : 0 ≤ i ∧ i < M) : i.toNatClampNeg < N := by
  have h1 := i32_cl hi.1
  have h2 := Int32.lt_iff_toInt_lt.mp hi.2
  omega
theorem inb_ok {i M : Int32} {N : Nat} (hM : M.toInt = (N : Int)) (hi : 0 ≤ i ∧ i < M) : inb i N = true := by
  unfold inb
  refine decide_eq_true ?_
  rintro (h | h)
  · exact absurd h (Int32.not_lt.mpr hi.1)
  · have := i32_lt hM hi
    omega
def AI (lo hi : Int32) (f : Nat → Int32) : Prop := ∀ k : Nat, lo ≤ f k ∧ f k ≤ hi
theorem AI.up {lo hi x : Int32} {f : Nat → Int32} {i : Nat} (h : AI lo hi f) (hx : lo ≤ x ∧ x ≤ hi) : AI lo hi (va_up f i x) := by
  intro k
  unfold va_up
  by_cases hk : k = i
  · rw [if_pos hk]; exact hx
  · rw [if_neg hk]; exact h k
theorem AI.fill {lo hi x : Int32} {f : Nat → Int32} {m : Nat} (h : AI lo hi f) (hx : lo ≤ x ∧ x ≤ hi) : AI lo hi (fillV m x f) := by
  intro k
  unfold fillV
  by_cases hk : k < m
  · rw [if_pos hk]; exact hx
  · rw [if_neg hk]; exact h k
theorem AI.cpy {lo hi : Int32} {f g : Nat → Int32} {a b c : Nat} (h : AI lo hi f) (h2 : AI lo hi g) : AI lo hi (va_cpy f g a b c) := by
  intro k
  unfold va_cpy
  by_cases hk : b ≤ k ∧ k < b + c
  · rw [if_pos hk]; exact h _
  · rw [if_neg hk]; exact h2 k
theorem Sf.rdb {α β : Type} {N : Nat} {f : Nat → α} {i : Int32} {k : α → Option β} {Q : β → Prop} (M : Int32) (hM : M.toInt = (N : Int)) (hi : 0 ≤ i ∧ i < M) (hk : ∀ v, v = f i.toNatClampNeg → Sf (k v) Q) : Sf ((rd N f i).bind k) Q := by
  have e : rd N f i = some (f i.toNatClampNeg) := if_pos (inb_ok hM hi)
  rw [e]
  exact hk _ rfl
theorem Sf.rdI {β : Type} {N : Nat} {f : Nat → Int32} {i : Int32} {k : Int32 → Option β} {Q : β → Prop} {lo hi : Int32} (M : Int32) (hM : M.toInt = (N : Int)) (hf : AI lo hi f) (hix : 0 ≤ i ∧ i < M) (hk : ∀ v, lo ≤ v ∧ v ≤ hi → v = f i.toNatClampNeg → Sf (k v) Q) : Sf ((rd N f i).bind k) Q :=
  Sf.rdb M hM hix (fun v hv => hk v (by rw [hv]; exact hf _) hv)
theorem Sf.rdl {α β : Type} {N : Nat} {f : Nat → α} {i : Int32} {k : α → Option β} {Q : β → Prop} (c : Nat) (hc : i.toNatClampNeg = c) (hi : inb i N = true) (hk : ∀ v, v = f c → Sf (k v) Q) : Sf ((rd N f i).bind k) Q := by
  have e : rd N f i = some (f i.toNatClampNeg) := if_pos hi
  rw [e, hc]
  exact hk _ rfl
theorem Sf.wrb {α β : Type} {N : Nat} {f : Nat → α} {i : Int32} {x : α} {k : (Nat → α) → Option β} {Q : β → Prop} (M : Int32) (hM : M.toInt = (N : Int)) (hi : 0 ≤ i ∧ i < M) (hk : ∀ g, g = va_up f i.toNatClampNeg x → Sf (k g) Q) : Sf ((wr N f i x).bind k) Q := by
  have e : wr N f i x = some (va_up f i.toNatClampNeg x) := if_pos (inb_ok hM hi)
  rw [e]
  exact hk _ rfl
theorem Sf.wrI {β : Type} {N : Nat} {f : Nat → Int32} {i x : Int32} {k : (Nat → Int32) → Option β} {Q : β → Prop} {lo hi : Int32} (M : Int32) (hM : M.toInt = (N : Int)) (hf : AI lo hi f) (hix : 0 ≤ i ∧ i < M) (hx : lo ≤ x ∧ x ≤ hi) (hk : ∀ g, AI lo hi g → g = va_up f i.toNatClampNeg x → Sf (k g) Q) : Sf ((wr N f i x).bind k) Q :=
  Sf.wrb M hM hix (fun g hg => hk g (by rw [hg]; exact hf.up hx) hg)
theorem Sf.wrl {α β : Type} {N : Nat} {f : Nat → α} {i : Int32} {x : α} {k : (Nat → α) → Option β} {Q : β → Prop} (c : Nat) (hc : i.toNatClampNeg = c) (hi : inb i N = true) (hk : ∀ g, g = va_up f c x → Sf (k g) Q) : Sf ((wr N f i x).bind k) Q := by
  have e : wr N f i x = some (va_up f i.toNatClampNeg x) := if_pos hi
  rw [e, hc]
  exact hk _ rfl
theorem Sf.ckb {β : Type} {N : Nat} {i : Int32} {k : Nat → Option β} {Q : β → Prop} (M : Int32) (hM : M.toInt = (N : Int)) (hi : 0 ≤ i ∧ i < M) (hk : ∀ q : Nat, q = i.toNatClampNeg → q < N → Sf (k q) Q) : Sf ((ck i N).bind k) Q := by
  have e : ck i N = some i.toNatClampNeg := if_pos (inb_ok hM hi)
  rw [e]
  exact hk _ rfl (i32_lt hM hi)
theorem Sf.zbb {β : Type} {v : Int32} {k : Int32 → Option β} {Q : β → Prop} (hv : v = 0 ∨ v = 1) (hk : ∀ r, r = v → Sf (k r) Q) : Sf ((zb v).bind k) Q := by
  have e : zb v = some v := if_pos hv
  rw [e]
  exact hk _ rfl
theorem Sf.nzb {β : Type} {v : Int32} {k : Unit → Option β} {Q : β → Prop} (hv : v ≠ 0) (hk : Sf (k ()) Q) : Sf ((nz v).bind k) Q := by
  have e : nz v = some () := if_neg hv
  rw [e]
  exact hk
theorem Sf.cpyb {α β : Type} {n0 n1 : Nat} {f g : Nat → α} {sp dp m : Int32} {k : (Nat → α) → Option β} {Q : β → Prop} (h : 0 ≤ sp ∧ 0 ≤ dp ∧ 0 ≤ m) (h1 : sp.toInt + m.toInt ≤ n0) (h2 : dp.toInt + m.toInt ≤ n1) (hk : ∀ r, r = va_cpy f g sp.toNatClampNeg dp.toNatClampNeg m.toNatClampNeg → Sf (k r) Q) : Sf ((cpy n0 f n1 g sp dp m).bind k) Q := by
  have a := i32_cl h.1
  have b := i32_cl h.2.1
  have c := i32_cl h.2.2
  have e : cpy n0 f n1 g sp dp m = some (va_cpy f g sp.toNatClampNeg dp.toNatClampNeg m.toNatClampNeg) := if_pos ⟨Int32.not_lt.mpr h.1, Int32.not_lt.mpr h.2.1, Int32.not_lt.mpr h.2.2, by omega, by omega⟩
  rw [e]
  exact hk _ rfl
/-! loops -/
def LQ {S E : Type} (I : S → Prop) (μ : S → Nat) (m : Nat) (Q : E → Prop) : S ⊕ E → Prop := Sum.elim (fun s => I s ∧ μ s < m) Q
theorem Sf.inl {S E : Type} {I : S → Prop} {μ : S → Nat} {m : Nat} {Q : E → Prop} {s : S} (h : I s) (hm : μ s < m) : Sf (some (.inl s : S ⊕ E)) (LQ I μ m Q) := ⟨_, rfl, h, hm⟩
theorem Sf.inr {S E : Type} {I : S → Prop} {μ : S → Nat} {m : Nat} {Q : E → Prop} {e : E} (h : Q e) : Sf (some (.inr e : S ⊕ E)) (LQ I μ m Q) := ⟨_, rfl, h⟩
theorem Sf.loop {S E : Type} {step : S → Option (S ⊕ E)} {Q : E → Prop} (I : S → Prop) (μ : S → Nat) (hs : ∀ s, I s → Sf (step s) (LQ I μ (μ s) Q)) : ∀ (n : Nat) (s : S), I s → μ s < n → Sf (lp step n s) Q := by
  intro n
  induction n with
  | zero => intro s _ h; exact absurd h (Nat.not_lt_zero _)
  | succ n ih =>
    intro s hI hn
    obtain ⟨r, er, hr⟩ := hs s hI
    cases r with
    | inl s' =>
      have hr : I s' ∧ μ s' < μ s := hr
      have e : lp step (n + 1) s = lp step n s' := by simp only [lp, er]
      rw [e]
      exact ih s' hr.1 (by omega)
    | inr x =>
      have hr : Q x := hr
      have e : lp step (n + 1) s = some x := by simp only [lp, er]
      rw [e]
      exact ⟨x, rfl, hr⟩
def muUp (z : Int32) : Nat := (2147483647 - z.toInt).toNat
def muDn (z : Int32) : Nat := (z.toInt + 2147483648).toNat
theorem muUp_lt {z B : Int32} (h : ¬ B ≤ z) : muUp (z + 1) < muUp z := by
  have h1 := Int32.lt_iff_toInt_lt.mp (Int32.not_le.mp h)
  have h2 : B.toInt < 2147483648 := Int32.toInt_lt B
  have h3 : -2147483648 ≤ z.toInt := Int32.le_toInt z
  have e : (z + 1).toInt = z.toInt + 1 := by
    simp [Int32.toInt_add, Int.bmod]
    omega
  unfold muUp
  omega
theorem muUp_lt' {z B : Int32} (h : z < B) : muUp (z + 1) < muUp z := muUp_lt (Int32.not_le.mpr h)
theorem muDn_lt {z B : Int32} (h : ¬ z < B) (hB : -2147483647 ≤ B) : muDn (z - 1) < muDn z := by
  have h1 := Int32.le_iff_toInt_le.mp (Int32.not_lt.mp h)
  have h2 := Int32.le_iff_toInt_le.mp hB
  have h4 : z.toInt < 2147483648 := Int32.toInt_lt z
  have h5 : (-2147483647 : Int32).toInt = -2147483647 := by decide
  have e : (z - 1).toInt = z.toInt - 1 := by
    simp [Int32.toInt_sub, Int.bmod]
    omega
  unfold muDn
  omega
theorem muUp_n {z : Int32} {n : Nat} (hn : 1000000000000 ≤ n) : muUp z < n := by
  have h3 : -2147483648 ≤ z.toInt := Int32.le_toInt z
  unfold muUp
  omega
theorem muDn_n {z : Int32} {n : Nat} (hn : 1000000000000 ≤ n) : muDn z < n := by
  have h3 : z.toInt < 2147483648 := Int32.toInt_lt z
  unfold muDn
  omega
/-! numbers -/
theorem dv3 {x : Int32} (h : 0 ≤ x ∧ x ≤ 35) : 0 ≤ x / 3 ∧ x / 3 ≤ 11 ∧ (x / 3) * 3 ≤ x ∧ x ≤ (x / 3) * 3 + 2 := by
  have a := i32_cl h.1
  have b := Int32.le_iff_toInt_le.mp h.2
  have e : x = Int32.ofNat x.toNatClampNeg := (Int32.ofNat_toNatClampNeg x h.1).symm
  have h5 : (35 : Int32).toInt = 35 := by decide
  have hl : x.toNatClampNeg < 36 := by omega
  have key : ∀ i : Fin 36, 0 ≤ (Int32.ofNat i.1) / 3 ∧ (Int32.ofNat i.1) / 3 ≤ 11 ∧ ((Int32.ofNat i.1) / 3) * 3 ≤ Int32.ofNat i.1 ∧ Int32.ofNat i.1 ≤ ((Int32.ofNat i.1) / 3) * 3 + 2 := by decide +kernel
  rw [e]
  exact key ⟨_, hl⟩
theorem bm {x : Int} (h : -2147483648 ≤ x) (h2 : x < 2147483648) : x.bmod (2 ^ 32) = x := by
  have e : (2 ^ 32 : Nat) = 4294967296 := by decide
  rw [e]
  simp only [Int.bmod]
  omega
theorem i32_add {a b : Int32} (h : -2147483648 ≤ a.toInt + b.toInt) (h2 : a.toInt + b.toInt < 2147483648) : (a + b).toInt = a.toInt + b.toInt := by rw [Int32.toInt_add, bm h h2]
theorem i32_sub {a b : Int32} (h : -2147483648 ≤ a.toInt - b.toInt) (h2 : a.toInt - b.toInt < 2147483648) : (a - b).toInt = a.toInt - b.toInt := by rw [Int32.toInt_sub, bm h h2]
theorem i32_mul {a b : Int32} (h : -2147483648 ≤ a.toInt * b.toInt) (h2 : a.toInt * b.toInt < 2147483648) : (a * b).toInt = a.toInt * b.toInt := by rw [Int32.toInt_mul, bm h h2]
theorem ixm {p m c : Int32} (hp : 0 ≤ p ∧ p ≤ 1000) (hm : 0 ≤ m ∧ m ≤ 1000) (hc : 0 ≤ c ∧ c ≤ 1000) : (p * m + c).toNatClampNeg = p.toNatClampNeg * m.toNatClampNeg + c.toNatClampNeg := by
  have a := i32_cl hp.1
  have b := i32_cl hm.1
  have d := i32_cl hc.1
  have a2 := Int32.le_iff_toInt_le.mp hp.2
  have b2 := Int32.le_iff_toInt_le.mp hm.2
  have d2 := Int32.le_iff_toInt_le.mp hc.2
  have h5 : (1000 : Int32).toInt = 1000 := by decide
  rw [h5] at a2 b2 d2
  have hmul : p.toNatClampNeg * m.toNatClampNeg ≤ 1000 * 1000 := Nat.mul_le_mul (by omega) (by omega)
  have e1 : p.toInt * m.toInt = ((p.toNatClampNeg * m.toNatClampNeg : Nat) : Int) := by rw [← a, ← b]; simp
  generalize p.toNatClampNeg * m.toNatClampNeg = q at hmul e1 ⊢
  have e2 : (p * m).toInt = q := by rw [i32_mul (by omega) (by omega), e1]
  have e : (p * m + c).toInt = q + c.toInt := by rw [i32_add (by omega) (by omega), e2]
  show ((p * m + c).toInt).toNat = _
  omega
theorem mul_rng {p m : Int32} {P M : Int} (hp : 0 ≤ p.toInt ∧ p.toInt ≤ P) (hm : 0 ≤ m.toInt ∧ m.toInt ≤ M) (h : P * M < 2147483648) (hM : 0 ≤ M) : (p * m).toInt = p.toInt * m.toInt ∧ 0 ≤ p.toInt * m.toInt ∧ p.toInt * m.toInt ≤ P * M := by
  have h0 : 0 ≤ p.toInt * m.toInt := Int.mul_nonneg hp.1 hm.1
  have h1 : p.toInt * m.toInt ≤ P * M := Int.mul_le_mul hp.2 hm.2 hm.1 (Int.le_trans hp.1 hp.2)
  refine ⟨?_, h0, h1⟩
  exact i32_mul (by omega) (by omega)

/-! two readers of one tape: tokens -/
def Sf2 {α β : Type} (x : Option α) (y : Option β) (R : α → β → Prop) : Prop := ∃ a b, x = some a ∧ y = some b ∧ R a b
theorem Sf2.ok {α β : Type} {a : α} {b : β} {R : α → β → Prop} (h : R a b) : Sf2 (some a) (some b) R := ⟨a, b, rfl, rfl, h⟩
theorem Sf2.bind {α β γ δ : Type} {x : Option α} {y : Option β} {R : α → β → Prop} {f : α → Option γ} {g : β → Option δ} {S : γ → δ → Prop} (h : Sf2 x y R) (k : ∀ a b, R a b → Sf2 (f a) (g b) S) : Sf2 (x.bind f) (y.bind g) S := by
  obtain ⟨a, b, e1, e2, r⟩ := h
  rw [e1, e2]
  exact k a b r
theorem Sf2.l {α γ δ : Type} {x : Option α} {P : α → Prop} {f : α → Option γ} {y : Option δ} {S : γ → δ → Prop} (h : Sf x P) (k : ∀ a, P a → Sf2 (f a) y S) : Sf2 (x.bind f) y S := by
  obtain ⟨a, e1, r⟩ := h
  rw [e1]
  exact k a r
theorem Sf2.r {α γ δ : Type} {x : Option α} {P : α → Prop} {f : α → Option γ} {y : Option δ} {S : δ → γ → Prop} (h : Sf x P) (k : ∀ a, P a → Sf2 y (f a) S) : Sf2 y (x.bind f) S := by
  obtain ⟨a, e1, r⟩ := h
  rw [e1]
  exact k a r
theorem Sf2.iteL {γ δ : Type} {c : Prop} [inst : Decidable c] {a b : Option γ} {y : Option δ} {S : γ → δ → Prop} (h1 : c → Sf2 a y S) (h2 : ¬ c → Sf2 b y S) : Sf2 (if c then a else b) y S := by
  by_cases h : c
  · rw [if_pos h]; exact h1 h
  · rw [if_neg h]; exact h2 h
theorem Sf2.iteR {γ δ : Type} {c : Prop} [inst : Decidable c] {a b : Option γ} {y : Option δ} {S : δ → γ → Prop} (h1 : c → Sf2 y a S) (h2 : ¬ c → Sf2 y b S) : Sf2 y (if c then a else b) S := by
  by_cases h : c
  · rw [if_pos h]; exact h1 h
  · rw [if_neg h]; exact h2 h
theorem Sf2.ite {γ δ : Type} {c c' : Prop} [inst : Decidable c] [inst2 : Decidable c'] {a b : Option γ} {a' b' : Option δ} {S : γ → δ → Prop} (hc : c ↔ c') (h1 : c → Sf2 a a' S) (h2 : ¬ c → Sf2 b b' S) : Sf2 (if c then a else b) (if c' then a' else b') S := by
  by_cases h : c
  · rw [if_pos h, if_pos (hc.mp h)]; exact h1 h
  · rw [if_neg h, if_neg (fun q => h (hc.mpr q))]; exact h2 h
theorem Sf2.mono {α β : Type} {x : Option α} {y : Option β} {R S : α → β → Prop} (h : Sf2 x y R) (k : ∀ a b, R a b → S a b) : Sf2 x y S := by
  obtain ⟨a, b, e1, e2, r⟩ := h
  exact ⟨a, b, e1, e2, k a b r⟩
theorem Sf2.of {α β : Type} {x : Option α} {y : Option β} {P : α → Prop} {Q : β → Prop} {R : α → β → Prop} (hx : Sf x P) (hy : Sf y Q) (k : ∀ a b, P a → Q b → R a b) : Sf2 x y R := by
  obtain ⟨a, e1, p⟩ := hx
  obtain ⟨b, e2, q⟩ := hy
  exact ⟨a, b, e1, e2, k a b p q⟩
theorem Sf2.andL {α β : Type} {x : Option α} {y : Option β} {R : α → β → Prop} {P : α → Prop} (h : Sf2 x y R) (hx : Sf x P) : Sf2 x y (fun a b => R a b ∧ P a) := by
  obtain ⟨a, b, e1, e2, r⟩ := h
  exact ⟨a, b, e1, e2, r, hx.at e1⟩
/-- how far a run of signs goes -/
def Adv (P : Nat → Prop) (sz a e : Nat) : Prop := a ≤ e ∧ e ≤ sz ∧ (∀ i, a ≤ i → i < e → P i) ∧ (e = sz ∨ ¬ P e)
theorem Adv.uniq {P : Nat → Prop} {sz a e e' : Nat} (h : Adv P sz a e) (h' : Adv P sz a e') : e = e' := by
  obtain ⟨a1, a2, a3, a4⟩ := h
  obtain ⟨b1, b2, b3, b4⟩ := h'
  rcases Nat.lt_trichotomy e e' with h | h | h
  · rcases a4 with e1 | e1
    · omega
    · exact absurd (b3 e a1 h) e1
  · exact h
  · rcases b4 with e1 | e1
    · omega
    · exact absurd (a3 e' b1 h) e1
theorem Adv.next {P : Nat → Prop} {sz a e : Nat} (h : Adv P sz a e) (ha : a < sz) (hp : P a) : Adv P sz (a + 1) e := by
  obtain ⟨a1, a2, a3, a4⟩ := h
  refine ⟨?_, a2, fun i hi => a3 i (by omega), a4⟩
  rcases Nat.lt_or_ge a e with h | h
  · omega
  · have : a = e := by omega
    rcases a4 with e1 | e1
    · omega
    · rw [← this] at e1
      exact absurd hp e1
/-- a loop over single signs -/
theorem advS {n : Nat} {step : Int32 → Option (Int32 ⊕ Int32)} {P : Nat → Prop} {sz z0 : Int32} (hn : 1000000000000 ≤ n) (hs : 0 ≤ sz ∧ sz ≤ 250) (h0 : 0 ≤ z0 ∧ z0 ≤ sz) (h1 : ∀ z, 0 ≤ z → sz ≤ z → step z = some (.inr z)) (h2 : ∀ z, 0 ≤ z → z < sz → (P z.toNatClampNeg ∧ step z = some (.inl (z + 1))) ∨ (¬ P z.toNatClampNeg ∧ step z = some (.inr z))) : Sf (lp step n z0) (fun w => (0 ≤ w ∧ w ≤ sz) ∧ Adv P sz.toNatClampNeg z0.toNatClampNeg w.toNatClampNeg) := by
  have ns := i32_cl hs.1
  have n0 := i32_cl h0.1
  refine Sf.loop (fun z => (0 ≤ z ∧ z ≤ sz) ∧ z0.toNatClampNeg ≤ z.toNatClampNeg ∧ ∀ i, z0.toNatClampNeg ≤ i → i < z.toNatClampNeg → P i) muUp (fun z h => ?_) n z0 ⟨h0, Nat.le_refl _, fun i h1 h2 => absurd h2 (by omega)⟩ (muUp_n hn)
  obtain ⟨i0, i1, i2⟩ := h
  have nz := i32_cl i0.1
  have lz := Int32.le_iff_toInt_le.mp i0.2
  by_cases hc : sz ≤ z
  · rw [h1 z i0.1 hc]
    have e : z = sz := Int32.le_antisymm i0.2 hc
    exact Sf.inr ⟨i0, i1, by omega, i2, Or.inl (by rw [e])⟩
  · obtain ⟨p0, p1, p3⟩ := up1 i0.1 (Int32.le_trans hs.2 (by decide)) hc
    rcases h2 z i0.1 p3 with ⟨hp, e⟩ | ⟨hp, e⟩
    · rw [e]
      refine Sf.inl (show (0 ≤ z + 1 ∧ z + 1 ≤ sz) ∧ z0.toNatClampNeg ≤ (z + 1).toNatClampNeg ∧ ∀ i, z0.toNatClampNeg ≤ i → i < (z + 1).toNatClampNeg → P i from ⟨⟨p0, ?_⟩, by omega, fun i hi hj => ?_⟩) (muUp_lt hc)
      · clear i2 h1 h2 e
        grind
      · rw [p1] at hj
        by_cases hh : i = z.toNatClampNeg
        · rw [hh]; exact hp
        · exact i2 i hi (by omega)
    · rw [e]
      exact Sf.inr ⟨i0, i1, by omega, i2, Or.inr hp⟩
/-- what a sign is -/
def tkc (x : Int32) : Int32 := if x < 97 then (if x < 48 then (if x = 59 then 3 else 4) else if 57 < x then (if x = 59 then 3 else 4) else 2) else if 122 < x then (if x < 48 then (if x = 59 then 3 else 4) else if 57 < x then (if x = 59 then 3 else 4) else 2) else 1
theorem tkc_1 (x : Int32) : tkc x = 1 ↔ ¬ x < 97 ∧ ¬ 122 < x := by
  unfold tkc
  by_cases a : x < 97
  · rw [if_pos a]
    refine ⟨fun h => ?_, fun h => absurd a h.1⟩
    split at h
    · split at h <;> exact absurd h (by decide)
    · split at h
      · split at h <;> exact absurd h (by decide)
      · exact absurd h (by decide)
  · rw [if_neg a]
    by_cases b : 122 < x
    · rw [if_pos b]
      refine ⟨fun h => ?_, fun h => absurd b h.2⟩
      split at h
      · split at h <;> exact absurd h (by decide)
      · split at h
        · split at h <;> exact absurd h (by decide)
        · exact absurd h (by decide)
    · rw [if_neg b]
      exact ⟨fun _ => ⟨a, b⟩, fun _ => rfl⟩
theorem tkc_2 (x : Int32) : tkc x = 2 ↔ ¬ x < 48 ∧ ¬ 57 < x := by
  constructor
  · intro h
    unfold tkc at h
    by_cases a : x < 48
    · exfalso
      rw [if_pos (show x < 97 from Int32.lt_of_lt_of_le a (by decide)), if_pos a] at h
      split at h <;> exact absurd h (by decide)
    · refine ⟨a, fun b => ?_⟩
      rw [if_neg a, if_pos b] at h
      by_cases c : x < 97
      · rw [if_pos c] at h
        split at h <;> exact absurd h (by decide)
      · rw [if_neg c] at h
        by_cases d : 122 < x
        · rw [if_pos d] at h
          split at h <;> exact absurd h (by decide)
        · rw [if_neg d] at h
          exact absurd h (by decide)
  · rintro ⟨a, b⟩
    unfold tkc
    rw [if_pos (show x < 97 from Int32.lt_of_le_of_lt (Int32.not_lt.mp b) (by decide)), if_neg a, if_neg b]
theorem tkc_r (x : Int32) : tkc x = 1 ∨ tkc x = 2 ∨ tkc x = 3 ∨ tkc x = 4 := by
  unfold tkc
  repeat' split
  all_goals first | exact Or.inl rfl | exact Or.inr (Or.inl rfl) | exact Or.inr (Or.inr (Or.inl rfl)) | exact Or.inr (Or.inr (Or.inr rfl))
theorem tokAt {x0_bytes : (Nat → Int32)} {x0_size : Int32} {x0_start : Int32} {x0_end : Int32} {x0_token : Int32} {x0_value : Int32} {p : Int32} (hp : 0 ≤ p) (hs : x0_size ≤ 250) : Sf (fX3_tokenAt (x0_bytes, x0_size, x0_start, x0_end, x0_token, x0_value) p) (fun r => r = if p < x0_size then tkc (x0_bytes p.toNatClampNeg) else 0) := by
  unfold fX3_tokenAt
  dsimp only [u6]
  refine Sf.ite (fun h => ?_) (fun h => Sf.ok (by rw [if_neg h]))
  rw [if_pos h]
  refine Sf.rdb 250 rfl ⟨hp, Int32.lt_of_lt_of_le h hs⟩ (fun v e => ?_)
  rw [← e]
  have j45 : Sf (fX3_tokenAt_j45 v) (fun r => r = if v = 59 then 3 else 4) := by
    unfold fX3_tokenAt_j45
    exact Sf.ite (fun h => Sf.ok (by rw [if_pos h])) (fun h => Sf.ok (by rw [if_neg h]))
  have j31 : Sf (fX3_tokenAt_j31 v) (fun r => r = if v < 48 then (if v = 59 then 3 else 4) else if 57 < v then (if v = 59 then 3 else 4) else 2) := by
    unfold fX3_tokenAt_j31
    refine Sf.ite (fun h => ?_) (fun h => ?_)
    · rw [if_pos h]; exact j45
    · rw [if_neg h]
      refine Sf.ite (fun h => ?_) (fun h => Sf.ok (by rw [if_neg h]))
      rw [if_pos h]; exact j45
  unfold tkc
  refine Sf.ite (fun h => ?_) (fun h => ?_)
  · rw [if_pos h]; exact j31
  · rw [if_neg h]
    refine Sf.ite (fun h => ?_) (fun h => Sf.ok (by rw [if_neg h]))
    rw [if_pos h]; exact j31
theorem isLet (x : Int32) : Sf (fX7_isLetter x) (fun r => r = if tkc x = 1 then 1 else 0) := by
  unfold fX7_isLetter
  refine Sf.ite (fun h => Sf.ok (by rw [if_neg (fun q => ((tkc_1 x).mp q).1 h)])) (fun h => Sf.ite (fun h2 => Sf.ok (by rw [if_neg (fun q => ((tkc_1 x).mp q).2 h2)])) (fun h2 => Sf.ok (by rw [if_pos ((tkc_1 x).mpr ⟨h, h2⟩)])))
theorem isDig (x : Int32) : Sf (fX7_isDigit x) (fun r => r = if tkc x = 2 then 1 else 0) := by
  unfold fX7_isDigit
  refine Sf.ite (fun h => Sf.ok (by rw [if_neg (fun q => ((tkc_2 x).mp q).1 h)])) (fun h => Sf.ite (fun h2 => Sf.ok (by rw [if_neg (fun q => ((tkc_2 x).mp q).2 h2)])) (fun h2 => Sf.ok (by rw [if_pos ((tkc_2 x).mpr ⟨h, h2⟩)])))
/-- the first k figures from s -/
def dI (b : Nat → Int32) (s : Nat) : Nat → Int
  | 0 => 0
  | k + 1 => 10 * dI b s k + (b (s + k)).toInt - 48
theorem dI_b {b : Nat → Int32} {s : Nat} : ∀ k : Nat, (∀ i, s ≤ i → i < s + k → tkc (b i) = 2) → 0 ≤ dI b s k ∧ (k ≤ 1 → dI b s k ≤ 9) ∧ (k ≤ 2 → dI b s k ≤ 99) ∧ (k ≤ 3 → dI b s k ≤ 999)
  | 0, _ => by
    show (0 : Int) ≤ 0 ∧ (0 ≤ 1 → (0 : Int) ≤ 9) ∧ (0 ≤ 2 → (0 : Int) ≤ 99) ∧ (0 ≤ 3 → (0 : Int) ≤ 999)
    omega
  | k + 1, h => by
    have ih := dI_b k (fun i h1 h2 => h i h1 (by omega))
    have d := (tkc_2 _).mp (h (s + k) (by omega) (by omega))
    have d1 := Int32.le_iff_toInt_le.mp (Int32.not_lt.mp d.1)
    have d2 := Int32.le_iff_toInt_le.mp (Int32.not_lt.mp d.2)
    have e1 : (48 : Int32).toInt = 48 := by decide
    have e2 : (57 : Int32).toInt = 57 := by decide
    show 0 ≤ 10 * dI b s k + (b (s + k)).toInt - 48 ∧ (k + 1 ≤ 1 → 10 * dI b s k + (b (s + k)).toInt - 48 ≤ 9) ∧ (k + 1 ≤ 2 → 10 * dI b s k + (b (s + k)).toInt - 48 ≤ 99) ∧ (k + 1 ≤ 3 → 10 * dI b s k + (b (s + k)).toInt - 48 ≤ 999)
    have z : k = 0 → dI b s k = 0 := by rintro rfl; rfl
    refine ⟨by omega, fun h1 => ?_, fun h1 => ?_, fun h1 => ?_⟩
    · have := z (by omega)
      omega
    · have := ih.2.1 (by omega)
      omega
    · have := ih.2.2.1 (by omega)
      omega
theorem valS {n : Nat} {x0_bytes : (Nat → Int32)} {x0_size : Int32} {x0_start : Int32} {x0_end : Int32} {x0_token : Int32} {x0_value : Int32} (hn : 1000000000000 ≤ n) (hs : 0 ≤ x0_start ∧ x0_start ≤ x0_end) (he : x0_end ≤ 250) (hd : ∀ i, x0_start.toNatClampNeg ≤ i → i < x0_end.toNatClampNeg → tkc (x0_bytes i) = 2) : Sf (fX3_valueHere n (x0_bytes, x0_size, x0_start, x0_end, x0_token, x0_value)) (fun r => (x0_end.toNatClampNeg - x0_start.toNatClampNeg ≤ 3 ∧ r.toInt = dI x0_bytes x0_start.toNatClampNeg (x0_end.toNatClampNeg - x0_start.toNatClampNeg)) ∨ (3 < x0_end.toNatClampNeg - x0_start.toNatClampNeg ∧ r = -1)) := by
  have he0 : 0 ≤ x0_end := Int32.le_trans hs.1 hs.2
  have a1 := i32_cl hs.1
  have a2 := i32_cl he0
  have a3 := Int32.le_iff_toInt_le.mp hs.2
  have a4 := Int32.le_iff_toInt_le.mp he
  have e250 : (250 : Int32).toInt = 250 := by decide
  have e3 : (3 : Int32).toInt = 3 := by decide
  have sub : (x0_end - x0_start).toInt = x0_end.toInt - x0_start.toInt := i32_sub (by omega) (by omega)
  unfold fX3_valueHere
  dsimp only [u6]
  refine Sf.ite (fun h => ?_) (fun h => Sf.ok (Or.inr ⟨?_, rfl⟩))
  · have h := Int32.le_iff_toInt_le.mp h
    have hk : x0_end.toNatClampNeg - x0_start.toNatClampNeg ≤ 3 := by omega
    refine Sf.bind (P := fun r => r.toInt = dI x0_bytes x0_start.toNatClampNeg (x0_end.toNatClampNeg - x0_start.toNatClampNeg)) ?_ (fun r hr => Sf.ok (Or.inl ⟨hk, hr⟩))
    refine Sf.loop2 (fun (z2 z3 : Int32) => (x0_start ≤ z3 ∧ z3 ≤ x0_end) ∧ z2.toInt = dI x0_bytes x0_start.toNatClampNeg (z3.toNatClampNeg - x0_start.toNatClampNeg)) (fun z2 z3 => muUp z3) (fun z2 z3 h => ?_) (show (x0_start ≤ x0_start ∧ x0_start ≤ x0_end) ∧ (0 : Int32).toInt = dI x0_bytes x0_start.toNatClampNeg (x0_start.toNatClampNeg - x0_start.toNatClampNeg) from ⟨⟨Int32.le_refl _, hs.2⟩, by rw [Nat.sub_self]; rfl⟩) (muUp_n hn)
    obtain ⟨i0, i1⟩ := h
    have z0 : 0 ≤ z3 := Int32.le_trans hs.1 i0.1
    have b1 := i32_cl z0
    have b2 := Int32.le_iff_toInt_le.mp i0.1
    have b3 := Int32.le_iff_toInt_le.mp i0.2
    unfold fX3_valueHere_s22
    refine Sf.ite (fun hc => ?_) (fun hc => ?_)
    · have e : z3 = x0_end := Int32.le_antisymm i0.2 hc
      rw [e] at i1
      exact Sf.inr i1
    obtain ⟨p0, p1, p3⟩ := up1 z0 (Int32.le_trans he (by decide)) hc
    have lt := Int32.lt_iff_toInt_lt.mp p3
    refine Sf.rdb 250 rfl ⟨z0, Int32.lt_of_lt_of_le p3 he⟩ (fun v6 e6 => ?_)
    have dg := (tkc_2 _).mp (hd z3.toNatClampNeg (by omega) (by omega))
    rw [← e6] at dg
    have d1 := Int32.le_iff_toInt_le.mp (Int32.not_lt.mp dg.1)
    have d2 := Int32.le_iff_toInt_le.mp (Int32.not_lt.mp dg.2)
    have f1 : (48 : Int32).toInt = 48 := by decide
    have f2 : (57 : Int32).toInt = 57 := by decide
    have f3 : (10 : Int32).toInt = 10 := by decide
    have bd := dI_b (b := x0_bytes) (s := x0_start.toNatClampNeg) (z3.toNatClampNeg - x0_start.toNatClampNeg) (fun i h1 h2 => hd i h1 (by omega))
    have bd2 := bd.2.2.1 (by omega)
    have m1 : (10 * z2).toInt = 10 * z2.toInt := by rw [i32_mul (by rw [f3]; omega) (by rw [f3]; omega), f3]
    have m2 : (10 * z2 + v6).toInt = 10 * z2.toInt + v6.toInt := by rw [i32_add (by omega) (by omega), m1]
    have m3 : (10 * z2 + v6 - 48).toInt = 10 * z2.toInt + v6.toInt - 48 := by rw [i32_sub (by omega) (by omega), m2, f1]
    refine Sf.inl (show (x0_start ≤ z3 + 1 ∧ z3 + 1 ≤ x0_end) ∧ (10 * z2 + v6 - 48).toInt = dI x0_bytes x0_start.toNatClampNeg ((z3 + 1).toNatClampNeg - x0_start.toNatClampNeg) from ⟨⟨?_, ?_⟩, ?_⟩) (muUp_lt hc)
    · have q := i32_cl p0
      exact Int32.le_iff_toInt_le.mpr (by omega)
    · have q := i32_cl p0
      exact Int32.le_iff_toInt_le.mpr (by omega)
    · rw [m3, p1, show z3.toNatClampNeg + 1 - x0_start.toNatClampNeg = (z3.toNatClampNeg - x0_start.toNatClampNeg) + 1 by omega]
      show _ = 10 * dI x0_bytes x0_start.toNatClampNeg (z3.toNatClampNeg - x0_start.toNatClampNeg) + (x0_bytes (x0_start.toNatClampNeg + (z3.toNatClampNeg - x0_start.toNatClampNeg))).toInt - 48
      rw [show x0_start.toNatClampNeg + (z3.toNatClampNeg - x0_start.toNatClampNeg) = z3.toNatClampNeg by omega, ← e6, i1]
  · refine Nat.lt_of_not_le (fun hh => h (Int32.le_iff_toInt_le.mpr ?_))
    omega

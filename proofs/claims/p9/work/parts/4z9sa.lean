/-! FREE, said of a land alone; what the reference's free() answers -/
theorem Sf.and {α : Type} {x : Option α} {P Q : α → Prop} (h : Sf x P) (h2 : Sf x Q) : Sf x (fun a => P a ∧ Q a) := by
  obtain ⟨a, e, p⟩ := h
  obtain ⟨b, e2, q⟩ := h2
  rw [e] at e2
  cases e2
  exact ⟨a, e, p, q⟩
def EdL (L : Nat) (line : Nat → Nat → Int32) (changes coins : Nat → Int32) : Nat → Nat → Int → Prop := Ed L line changes coins (fun _ => 0) 0
theorem Ed_left {L : Nat} {line : Nat → Nat → Int32} {changes coins left : Nat → Int32} (h : ∀ l, l < L → ¬ left l < 0) : Ed L line changes coins left 0 = EdL L line changes coins := by
  funext u v c
  refine propext ⟨?_, ?_⟩
  · rintro (⟨l, w, hL, hw, ⟨b1, b2, _⟩, e, hh⟩ | hh)
    · exact Or.inl ⟨l, w, hL, hw, ⟨b1, b2, (show ¬ (0 : Int32) < 0 by decide)⟩, e, hh⟩
    · exact Or.inr hh
  · rintro (⟨l, w, hL, hw, ⟨b1, b2, _⟩, e, hh⟩ | hh)
    · exact Or.inl ⟨l, w, hL, hw, ⟨b1, b2, h l hL⟩, e, hh⟩
    · exact Or.inr hh
theorem Ed.d {L : Nat} {line : Nat → Nat → Int32} {changes coins left : Nat → Int32} {tons : Int32} (hl : LnM line) (hco : AI 0 9 coins) (hch : AI 0 99 changes) : ∀ u v c, Ed L line changes coins left tons u v c → u < 36 ∧ v < 36 ∧ c ≤ 999 := by
  intro u v c h
  have z9 : (999 : Int32).toInt = 999 := by decide
  have z99 : (99 : Int32).toInt = 99 := by decide
  rcases h with ⟨l, w, hL, hw, hb, rfl, hh⟩ | ⟨p, w, w', hp, hw, hw', rfl, rfl, rfl⟩
  · have m := (i32_b (mc9 (a := line l 3) (b := coins w) (hl l 3) (hco w))).2
    rw [z9] at m
    have a := p_of (hl l 0)
    have b := p_of (hl l 1)
    rcases hh with ⟨rfl, rfl⟩ | ⟨rfl, rfl⟩
    · exact ⟨by omega, by omega, m⟩
    · exact ⟨by omega, by omega, m⟩
  · have m := (i32_b (hch p)).2
    rw [z99] at m
    exact ⟨by omega, by omega, by omega⟩
theorem Ed.d0 {L : Nat} {line : Nat → Nat → Int32} {changes coins left : Nat → Int32} {tons : Int32} (hl : LnM line) (hco : AI 0 9 coins) (hch : AI 0 99 changes) : ∀ u v c, Ed L line changes coins left tons u v c → 0 ≤ c := by
  intro u v c h
  have z0 : (0 : Int32).toInt = 0 := by decide
  rcases h with ⟨l, w, hL, hw, hb, rfl, hh⟩ | ⟨p, w, w', hp, hw, hw', rfl, rfl, rfl⟩
  · have m := (i32_b (mc9 (a := line l 3) (b := coins w) (hl l 3) (hco w))).1
    rw [z0] at m
    exact m
  · have m := (i32_b (hch p)).1
    rw [z0] at m
    exact m
theorem TF_le {D : Nat → Nat → Int → Prop} {G : Nat → Prop} {T T' : Nat → Int32} (h : TF D G T) (h' : TF D G T') : ∀ v, v < 36 → (T' v).toInt ≤ (T v).toInt := by
  intro v hv
  obtain ⟨a1, a2, a3, a4⟩ := h
  obtain ⟨b1, b2, b3, b4⟩ := h'
  have zm : (1000000 : Int32).toInt = 1000000 := by decide
  by_cases hc : (T v).toInt < 1000000
  · obtain ⟨k, hk⟩ := a4 v hv hc
    exact Wk.le b3 b2 k v _ hk
  · have q := (i32_b (b1 v hv)).2
    rw [zm] at q
    omega
theorem TF_uniq {D : Nat → Nat → Int → Prop} {G : Nat → Prop} {T T' : Nat → Int32} (h : TF D G T) (h' : TF D G T') : ∀ v, v < 36 → T v = T' v := by
  intro v hv
  have a := TF_le h h' v hv
  have b := TF_le h' h v hv
  exact Int32.toInt_inj.mp (by omega)
theorem far_lt {D : Nat → Nat → Int → Prop} {G : Nat → Prop} {far : Nat → Int32} (hAt : At D G far) (hF : FxD D far) (hD : ∀ u v c, D u v c → u < 36 ∧ v < 36 ∧ c ≤ 999) (hG36 : ∀ u, G u → u < 36) {g0 : Nat} (hg0 : G g0) {v : Nat} (hv : v < 36) (h : far v < 1000000000) : far v < 1000000 := by
  have zm : (1000000 : Int32).toInt = 1000000 := by decide
  have zb : (1000000000 : Int32).toInt = 1000000000 := by decide
  have q := Int32.lt_iff_toInt_lt.mp h
  rw [zb] at q
  obtain ⟨k, hk⟩ := hAt.2 v hv q
  have r := far_bound hF hD (fun u hu => hAt.1 u (hG36 u hu) hu) (hG36 g0 hg0) hg0 hk
  refine Int32.lt_iff_toInt_lt.mpr ?_
  omega
/-- the least of three -/
def m3 (a b c : Int32) : Int32 := if a ≤ b then (if a ≤ c then a else c) else (if b ≤ c then b else c)
theorem m3_le (a b c : Int32) : m3 a b c ≤ a ∧ m3 a b c ≤ b ∧ m3 a b c ≤ c ∧ (m3 a b c = a ∨ m3 a b c = b ∨ m3 a b c = c) := by
  unfold m3
  by_cases h : a ≤ b
  · rw [if_pos h]
    by_cases h2 : a ≤ c
    · rw [if_pos h2]
      exact ⟨Int32.le_refl _, h, h2, Or.inl rfl⟩
    · rw [if_neg h2]
      have q := Int32.le_of_lt (Int32.not_le.mp h2)
      exact ⟨q, Int32.le_trans q h, Int32.le_refl _, Or.inr (Or.inr rfl)⟩
  · rw [if_neg h]
    have p := Int32.le_of_lt (Int32.not_le.mp h)
    by_cases h2 : b ≤ c
    · rw [if_pos h2]
      exact ⟨p, Int32.le_refl _, h2, Or.inr (Or.inl rfl)⟩
    · rw [if_neg h2]
      have q := Int32.le_of_lt (Int32.not_le.mp h2)
      exact ⟨Int32.le_trans q p, q, Int32.le_refl _, Or.inr (Or.inr rfl)⟩
/-- what a ton costs from a place: 999 where there is no way -/
def cst (T : Nat → Int32) (p : Nat) : Int32 := if m3 (T (3 * p + 0)) (T (3 * p + 1)) (T (3 * p + 2)) < 1000000 then m3 (T (3 * p + 0)) (T (3 * p + 1)) (T (3 * p + 2)) else 999
theorem Ls_m3 {T : Nat → Int32} {p : Nat} (hT : A6 T) (hp : p < 12) : Ls 1000000 T p (m3 (T (3 * p + 0)) (T (3 * p + 1)) (T (3 * p + 2))) := by
  obtain ⟨a, b, c, d⟩ := m3_le (T (3 * p + 0)) (T (3 * p + 1)) (T (3 * p + 2))
  refine ⟨fun w hw => ?_, Int32.le_trans a (hT _ (by omega)).2, Or.inr ?_⟩
  · rcases (show w = 0 ∨ w = 1 ∨ w = 2 by omega) with rfl | rfl | rfl
    · exact a
    · exact b
    · exact c
  · rcases d with d | d | d
    · exact ⟨0, by omega, d⟩
    · exact ⟨1, by omega, d⟩
    · exact ⟨2, by omega, d⟩
theorem Ls_uniq {T : Nat → Int32} {p : Nat} {m m' F : Int32} (h : Ls F T p m) (h' : Ls F T p m') : m = m' := by
  obtain ⟨a1, a2, a3⟩ := h
  obtain ⟨b1, b2, b3⟩ := h'
  have x : m ≤ m' := by
    rcases b3 with e | ⟨w, hw, e⟩
    · rw [e]; exact a2
    · rw [e]; exact a1 w hw
  have y : m' ≤ m := by
    rcases a3 with e | ⟨w, hw, e⟩
    · rw [e]; exact b2
    · rw [e]; exact b1 w hw
  exact Int32.le_antisymm x y
theorem Ls_congr {T T' : Nat → Int32} {p : Nat} {m F : Int32} (hp : p < 12) (e : ∀ v, v < 36 → T v = T' v) (h : Ls F T p m) : Ls F T' p m := by
  obtain ⟨a1, a2, a3⟩ := h
  refine ⟨fun w hw => ?_, a2, ?_⟩
  · rw [← e _ (by omega)]; exact a1 w hw
  · rcases a3 with h | ⟨w, hw, h⟩
    · exact Or.inl h
    · exact Or.inr ⟨w, hw, by rw [← e _ (by omega)]; exact h⟩
theorem cst_Ls {T : Nat → Int32} {p : Nat} {m : Int32} (hT : A6 T) (hp : p < 12) (h : Ls 1000000 T p m) : cst T p = if m < 1000000 then m else 999 := by
  have e := Ls_uniq h (Ls_m3 hT hp)
  unfold cst
  rw [← e]
/-- the reference's least one -/
theorem cst_far {far T : Nat → Int32} {p : Nat} {m : Int32} (hT : A6 T) (hp : p < 12) (e : ∀ v, v < 36 → cut6 far v = T v) (hb : ∀ v, v < 36 → far v < 1000000000 → far v < 1000000) (h : Ls 1000000000 far p m) : cst T p = if m < 1000000000 then m else 999 := by
  have hl := Ls_m3 hT hp
  rw [cst_Ls hT hp hl]
  have hl2 := Ls_congr hp (fun v hv => (e v hv).symm) hl
  rcases Ls_eq (fun w hw => hb _ (by omega)) hl2 h with ⟨h1, h2⟩ | ⟨h1, h2, h3⟩
  · rw [if_neg (Int32.not_lt.mpr h1), if_neg (Int32.not_lt.mpr h2)]
  · rw [if_pos h1, if_pos h2, h3]
def sm (f : Nat → Int32) : Nat → Int32
  | 0 => 0
  | k + 1 => sm f k + f k
theorem sm_congr {f g : Nat → Int32} : ∀ K : Nat, (∀ k, k < K → f k = g k) → sm f K = sm g K
  | 0, _ => rfl
  | K + 1, h => by
    show sm f K + f K = sm g K + g K
    rw [sm_congr K (fun k hk => h k (by omega)), h K (by omega)]
theorem sm_add (f g : Nat → Int32) : ∀ K : Nat, sm f K + sm g K = sm (fun k => f k + g k) K
  | 0 => rfl
  | K + 1 => by
    have ih := sm_add f g K
    show (sm f K + f K) + (sm g K + g K) = sm (fun k => f k + g k) K + (f K + g K)
    rw [← ih]
    grind
def tm (Tq : Nat → Nat → Int32) (good : Nat → Nat → Int32) (g : Nat) : Int32 := good g 2 * cst (Tq (good g 1).toNatClampNeg) (good g 0).toNatClampNeg
def FreeF (Tq : Nat → Nat → Int32) (good : Nat → Nat → Int32) (G : Nat) : Int32 := sm (tm Tq good) G
def Tz (D : Nat → Nat → Int → Prop) (Tq : Nat → Nat → Int32) : Prop := ∀ q, q < 12 → TF D (fun u => u / 3 = q) (Tq q)
theorem FreeF_uniq {D : Nat → Nat → Int → Prop} {Tq Tq' : Nat → Nat → Int32} (h : Tz D Tq) (h' : Tz D Tq') {good : Nat → Nat → Int32} (hg : GdM good) (G : Nat) : FreeF Tq good G = FreeF Tq' good G := by
  refine sm_congr G (fun g _ => ?_)
  unfold tm
  have a := p_of (hg g 1)
  have b := p_of (hg g 0)
  have u := TF_uniq (h _ a) (h' _ a)
  have e : cst (Tq (good g 1).toNatClampNeg) (good g 0).toNatClampNeg = cst (Tq' (good g 1).toNatClampNeg) (good g 0).toNatClampNeg := by
    unfold cst
    rw [u _ (show 3 * (good g 0).toNatClampNeg + 0 < 36 by omega), u _ (show 3 * (good g 0).toNatClampNeg + 1 < 36 by omega), u _ (show 3 * (good g 0).toNatClampNeg + 2 < 36 by omega)]
  rw [e]

/-! FREE as a function of the land, and works done on it -/
theorem va_eq {α : Type} (f : Nat → α) (k : Nat) (a : α) : va_up f k a k = a := by
  unfold va_up
  exact if_pos rfl
theorem va_ne {α : Type} (f : Nat → α) {k j : Nat} (a : α) (h : j ≠ k) : va_up f k a j = f j := by
  unfold va_up
  exact if_neg h
noncomputable def Free (L : Int32) (line : Nat → Nat → Int32) (changes coins : Nat → Int32) (good : Nat → Nat → Int32) (G : Int32) : Int32 :=
  FreeF (Classical.epsilon (Tz (EdL L.toNatClampNeg line changes coins))) good G.toNatClampNeg
theorem Free_eq {L : Int32} {line : Nat → Nat → Int32} {changes coins : Nat → Int32} {good : Nat → Nat → Int32} {G : Int32} {Tq : Nat → Nat → Int32} (h : Tz (EdL L.toNatClampNeg line changes coins) Tq) (hg : GdM good) : FreeF Tq good G.toNatClampNeg = Free L line changes coins good G :=
  FreeF_uniq h (Classical.epsilon_spec ⟨Tq, h⟩) hg _
theorem EdL_congr {L : Nat} {line line' : Nat → Nat → Int32} {changes coins changes' coins' : Nat → Int32} (hl : ∀ l, l < L → ∀ c, c < 7 → line l c = line' l c) (hch : ∀ p, p < 12 → changes p = changes' p) (hco : ∀ w, w < 3 → coins w = coins' w) : EdL L line changes coins = EdL L line' changes' coins' := by
  have one : ∀ {line line' : Nat → Nat → Int32} {changes coins changes' coins' : Nat → Int32}, (∀ l, l < L → ∀ c, c < 7 → line l c = line' l c) → (∀ p, p < 12 → changes p = changes' p) → (∀ w, w < 3 → coins w = coins' w) → ∀ u v c, EdL L line changes coins u v c → EdL L line' changes' coins' u v c := by
    intro line line' changes coins changes' coins' hl hch hco u v c h
    rcases h with ⟨l, w, hL, hw, ⟨b1, b2, b3⟩, e, hh⟩ | ⟨p, w, w', hp, hw, hw', e1, e2, e3⟩
    · rw [hl l hL 6 (by decide)] at b1
      rw [hl l hL 2 (by decide)] at b2
      rw [hl l hL 3 (by decide), hco w hw] at e
      rw [hl l hL 0 (by decide), hl l hL 1 (by decide)] at hh
      exact Or.inl ⟨l, w, hL, hw, ⟨b1, b2, b3⟩, e, hh⟩
    · rw [hch p hp] at e3
      exact Or.inr ⟨p, w, w', hp, hw, hw', e1, e2, e3⟩
  funext u v c
  exact propext ⟨one hl hch hco u v c, one (fun l hL c hc => (hl l hL c hc).symm) (fun p hp => (hch p hp).symm) (fun w hw => (hco w hw).symm) u v c⟩
theorem Free_congr {L : Int32} {line line' : Nat → Nat → Int32} {changes coins changes' coins' : Nat → Int32} {good good' : Nat → Nat → Int32} {G : Int32} (hl : ∀ l, l < L.toNatClampNeg → ∀ c, c < 7 → line l c = line' l c) (hch : ∀ p, p < 12 → changes p = changes' p) (hco : ∀ w, w < 3 → coins w = coins' w) (hg : ∀ g, g < G.toNatClampNeg → ∀ c, c < 3 → good g c = good' g c) : Free L line changes coins good G = Free L line' changes' coins' good' G := by
  unfold Free
  rw [EdL_congr hl hch hco]
  refine sm_congr _ (fun g h => ?_)
  unfold tm
  rw [hg g h 0 (by decide), hg g h 1 (by decide), hg g h 2 (by decide)]
theorem freeR {n : Nat} {x0_shelf : (Nat → Int32)} {x0_rowSort : (Nat → Int32)} {x0_rowSize : (Nat → Int32)} {x0_rows : (Nat → Nat → Int64)} {x0_moved : (Nat → Int64)} {x0_shown : (Nat → Int32)} {x0_tape : (Nat → Int32)} {x0_tapeSize : Int32} {x0_refused : (Nat → Int32)} {x0_lines : Int32} {x0_line : (Nat → Nat → Int32)} {x0_changes : (Nat → Int32)} {x0_coins : (Nat → Int32)} {x0_goods : Int32} {x0_good : (Nat → Nat → Int32)} {x0_works : Int32} {x0_work : (Nat → Nat → Int32)} {x0_years : Int32} {x0_gone : Int32} {x0_spent : Int32} {x0_at : Int32} {x0_token : Int32} {x0_from : Int32} {x0_figures : Int64} {x0_fault : Int32} {x0_numbers : (Nat → Int32)} {x0_statements : Int32} {x0_left : (Nat → Int32)} {x0_far : (Nat → Int32)} {x0_tons : Int32} {x0_way : (Nat → Int32)} {x0_steps : Int32} {x0_met : Int64} {x0_queue : (Nat → Int32)} {x0_totals : (Nat → Int32)} (hn : 1000000000000 ≤ n) (h_x0_shelf : (AI 0 2 x0_shelf)) (h_x0_rowSize : (AI 0 40 x0_rowSize)) (h_x0_tapeSize : (0 ≤ x0_tapeSize ∧ x0_tapeSize ≤ 250)) (h_x0_lines : (0 ≤ x0_lines ∧ x0_lines ≤ 20)) (h_x0_line : (LnM x0_line)) (h_x0_changes : (AI 0 99 x0_changes)) (h_x0_coins : (AI 0 9 x0_coins)) (h_x0_goods : (0 ≤ x0_goods ∧ x0_goods ≤ 8)) (h_x0_good : (GdM x0_good)) (h_x0_works : (0 ≤ x0_works ∧ x0_works ≤ 7)) (h_x0_work : (WkM x0_work)) (h_x0_years : (1 ≤ x0_years ∧ x0_years ≤ 30)) (h_x0_from : (0 ≤ x0_from ∧ x0_from ≤ 250)) (h_x0_far : (AI 0 1000000000 x0_far)) (h_x0_way : (AI 0 22 x0_way)) (h_x0_steps : (0 ≤ x0_steps ∧ x0_steps ≤ 37)) (h_x0_queue : (AI 0 35 x0_queue)) : Sf (fX7_free n (x0_shelf, x0_rowSort, x0_rowSize, x0_rows, x0_moved, x0_shown, x0_tape, x0_tapeSize, x0_refused, x0_lines, x0_line, x0_changes, x0_coins, x0_goods, x0_good, x0_works, x0_work, x0_years, x0_gone, x0_spent, x0_at, x0_token, x0_from, x0_figures, x0_fault, x0_numbers, x0_statements, x0_left, x0_far, x0_tons, x0_way, x0_steps, x0_met, x0_queue, x0_totals)) (fun r => r.1 = Free x0_lines x0_line x0_changes x0_coins x0_good x0_goods) := by
  obtain ⟨Tq, hT⟩ := Tz_ex h_x0_lines h_x0_line h_x0_changes h_x0_coins
  exact Sf.mono (freeT hn h_x0_shelf h_x0_rowSize h_x0_tapeSize h_x0_lines h_x0_line h_x0_changes h_x0_coins h_x0_goods h_x0_good h_x0_works h_x0_work h_x0_years h_x0_from h_x0_far h_x0_way h_x0_steps h_x0_queue hT) (fun r h => h.trans (Free_eq hT h_x0_good))
/-- a flat row as rows -/
def ro (m : Nat) (f : Nat → Int32) (q c : Nat) : Int32 := if c < m then f (m * q + c) else 0
theorem ro_eq {m : Nat} {f : Nat → Int32} {q c : Nat} (h : c < m) : ro m f q c = f (m * q + c) := if_pos h
theorem ro_GI {B : Nat → Int32} {m : Nat} {f : Nat → Int32} (hB : ∀ k, 0 ≤ B k) (h : BI B m f) : GI B (ro m f) := by
  intro q c
  by_cases hc : c < m
  · rw [ro_eq hc]
    have := h (m * q + c)
    rw [Nat.mul_add_mod, Nat.mod_eq_of_lt hc] at this
    exact this
  · unfold ro
    rw [if_neg hc]
    exact ⟨Int32.le_refl 0, hB c⟩
theorem lnB0 : ∀ k, 0 ≤ lnB k := by
  intro k
  unfold lnB
  rcases k with _ | _ | _ | _ | _ | _ | _ | k <;> first | decide | exact Int32.le_refl 0
theorem gdB0 : ∀ k, 0 ≤ gdB k := by
  intro k
  unfold gdB
  rcases k with _ | _ | _ | k <;> first | decide | exact Int32.le_refl 0
theorem freeByC {n : Nat} {x0_left : (Nat → Int32)} {x0_earned : (Nat → Int32)} {x0_turnCost : Int32} {x0_turnWayless : Int32} {x1_edgeA : (Nat → Int32)} {x1_edgeB : (Nat → Int32)} {x1_edgeCost : (Nat → Int32)} {x1_edgeLine : (Nat → Int32)} {x1_change : (Nat → Int32)} {x1_away : (Nat → Int32)} {x1_steps : (Nat → Int32)} {x1_nodes : (Nat → Int32)} {x1_stepCount : Int32} {x1_open : (Nat → Int32)} {x1_openCount : Int32} {x1_seen : Int64} {x1_edgeCount : Int32} {x1_aim : Int32} {x2_lineCount : Int32} {x2_goodsCount : Int32} {x2_workCount : Int32} {x2_years : Int32} {x2_lines : (Nat → Int32)} {x2_goods : (Nat → Int32)} {x2_works : (Nat → Int32)} {x2_change : (Nat → Int32)} {x2_coin : (Nat → Int32)} {x2_knownFree : (Nat → Int32)} {x2_isKnown : Int32} {p2 : Int32} (hn : 1000000000000 ≤ n) (h_x1_edgeA : (AI 0 35 x1_edgeA)) (h_x1_edgeB : (AI 0 35 x1_edgeB)) (h_x1_edgeLine : (AI 0 19 x1_edgeLine)) (h_x1_steps : (AI 0 22 x1_steps)) (h_x1_nodes : (AI 0 35 x1_nodes)) (h_x1_stepCount : (0 ≤ x1_stepCount ∧ x1_stepCount ≤ 36)) (h_x1_open : (AI 0 35 x1_open)) (h_x1_openCount : (0 ≤ x1_openCount ∧ x1_openCount ≤ 36)) (h_x1_edgeCount : (0 ≤ x1_edgeCount ∧ x1_edgeCount ≤ 60)) (h_x2_lineCount : (0 ≤ x2_lineCount ∧ x2_lineCount ≤ 20)) (h_x2_goodsCount : (0 ≤ x2_goodsCount ∧ x2_goodsCount ≤ 8)) (h_x2_workCount : (0 ≤ x2_workCount ∧ x2_workCount ≤ 7)) (h_x2_years : (1 ≤ x2_years ∧ x2_years ≤ 30)) (h_x2_lines : (LnOk x2_lines)) (h_x2_goods : (GdOk x2_goods)) (h_x2_works : (WkOk x2_works)) (h_x2_change : (AI 0 99 x2_change)) (h_x2_coin : (AI 0 9 x2_coin)) (hb : ∀ l, l < 20 → (tq p2 l = true ↔ (l < x2_lineCount.toNatClampNeg ∧ x2_lines (7 * l + 6) = 0))) : Sf (fX4_freeBy n (x0_left, x0_earned, x0_turnCost, x0_turnWayless) (x1_edgeA, x1_edgeB, x1_edgeCost, x1_edgeLine, x1_change, x1_away, x1_steps, x1_nodes, x1_stepCount, x1_open, x1_openCount, x1_seen, x1_edgeCount, x1_aim) (x2_lineCount, x2_goodsCount, x2_workCount, x2_years, x2_lines, x2_goods, x2_works, x2_change, x2_coin, x2_knownFree, x2_isKnown) p2) (fun r => r.1 = Free x2_lineCount (ro 7 x2_lines) x2_change x2_coin (ro 3 x2_goods) x2_goodsCount) := by
  have hl : LnM (ro 7 x2_lines) := ro_GI lnB0 h_x2_lines
  have hg : GdM (ro 3 x2_goods) := ro_GI gdB0 h_x2_goods
  obtain ⟨Tq, hT⟩ := Tz_ex h_x2_lineCount hl h_x2_change h_x2_coin
  refine Sf.mono (freeByT hn h_x1_edgeA h_x1_edgeB h_x1_edgeLine h_x1_steps h_x1_nodes h_x1_stepCount h_x1_open h_x1_openCount h_x1_edgeCount h_x2_lineCount h_x2_goodsCount h_x2_workCount h_x2_years h_x2_lines h_x2_goods h_x2_works h_x2_change h_x2_coin (line := ro 7 x2_lines) (good := ro 3 x2_goods) ⟨fun l _ c hc => ro_eq (by omega), fun g _ c hc => ro_eq hc, fun p _ => rfl, fun w _ => rfl⟩ (fun l hl' => ?_) hT) (fun r h => h.trans (Free_eq hT hg))
  rw [ro_eq (by decide)]
  exact hb l hl'
abbrev Ab : Type := Int32 × (Nat → Nat → Int32) × (Nat → Int32)
def AbEq (A B : Ab) : Prop := A.1 = B.1 ∧ (∀ l, l < A.1.toNatClampNeg → ∀ c, c < 7 → A.2.1 l c = B.2.1 l c) ∧ ∀ p, p < 12 → A.2.2 p = B.2.2 p
theorem AbEq.refl (A : Ab) : AbEq A A := ⟨rfl, fun _ _ _ _ => rfl, fun _ _ => rfl⟩
theorem AbEq.symm {A B : Ab} (h : AbEq A B) : AbEq B A := ⟨h.1.symm, fun l hl c hc => (h.2.1 l (by rw [h.1]; exact hl) c hc).symm, fun p hp => (h.2.2 p hp).symm⟩
theorem AbEq.trans {A B C : Ab} (h : AbEq A B) (h' : AbEq B C) : AbEq A C := ⟨h.1.trans h'.1, fun l hl c hc => (h.2.1 l hl c hc).trans (h'.2.1 l (by rw [← h.1]; exact hl) c hc), fun p hp => (h.2.2 p hp).trans (h'.2.2 p hp)⟩
/-- a new line's row -/
def nlR (a b B : Int32) (c : Nat) : Int32 := ([a, b, 7, 10, B, 0, 0] : List Int32).getD c 0
def doA (work : Nat → Nat → Int32) (k : Nat) (A : Ab) : Ab :=
  if work k 0 = 1 then (A.1, va_up A.2.1 (work k 1).toNatClampNeg (va_up (A.2.1 (work k 1).toNatClampNeg) 2 ((1 : Int32) <<< (work k 2 &&& 31))), A.2.2)
  else if work k 0 = 2 then (A.1, va_up A.2.1 (work k 1).toNatClampNeg (va_up (A.2.1 (work k 1).toNatClampNeg) 2 (A.2.1 (work k 1).toNatClampNeg 2 ||| ((1 : Int32) <<< (work k 2 &&& 31)))), A.2.2)
  else if work k 0 = 3 then (A.1, A.2.1, va_up A.2.2 (work k 1).toNatClampNeg (work k 2))
  else if 20 ≤ A.1 then A
  else (A.1 + 1, va_up A.2.1 A.1.toNatClampNeg (nlR (work k 1) (work k 2) (if work k 0 = 4 then 99 else 198)), A.2.2)
/-- a work is well-formed on a land -/
def Wf1 (work : Nat → Nat → Int32) (L : Int32) (k : Nat) : Prop := (1 ≤ work k 0 ∧ work k 0 ≤ 5) ∧ 0 ≤ work k 1 ∧ (work k 0 = 1 ∨ work k 0 = 2 → work k 1 < L) ∧ (work k 0 = 3 → work k 1 ≤ 11)
theorem doA_congr {work work' : Nat → Nat → Int32} {k : Nat} {A B : Ab} (h : AbEq A B) (hw : ∀ c, c < 3 → work k c = work' k c) (hf : Wf1 work A.1 k) (h0 : 0 ≤ A.1 ∧ A.1 ≤ 20) : AbEq (doA work k A) (doA work' k B) := by
  obtain ⟨e1, e2, e3⟩ := h
  obtain ⟨f1, f2, f3, f4⟩ := hf
  have lt : work k 0 = 1 ∨ work k 0 = 2 → (work k 1).toNatClampNeg < A.1.toNatClampNeg := by
    intro hk
    have a := i32_cl f2
    have b := i32_cl h0.1
    have c := Int32.lt_iff_toInt_lt.mp (f3 hk)
    omega
  have row : ∀ (a : Nat) (x y : Int32) (l : Nat), l < A.1.toNatClampNeg → x = y → ∀ c, c < 7 → va_up A.2.1 a (va_up (A.2.1 a) 2 x) l c = va_up B.2.1 a (va_up (B.2.1 a) 2 y) l c := by
    intro a x y l hl hx c hc
    subst hx
    by_cases hla : l = a
    · subst hla
      rw [va_eq, va_eq]
      by_cases h2 : c = 2
      · subst h2
        rw [va_eq, va_eq]
      · rw [va_ne _ _ h2, va_ne _ _ h2]
        exact e2 l hl c hc
    · rw [va_ne _ _ hla, va_ne _ _ hla]
      exact e2 l hl c hc
  unfold doA
  rw [← hw 0 (by decide), ← hw 1 (by decide), ← hw 2 (by decide)]
  by_cases k1 : work k 0 = 1
  · rw [if_pos k1, if_pos k1]
    exact ⟨e1, fun l hl c hc => row _ _ _ l hl rfl c hc, e3⟩
  rw [if_neg k1, if_neg k1]
  by_cases k2 : work k 0 = 2
  · rw [if_pos k2, if_pos k2]
    exact ⟨e1, fun l hl c hc => row _ _ _ l hl (by rw [e2 _ (lt (Or.inr k2)) 2 (by decide)]) c hc, e3⟩
  rw [if_neg k2, if_neg k2]
  by_cases k3 : work k 0 = 3
  · rw [if_pos k3, if_pos k3]
    refine ⟨e1, e2, fun p hp => ?_⟩
    show va_up A.2.2 _ _ p = va_up B.2.2 _ _ p
    by_cases hpa : p = (work k 1).toNatClampNeg
    · subst hpa
      rw [va_eq, va_eq]
    · rw [va_ne _ _ hpa, va_ne _ _ hpa]
      exact e3 p hp
  rw [if_neg k3, if_neg k3, ← e1]
  by_cases k4 : 20 ≤ A.1
  · rw [if_pos k4, if_pos k4]
    exact ⟨e1, e2, e3⟩
  · rw [if_neg k4, if_neg k4]
    refine ⟨rfl, fun l hl c hc => ?_, e3⟩
    have hl : l < (A.1 + 1).toNatClampNeg := hl
    obtain ⟨u1, u2, u3⟩ := up1 h0.1 (B := 20) (by decide) k4
    rw [u2] at hl
    show va_up A.2.1 _ _ l c = va_up B.2.1 _ _ l c
    by_cases hla : l = A.1.toNatClampNeg
    · subst hla
      rw [va_eq, va_eq]
    · rw [va_ne _ _ hla, va_ne _ _ hla]
      exact e2 l (by omega) c hc
theorem doA_L {work : Nat → Nat → Int32} {k : Nat} {A : Ab} (h0 : 0 ≤ A.1 ∧ A.1 ≤ 20) : A.1 ≤ (doA work k A).1 ∧ 0 ≤ (doA work k A).1 ∧ (doA work k A).1 ≤ 20 := by
  unfold doA
  by_cases k1 : work k 0 = 1
  · rw [if_pos k1]; exact ⟨Int32.le_refl _, h0⟩
  rw [if_neg k1]
  by_cases k2 : work k 0 = 2
  · rw [if_pos k2]; exact ⟨Int32.le_refl _, h0⟩
  rw [if_neg k2]
  by_cases k3 : work k 0 = 3
  · rw [if_pos k3]; exact ⟨Int32.le_refl _, h0⟩
  rw [if_neg k3]
  by_cases k4 : 20 ≤ A.1
  · rw [if_pos k4]; exact ⟨Int32.le_refl _, h0⟩
  · rw [if_neg k4]
    show A.1 ≤ A.1 + 1 ∧ 0 ≤ A.1 + 1 ∧ A.1 + 1 ≤ 20
    obtain ⟨u1, u2, u3⟩ := up1 h0.1 (B := 20) (by decide) k4
    clear k1 k2 k3
    grind

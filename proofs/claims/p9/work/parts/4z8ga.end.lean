/-! whether the aim can be come to -/
def stF (line : Nat → Nat → Int32) (changes coins left far : Nat → Int32) (tons : Int32) (u s : Int32) : Option Int32 := fX7_stepTo ((fun _ => 0), (fun _ => 0), (fun _ => 0), (fun _ _ => 0), (fun _ => 0), (fun _ => 0), (fun _ => 0), 0, (fun _ => 0), 0, line, changes, coins, 0, (fun _ _ => 0), 0, (fun _ _ => 0), 0, 0, 0, 0, 0, 0, 0, 0, (fun _ => 0), 0, left, far, tons, (fun _ => 0), 0, 0, (fun _ => 0), (fun _ => 0)) u s
theorem stF_eq {x0_shelf x0_rowSort x0_rowSize : (Nat → Int32)} {x0_rows : (Nat → Nat → Int64)} {x0_moved : (Nat → Int64)} {x0_shown x0_tape : (Nat → Int32)} {x0_tapeSize : Int32} {x0_refused : (Nat → Int32)} {x0_lines : Int32} {x0_line : (Nat → Nat → Int32)} {x0_changes x0_coins : (Nat → Int32)} {x0_goods : Int32} {x0_good : (Nat → Nat → Int32)} {x0_works : Int32} {x0_work : (Nat → Nat → Int32)} {x0_years x0_gone x0_spent x0_at x0_token x0_from : Int32} {x0_figures : Int64} {x0_fault : Int32} {x0_numbers : (Nat → Int32)} {x0_statements : Int32} {x0_left x0_far : (Nat → Int32)} {x0_tons : Int32} {x0_way : (Nat → Int32)} {x0_steps : Int32} {x0_met : Int64} {x0_queue x0_totals : (Nat → Int32)} {p1 p2 : Int32} : fX7_stepTo (x0_shelf, x0_rowSort, x0_rowSize, x0_rows, x0_moved, x0_shown, x0_tape, x0_tapeSize, x0_refused, x0_lines, x0_line, x0_changes, x0_coins, x0_goods, x0_good, x0_works, x0_work, x0_years, x0_gone, x0_spent, x0_at, x0_token, x0_from, x0_figures, x0_fault, x0_numbers, x0_statements, x0_left, x0_far, x0_tons, x0_way, x0_steps, x0_met, x0_queue, x0_totals) p1 p2 = stF x0_line x0_changes x0_coins x0_left x0_far x0_tons p1 p2 := rfl
def EP (L : Nat) (line : Nat → Nat → Int32) (changes coins left far : Nat → Int32) (tons : Int32) (u v : Nat) : Prop := v < 36 ∧ ∃ s : Nat, s < 3 + L ∧ stF line changes coins left far tons (Int32.ofNat u) (Int32.ofNat s) = some (Int32.ofNat v)
def BQ (E : Nat → Nat → Prop) (M : Nat → Prop) (n : Nat) (seen : Int64) (m : Nat) (q : Nat → Int32) : Prop :=
  AI 0 35 q ∧ m ≤ cnt seen ∧ (tb seen n = true ∧ n < 36 ∧ ¬ M n) ∧ (∀ j, j < m → tb seen (q j).toNatClampNeg = true ∧ ∃ k, Rk E M n k (q j).toNatClampNeg) ∧ (∀ v, v < 36 → tb seen v = true → M v ∨ ∃ j, j < m ∧ (q j).toNatClampNeg = v) ∧ (∀ v, v < 36 → M v → tb seen v = true)
def PR (E : Nat → Nat → Prop) (G : Nat → Prop) (seen : Int64) (i : Nat) (q : Nat → Int32) : Prop := ∀ j, j < i → ¬ G (q j).toNatClampNeg ∧ ∀ v, v < 36 → E (q j).toNatClampNeg v → tb seen v = true
theorem n36 {v : Int32} (h : 0 ≤ v ∧ v ≤ 35) : v.toNatClampNeg < 36 ∧ Int32.ofNat v.toNatClampNeg = v := ⟨(sh_am h).2, Int32.ofNat_toNatClampNeg v h.1⟩
theorem BQ.add {E : Nat → Nat → Prop} {G M : Nat → Prop} {n m i ip : Nat} {seen : Int64} {q : Nat → Int32} {v : Int32} (h : BQ E M n seen m q) (hp : PR E G seen ip q) (hip : ip ≤ m) (hi : i < m) (hv : 0 ≤ v ∧ v ≤ 35) (hb : tb seen v.toNatClampNeg = false) (hE : E (q i).toNatClampNeg v.toNatClampNeg) :
    m < 36 ∧ BQ E M n (seen ||| ((1 : Int64) <<< (v.toInt64 &&& 63))) (m + 1) (va_up q m v) ∧ PR E G (seen ||| ((1 : Int64) <<< (v.toInt64 &&& 63))) ip (va_up q m v) ∧ ∀ u, u < 36 → tb seen u = true → tb (seen ||| ((1 : Int64) <<< (v.toInt64 &&& 63))) u = true := by
  obtain ⟨hA, hc, hn, h2, h3, h4⟩ := h
  have c1 := cnt_set hv hb
  have c2 := cnt_le (seen ||| ((1 : Int64) <<< (v.toInt64 &&& 63)))
  have lv := (n36 hv).1
  have mono : ∀ u, u < 36 → tb seen u = true → tb (seen ||| ((1 : Int64) <<< (v.toInt64 &&& 63))) u = true := by
    intro u hu ht
    rw [tb_set hv u hu, ht]
    rfl
  have nM : ¬ M v.toNatClampNeg := fun hm => by
    have := h4 _ lv hm
    rw [hb] at this
    cases this
  refine ⟨by omega, ⟨hA.up hv, by omega, ⟨mono _ hn.2.1 hn.1, hn.2⟩, fun j hj => ?_, fun u hu ht => ?_, fun u hu hm => mono u hu (h4 u hu hm)⟩, fun j hj => ?_, mono⟩
  · by_cases hjm : j = m
    · subst hjm
      rw [va_up_self, tb_set hv _ lv]
      obtain ⟨k, hk⟩ := (h2 i hi).2
      exact ⟨by simp, k + 1, nM, _, hk, hE⟩
    · rw [va_up_ne _ _ hjm]
      have := h2 j (by omega)
      exact ⟨mono _ (n36 (hA j)).1 this.1, this.2⟩
  · rw [tb_set hv u hu] at ht
    by_cases ho : tb seen u = true
    · rcases h3 u hu ho with h | ⟨j, hj, e⟩
      · exact Or.inl h
      · exact Or.inr ⟨j, by omega, by rw [va_up_ne _ _ (by omega)]; exact e⟩
    · have ho : tb seen u = false := by simpa using ho
      rw [ho] at ht
      have : u = v.toNatClampNeg := by simpa using ht
      exact Or.inr ⟨m, by omega, by rw [va_up_self]; exact this.symm⟩
  · rw [va_up_ne _ _ (by omega)]
    have := hp j hj
    exact ⟨this.1, fun u hu e => mono u hu (this.2 u hu e)⟩
theorem l23 {l : Int32} (h : 0 ≤ l ∧ l ≤ 20) : 3 + l ≤ 23 ∧ 3 ≤ 3 + l ∧ (3 + l).toNatClampNeg = 3 + l.toNatClampNeg := by
  refine ⟨by grind, by grind, ?_⟩
  have := ixm (p := 3) (m := 1) (c := l) (by decide) (by decide) (by grind)
  have e : (3 : Int32) * 1 = 3 := by decide
  rw [e] at this
  rw [this]
  rfl
theorem T_s62 {M G : Nat → Prop} {nn : Nat} {x0_shelf x0_rowSort x0_rowSize : (Nat → Int32)} {x0_rows : (Nat → Nat → Int64)} {x0_moved : (Nat → Int64)} {x0_shown x0_tape : (Nat → Int32)} {x0_tapeSize : Int32} {x0_refused : (Nat → Int32)} {x0_lines : Int32} {x0_line : (Nat → Nat → Int32)} {x0_changes x0_coins : (Nat → Int32)} {x0_goods : Int32} {x0_good : (Nat → Nat → Int32)} {x0_works : Int32} {x0_work : (Nat → Nat → Int32)} {x0_years x0_gone x0_spent x0_at x0_token x0_from : Int32} {x0_figures : Int64} {x0_fault : Int32} {x0_numbers : (Nat → Int32)} {x0_statements : Int32} {x0_left x0_far : (Nat → Int32)} {x0_tons : Int32} {x0_way : (Nat → Int32)} {x0_steps : Int32} {x0_met : Int64} {x0_totals : (Nat → Int32)} {z6 : Int32} {z13 : Int64} {z14 z15 : Int32} {z16 : (Nat → Int32)} (h_x0_shelf : (AI 0 2 x0_shelf)) (h_x0_rowSize : (AI 0 40 x0_rowSize)) (h_x0_tapeSize : (0 ≤ x0_tapeSize ∧ x0_tapeSize ≤ 250)) (h_x0_lines : (0 ≤ x0_lines ∧ x0_lines ≤ 20)) (h_x0_line : (LnM x0_line)) (h_x0_changes : (AI 0 99 x0_changes)) (h_x0_coins : (AI 0 9 x0_coins)) (h_x0_goods : (0 ≤ x0_goods ∧ x0_goods ≤ 8)) (h_x0_good : (GdM x0_good)) (h_x0_works : (0 ≤ x0_works ∧ x0_works ≤ 7)) (h_x0_work : (WkM x0_work)) (h_x0_years : (1 ≤ x0_years ∧ x0_years ≤ 30)) (h_x0_from : (0 ≤ x0_from ∧ x0_from ≤ 250)) (h_x0_far : (AI 0 1000000000 x0_far)) (h_x0_way : (AI 0 22 x0_way)) (h_x0_steps : (0 ≤ x0_steps ∧ x0_steps ≤ 37)) (h6 : 0 ≤ z6) (hI : BQ (EP x0_lines.toNatClampNeg x0_line x0_changes x0_coins x0_left x0_far x0_tons) M nn z13 z14.toNatClampNeg z16 ∧ (0 ≤ z14 ∧ z14 ≤ 36) ∧ (0 ≤ z15 ∧ z15 ≤ 3 + x0_lines) ∧ z6.toNatClampNeg < z14.toNatClampNeg ∧ ¬ G (z16 z6.toNatClampNeg).toNatClampNeg ∧ PR (EP x0_lines.toNatClampNeg x0_line x0_changes x0_coins x0_left x0_far x0_tons) G z13 z6.toNatClampNeg z16 ∧ (∀ s : Nat, s < z15.toNatClampNeg → ∀ v : Nat, v < 36 → stF x0_line x0_changes x0_coins x0_left x0_far x0_tons (z16 z6.toNatClampNeg) (Int32.ofNat s) = some (Int32.ofNat v) → tb z13 v = true)) :
    Sf (fX7_canEnd_s62 x0_shelf x0_rowSort x0_rowSize x0_rows x0_moved x0_shown x0_tape x0_tapeSize x0_refused x0_lines x0_line x0_changes x0_coins x0_goods x0_good x0_works x0_work x0_years x0_gone x0_spent x0_at x0_token x0_from x0_figures x0_fault x0_numbers x0_statements x0_left x0_far x0_tons x0_way x0_steps x0_met x0_totals z6 z13 z14 z15 z16) (LQ (u4 (fun (z13 : Int64) (z14 z15 : Int32) (z16 : Nat → Int32) => BQ (EP x0_lines.toNatClampNeg x0_line x0_changes x0_coins x0_left x0_far x0_tons) M nn z13 z14.toNatClampNeg z16 ∧ (0 ≤ z14 ∧ z14 ≤ 36) ∧ (0 ≤ z15 ∧ z15 ≤ 3 + x0_lines) ∧ z6.toNatClampNeg < z14.toNatClampNeg ∧ ¬ G (z16 z6.toNatClampNeg).toNatClampNeg ∧ PR (EP x0_lines.toNatClampNeg x0_line x0_changes x0_coins x0_left x0_far x0_tons) G z13 z6.toNatClampNeg z16 ∧ (∀ s : Nat, s < z15.toNatClampNeg → ∀ v : Nat, v < 36 → stF x0_line x0_changes x0_coins x0_left x0_far x0_tons (z16 z6.toNatClampNeg) (Int32.ofNat s) = some (Int32.ofNat v) → tb z13 v = true))) (u4 (fun (z13 : Int64) (z14 z15 : Int32) (z16 : Nat → Int32) => muUp z15)) (muUp z15) (fun e => BQ (EP x0_lines.toNatClampNeg x0_line x0_changes x0_coins x0_left x0_far x0_tons) M nn e.1 e.2.1.toNatClampNeg e.2.2 ∧ (0 ≤ e.2.1 ∧ e.2.1 ≤ 36) ∧ z6.toNatClampNeg < e.2.1.toNatClampNeg ∧ PR (EP x0_lines.toNatClampNeg x0_line x0_changes x0_coins x0_left x0_far x0_tons) G e.1 (z6.toNatClampNeg + 1) e.2.2)) := by
  unfold fX7_canEnd_s62
  obtain ⟨hB, h14, h15, h6l, hG, hP, hS⟩ := hI
  obtain ⟨l1, l2, l3⟩ := l23 h_x0_lines
  refine Sf.ite (fun h => ?_) (fun h => ?_)
  · refine Sf.inr ⟨hB, h14, h6l, fun j hj => ?_⟩
    by_cases hx : j = z6.toNatClampNeg
    · subst hx
      refine ⟨hG, fun v hv hE => ?_⟩
      obtain ⟨_, s, hs, e⟩ := hE
      have a := Int32.le_iff_toInt_le.mp h
      have b := i32_cl h15.1
      have c := i32_cl (Int32.le_trans (by decide) l2)
      rw [(n36 (hB.1 _)).2] at e
      exact hS s (by omega) v hv e
    · exact hP j (by omega)
  have h1000 : (3 + x0_lines : Int32) ≤ 1000 := Int32.le_trans l1 (by decide)
  obtain ⟨h16, n16, hlt⟩ := up1 h15.1 h1000 h
  have i6 : 0 ≤ z6 ∧ z6 < 36 := by
    have a := i32_cl h6
    have b := i32_cl h14.1
    have c := Int32.le_iff_toInt_le.mp h14.2
    have z36 : (36 : Int32).toInt = 36 := by decide
    rw [z36] at c
    exact ⟨h6, Int32.lt_iff_toInt_lt.mpr (by rw [z36]; omega)⟩
  refine Sf.rdI 36 rfl hB.1 i6 (fun v21 b21 e21 => ?_)
  have b15 : 0 ≤ z15 ∧ z15 ≤ 22 := ⟨h15.1, by have := Int32.lt_of_lt_of_le hlt l1; grind⟩
  have h17 : z15 + 1 ≤ 3 + x0_lines := by
    clear n16 h1000
    generalize 3 + x0_lines = L at hlt l1
    grind
  obtain ⟨v22, e22, b22⟩ := sX7_stepTo h_x0_shelf h_x0_rowSize h_x0_tapeSize h_x0_lines h_x0_line h_x0_changes h_x0_coins h_x0_goods h_x0_good h_x0_works h_x0_work h_x0_years h_x0_from h_x0_far h_x0_way h_x0_steps hB.1 b21 b15
  rw [e22]
  rw [stF_eq] at e22
  have nxt : ∀ {s' : Int64} {q' : Nat → Int32} {m' : Int32}, BQ (EP x0_lines.toNatClampNeg x0_line x0_changes x0_coins x0_left x0_far x0_tons) M nn s' m'.toNatClampNeg q' → (0 ≤ m' ∧ m' ≤ 36) → z6.toNatClampNeg < m'.toNatClampNeg → PR (EP x0_lines.toNatClampNeg x0_line x0_changes x0_coins x0_left x0_far x0_tons) G s' z6.toNatClampNeg q' → (q' z6.toNatClampNeg = z16 z6.toNatClampNeg) → (∀ u, u < 36 → tb z13 u = true → tb s' u = true) → (∀ v : Nat, v < 36 → v22 = Int32.ofNat v → tb s' v = true) → Sf (some (.inl (s', m', z15 + 1, q') : (Int64 × Int32 × Int32 × (Nat → Int32)) ⊕ (Int64 × Int32 × (Nat → Int32)))) (LQ (u4 (fun (z13 : Int64) (z14 z15 : Int32) (z16 : Nat → Int32) => BQ (EP x0_lines.toNatClampNeg x0_line x0_changes x0_coins x0_left x0_far x0_tons) M nn z13 z14.toNatClampNeg z16 ∧ (0 ≤ z14 ∧ z14 ≤ 36) ∧ (0 ≤ z15 ∧ z15 ≤ 3 + x0_lines) ∧ z6.toNatClampNeg < z14.toNatClampNeg ∧ ¬ G (z16 z6.toNatClampNeg).toNatClampNeg ∧ PR (EP x0_lines.toNatClampNeg x0_line x0_changes x0_coins x0_left x0_far x0_tons) G z13 z6.toNatClampNeg z16 ∧ (∀ s : Nat, s < z15.toNatClampNeg → ∀ v : Nat, v < 36 → stF x0_line x0_changes x0_coins x0_left x0_far x0_tons (z16 z6.toNatClampNeg) (Int32.ofNat s) = some (Int32.ofNat v) → tb z13 v = true))) (u4 (fun (z13 : Int64) (z14 z15 : Int32) (z16 : Nat → Int32) => muUp z15)) (muUp z15) (fun e => BQ (EP x0_lines.toNatClampNeg x0_line x0_changes x0_coins x0_left x0_far x0_tons) M nn e.1 e.2.1.toNatClampNeg e.2.2 ∧ (0 ≤ e.2.1 ∧ e.2.1 ≤ 36) ∧ z6.toNatClampNeg < e.2.1.toNatClampNeg ∧ PR (EP x0_lines.toNatClampNeg x0_line x0_changes x0_coins x0_left x0_far x0_tons) G e.1 (z6.toNatClampNeg + 1) e.2.2)) := by
    intro s' q' m' k1 k2 k3 k4 k5 k6 k7
    refine Sf.inl ⟨k1, k2, ⟨h16, h17⟩, k3, ?_, k4, fun s hs v hv e => ?_⟩ (muUp_lt h)
    · show ¬ G (q' z6.toNatClampNeg).toNatClampNeg
      rw [k5]; exact hG
    · have hs : s < (z15 + 1).toNatClampNeg := hs
      have e : stF x0_line x0_changes x0_coins x0_left x0_far x0_tons (q' z6.toNatClampNeg) (Int32.ofNat s) = some (Int32.ofNat v) := e
      rw [k5] at e
      rw [n16] at hs
      show tb s' v = true
      by_cases hx : s = z15.toNatClampNeg
      · subst hx
        rw [Int32.ofNat_toNatClampNeg _ h15.1, ← e21, e22] at e
        exact k7 v hv (Option.some.inj e)
      · exact k6 v hv (hS s (by omega) v hv e)
  refine Sf.someb (fun w ew => ?_)
  subst ew
  refine Sf.ite (fun hm1 => ?_) (fun hm1 => ?_)
  · refine nxt hB h14 h6l hP rfl (fun _ _ h => h) (fun v hv ev => ?_)
    rw [hm1] at ev
    exfalso
    have k : ∀ i : Fin 36, ¬ ((-1 : Int32) = Int32.ofNat i.1) := by decide +kernel
    exact k ⟨v, hv⟩ ev
  have c22 : 0 ≤ w ∧ w ≤ 35 := by grind
  obtain ⟨lw, ow⟩ := n36 c22
  refine Sf.ite (fun hb => ?_) (fun hb => ?_)
  · have hb' := (tb_get c22).mp hb
    refine Sf.someb (fun t24 e24 => ?_)
    have hE : (EP x0_lines.toNatClampNeg x0_line x0_changes x0_coins x0_left x0_far x0_tons) (z16 z6.toNatClampNeg).toNatClampNeg w.toNatClampNeg := by
      refine ⟨lw, z15.toNatClampNeg, ?_, ?_⟩
      · have a := Int32.lt_iff_toInt_lt.mp hlt
        have b := i32_cl h15.1
        have c := i32_cl (Int32.le_trans (by decide) l2)
        omega
      · rw [(n36 (hB.1 _)).2, Int32.ofNat_toNatClampNeg _ h15.1, ow, ← e21]
        exact e22
    obtain ⟨hm36, a1, a2, a3⟩ := BQ.add hB hP (by omega) h6l c22 hb' hE
    have i14 : 0 ≤ z14 ∧ z14 < 36 := by
      have b := i32_cl h14.1
      have z36 : (36 : Int32).toInt = 36 := by decide
      exact ⟨h14.1, Int32.lt_iff_toInt_lt.mpr (by rw [z36]; omega)⟩
    obtain ⟨p14, n14, _⟩ := up1 (B := 36) h14.1 (by decide) (Int32.not_le.mpr i14.2)
    refine Sf.wrb 36 rfl i14 (fun f25 e25 => ?_)
    subst e25
    subst e24
    have a1' := a1
    rw [← n14] at a1'
    refine nxt a1' ⟨p14, by grind⟩ (by omega) a2 (va_up_ne _ _ (by omega)) a3 (fun v hv ev => ?_)
    rw [tb_set c22 v hv]
    have : v = w.toNatClampNeg := by
      rw [ev]
      have k : ∀ i : Fin 36, (Int32.ofNat i.1).toNatClampNeg = i.1 := by decide +kernel
      exact (k ⟨v, hv⟩).symm
    rw [this]
    simp
  · refine nxt hB h14 h6l hP rfl (fun _ _ h => h) (fun v hv ev => ?_)
    have : v = w.toNatClampNeg := by
      rw [ev]
      have k : ∀ i : Fin 36, (Int32.ofNat i.1).toNatClampNeg = i.1 := by decide +kernel
      exact (k ⟨v, hv⟩).symm
    rw [this]
    by_cases ht : tb z13 w.toNatClampNeg = true
    · exact ht
    · exact absurd ((tb_get c22).mpr (by simpa using ht)) hb

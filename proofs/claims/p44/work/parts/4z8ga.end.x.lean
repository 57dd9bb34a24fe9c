section
/-! whether the aim can be come to -/
def stF (line : Nat → Nat → Int32) (changes coins left far : Nat → Int32) (tons : Int32) (u s : Int32) : Option Int32 := fX7_stepTo ((fun _ => 0), (fun _ => 0), (fun _ => 0), (fun _ _ => 0), (fun _ => 0), (fun _ => 0), (fun _ => 0), 0, (fun _ => 0), 0, line, changes, coins, 0, (fun _ _ => 0), 0, (fun _ _ => 0), 0, 0, 0, 0, 0, 0, 0, 0, (fun _ => 0), 0, left, far, tons, (fun _ => 0), 0, 0, (fun _ => 0), (fun _ => 0)) u s
theorem stF_eq {x0_shelf x0_rowSort x0_rowSize : (Nat → Int32)} {x0_rows : (Nat → Nat → Int64)} {x0_moved : (Nat → Int64)} {x0_shown x0_tape : (Nat → Int32)} {x0_tapeSize : Int32} {x0_refused : (Nat → Int32)} {x0_lines : Int32} {x0_line : (Nat → Nat → Int32)} {x0_changes x0_coins : (Nat → Int32)} {x0_goods : Int32} {x0_good : (Nat → Nat → Int32)} {x0_works : Int32} {x0_work : (Nat → Nat → Int32)} {x0_years x0_gone x0_spent x0_at x0_token x0_from : Int32} {x0_figures : Int64} {x0_fault : Int32} {x0_numbers : (Nat → Int32)} {x0_statements : Int32} {x0_left x0_far : (Nat → Int32)} {x0_tons : Int32} {x0_way : (Nat → Int32)} {x0_steps : Int32} {x0_met : Int64} {x0_queue x0_totals : (Nat → Int32)} {p1 p2 : Int32} : fX7_stepTo (x0_shelf, x0_rowSort, x0_rowSize, x0_rows, x0_moved, x0_shown, x0_tape, x0_tapeSize, x0_refused, x0_lines, x0_line, x0_changes, x0_coins, x0_goods, x0_good, x0_works, x0_work, x0_years, x0_gone, x0_spent, x0_at, x0_token, x0_from, x0_figures, x0_fault, x0_numbers, x0_statements, x0_left, x0_far, x0_tons, x0_way, x0_steps, x0_met, x0_queue, x0_totals) p1 p2 = stF x0_line x0_changes x0_coins x0_left x0_far x0_tons p1 p2 := rfl
def EP (L : Nat) (line : Nat → Nat → Int32) (changes coins left far : Nat → Int32) (tons : Int32) (u v : Nat) : Prop := v < 36 ∧ ∃ s : Nat, s < 3 + L ∧ stF line changes coins left far tons (Int32.ofNat u) (Int32.ofNat s) = some (Int32.ofNat v)
def BQ (E : Nat → Nat → Prop) (M : Nat → Prop) (n : Nat) (seen : Int64) (m : Nat) (q : Nat → Int32) : Prop :=
  AI 0 35 q ∧ m ≤ cnt seen ∧ (tb seen n = true ∧ n < 36 ∧ ¬ M n) ∧ (∀ j, j < m → tb seen (q j).toNatClampNeg = true ∧ ∃ k, Rk E M n k (q j).toNatClampNeg) ∧ (∀ v, v < 36 → tb seen v = true → M v ∨ ∃ j, j < m ∧ (q j).toNatClampNeg = v) ∧ (∀ v, v < 36 → M v → tb seen v = true)
def PR (E : Nat → Nat → Prop) (G : Nat → Prop) (seen : Int64) (i : Nat) (q : Nat → Int32) : Prop := ∀ j, j < i → ¬ G (q j).toNatClampNeg ∧ ∀ v, v < 36 → E (q j).toNatClampNeg v → tb seen v = true
theorem n36 {v : Int32} (h : 0 ≤ v ∧ v ≤ 35) : v.toNatClampNeg < 36 ∧ Int32.ofNat v.toNatClampNeg = v := ⟨(sh_am h).2, Int32.ofNat_toNatClampNeg v h.1⟩
theorem BQ.add {E : Nat → Nat → Prop} {G M : Nat → Prop} {n m i ip : Nat} {seen : Int64} {q : Nat → Int32} {v : Int32} (h : BQ E M n seen m q) (hp : PR E G seen ip q) (hip : ip ≤ m) (hi : i < m) (hv : 0 ≤ v ∧ v ≤ 35) (hb : tb seen v.toNatClampNeg = false) (hE : E (q i).toNatClampNeg v.toNatClampNeg) :
    m < 36 ∧ BQ E M n (seen ||| ((1 : Int64) <<< (v.toInt64 &&& 63))) (m + 1) (va_up q m v) ∧ PR E G (seen ||| ((1 : Int64) <<< (v.toInt64 &&& 63))) ip (va_up q m v) ∧ ∀ u, u < 36 → tb seen u = true → tb (seen ||| ((1 : Int64) <<< (v.toInt64 &&& 63))) u = true := by
  obtain ⟨hA, hc, hn, h2, h3, h4⟩ := h
  have c1 := cnt_set hv hb
  have c2 := cnt_le (seen ||| ((1 : Int64) <<< (v.toInt64 &&& 63)))
  have lv := (n36 hv).1
  have mono : ∀ u, u < 36 → tb seen u = true → tb (seen ||| ((1 : Int64) <<< (v.toInt64 &&& 63))) u = true := by
    intro u hu ht
    rw [tb_set hv u hu, ht]
    rfl
  have nM : ¬ M v.toNatClampNeg := fun hm => by
    have := h4 _ lv hm
    rw [hb] at this
    cases this
  refine ⟨by omega, ⟨hA.up hv, by omega, ⟨mono _ hn.2.1 hn.1, hn.2⟩, fun j hj => ?_, fun u hu ht => ?_, fun u hu hm => mono u hu (h4 u hu hm)⟩, fun j hj => ?_, mono⟩
  · by_cases hjm : j = m
    · subst hjm
      rw [va_up_self, tb_set hv _ lv]
      obtain ⟨k, hk⟩ := (h2 i hi).2
      exact ⟨by simp, k + 1, nM, _, hk, hE⟩
    · rw [va_up_ne _ _ hjm]
      have := h2 j (by omega)
      exact ⟨mono _ (n36 (hA j)).1 this.1, this.2⟩
  · rw [tb_set hv u hu] at ht
    by_cases ho : tb seen u = true
    · rcases h3 u hu ho with h | ⟨j, hj, e⟩
      · exact Or.inl h
      · exact Or.inr ⟨j, by omega, by rw [va_up_ne _ _ (by omega)]; exact e⟩
    · have ho : tb seen u = false := by simpa using ho
      rw [ho] at ht
      have : u = v.toNatClampNeg := by simpa using ht
      exact Or.inr ⟨m, by omega, by rw [va_up_self]; exact this.symm⟩
  · rw [va_up_ne _ _ (by omega)]
    have := hp j hj
    exact ⟨this.1, fun u hu e => mono u hu (this.2 u hu e)⟩
theorem l23 {l : Int32} (h : 0 ≤ l ∧ l ≤ 20) : 3 + l ≤ 23 ∧ 3 ≤ 3 + l ∧ (3 + l).toNatClampNeg = 3 + l.toNatClampNeg := by
  refine ⟨by grind, by grind, ?_⟩
  have := ixm (p := 3) (m := 1) (c := l) (by decide) (by decide) (by grind)
  have e : (3 : Int32) * 1 = 3 := by decide
  rw [e] at this
  rw [this]
  rfl
theorem T_s62 {M G : Nat → Prop} {nn : Nat} {x0_shelf x0_rowSort x0_rowSize : (Nat → Int32)} {x0_rows : (Nat → Nat → Int64)} {x0_moved : (Nat → Int64)} {x0_shown x0_tape : (Nat → Int32)} {x0_tapeSize : Int32} {x0_refused : (Nat → Int32)} {x0_lines : Int32} {x0_line : (Nat → Nat → Int32)} {x0_changes x0_coins : (Nat → Int32)} {x0_goods : Int32} {x0_good : (Nat → Nat → Int32)} {x0_works : Int32} {x0_work : (Nat → Nat → Int32)} {x0_years x0_gone x0_spent x0_at x0_token x0_from : Int32} {x0_figures : Int64} {x0_fault : Int32} {x0_numbers : (Nat → Int32)} {x0_statements : Int32} {x0_left x0_far : (Nat → Int32)} {x0_tons : Int32} {x0_way : (Nat → Int32)} {x0_steps : Int32} {x0_met : Int64} {x0_totals : (Nat → Int32)} {z6 : Int32} {z13 : Int64} {z14 z15 : Int32} {z16 : (Nat → Int32)} (h_x0_shelf : (AI 0 2 x0_shelf)) (h_x0_rowSize : (AI 0 40 x0_rowSize)) (h_x0_tapeSize : (0 ≤ x0_tapeSize ∧ x0_tapeSize ≤ 250)) (h_x0_lines : (0 ≤ x0_lines ∧ x0_lines ≤ 20)) (h_x0_line : (LnM x0_line)) (h_x0_changes : (AI 0 99 x0_changes)) (h_x0_coins : (AI 0 9 x0_coins)) (h_x0_goods : (0 ≤ x0_goods ∧ x0_goods ≤ 8)) (h_x0_good : (GdM x0_good)) (h_x0_works : (0 ≤ x0_works ∧ x0_works ≤ 7)) (h_x0_work : (WkM x0_work)) (h_x0_years : (1 ≤ x0_years ∧ x0_years ≤ 30)) (h_x0_from : (0 ≤ x0_from ∧ x0_from ≤ 250)) (h_x0_far : (AI 0 1000000000 x0_far)) (h_x0_way : (AI 0 22 x0_way)) (h_x0_steps : (0 ≤ x0_steps ∧ x0_steps ≤ 37)) (h6 : 0 ≤ z6) (hI : BQ (EP x0_lines.toNatClampNeg x0_line x0_changes x0_coins x0_left x0_far x0_tons) M nn z13 z14.toNatClampNeg z16 ∧ (0 ≤ z14 ∧ z14 ≤ 36) ∧ (0 ≤ z15 ∧ z15 ≤ 3 + x0_lines) ∧ z6.toNatClampNeg < z14.toNatClampNeg ∧ ¬ G (z16 z6.toNatClampNeg).toNatClampNeg ∧ PR (EP x0_lines.toNatClampNeg x0_line x0_changes x0_coins x0_left x0_far x0_tons) G z13 z6.toNatClampNeg z16 ∧ (∀ s : Nat, s < z15.toNatClampNeg → ∀ v : Nat, v < 36 → stF x0_line x0_changes x0_coins x0_left x0_far x0_tons (z16 z6.toNatClampNeg) (Int32.ofNat s) = some (Int32.ofNat v) → tb z13 v = true)) :
    Sf (fX7_canEnd_s62 x0_shelf x0_rowSort x0_rowSize x0_rows x0_moved x0_shown x0_tape x0_tapeSize x0_refused x0_lines x0_line x0_changes x0_coins x0_goods x0_good x0_works x0_work x0_years x0_gone x0_spent x0_at x0_token x0_from x0_figures x0_fault x0_numbers x0_statements x0_left x0_far x0_tons x0_way x0_steps x0_met x0_totals z6 z13 z14 z15 z16) (LQ (u4 (fun (z13 : Int64) (z14 z15 : Int32) (z16 : Nat → Int32) => BQ (EP x0_lines.toNatClampNeg x0_line x0_changes x0_coins x0_left x0_far x0_tons) M nn z13 z14.toNatClampNeg z16 ∧ (0 ≤ z14 ∧ z14 ≤ 36) ∧ (0 ≤ z15 ∧ z15 ≤ 3 + x0_lines) ∧ z6.toNatClampNeg < z14.toNatClampNeg ∧ ¬ G (z16 z6.toNatClampNeg).toNatClampNeg ∧ PR (EP x0_lines.toNatClampNeg x0_line x0_changes x0_coins x0_left x0_far x0_tons) G z13 z6.toNatClampNeg z16 ∧ (∀ s : Nat, s < z15.toNatClampNeg → ∀ v : Nat, v < 36 → stF x0_line x0_changes x0_coins x0_left x0_far x0_tons (z16 z6.toNatClampNeg) (Int32.ofNat s) = some (Int32.ofNat v) → tb z13 v = true))) (u4 (fun (z13 : Int64) (z14 z15 : Int32) (z16 : Nat → Int32) => muUp z15)) (muUp z15) (fun e => BQ (EP x0_lines.toNatClampNeg x0_line x0_changes x0_coins x0_left x0_far x0_tons) M nn e.1 e.2.1.toNatClampNeg e.2.2 ∧ (0 ≤ e.2.1 ∧ e.2.1 ≤ 36) ∧ z6.toNatClampNeg < e.2.1.toNatClampNeg ∧ PR (EP x0_lines.toNatClampNeg x0_line x0_changes x0_coins x0_left x0_far x0_tons) G e.1 (z6.toNatClampNeg + 1) e.2.2)) := by
  unfold fX7_canEnd_s62
  obtain ⟨hB, h14, h15, h6l, hG, hP, hS⟩ := hI
  obtain ⟨l1, l2, l3⟩ := l23 h_x0_lines
  refine Sf.ite (fun h => ?_) (fun h => ?_)
  · refine Sf.inr ⟨hB, h14, h6l, fun j hj => ?_⟩
    by_cases hx : j = z6.toNatClampNeg
    · subst hx
      refine ⟨hG, fun v hv hE => ?_⟩
      obtain ⟨_, s, hs, e⟩ := hE
      have a := Int32.le_iff_toInt_le.mp h
      have b := i32_cl h15.1
      have c := i32_cl (Int32.le_trans (by decide) l2)
      rw [(n36 (hB.1 _)).2] at e
      exact hS s (by omega) v hv e
    · exact hP j (by omega)
  have h1000 : (3 + x0_lines : Int32) ≤ 1000 := Int32.le_trans l1 (by decide)
  obtain ⟨h16, n16, hlt⟩ := up1 h15.1 h1000 h
  have i6 : 0 ≤ z6 ∧ z6 < 36 := by
    have a := i32_cl h6
    have b := i32_cl h14.1
    have c := Int32.le_iff_toInt_le.mp h14.2
    have z36 : (36 : Int32).toInt = 36 := by decide
    rw [z36] at c
    exact ⟨h6, Int32.lt_iff_toInt_lt.mpr (by rw [z36]; omega)⟩
  refine Sf.rdI 36 rfl hB.1 i6 (fun v21 b21 e21 => ?_)
  have b15 : 0 ≤ z15 ∧ z15 ≤ 22 := ⟨h15.1, by have := Int32.lt_of_lt_of_le hlt l1; grind⟩
  have h17 : z15 + 1 ≤ 3 + x0_lines := by
    clear n16 h1000
    generalize 3 + x0_lines = L at hlt l1
    grind
  obtain ⟨v22, e22, b22⟩ := sX7_stepTo h_x0_shelf h_x0_rowSize h_x0_tapeSize h_x0_lines h_x0_line h_x0_changes h_x0_coins h_x0_goods h_x0_good h_x0_works h_x0_work h_x0_years h_x0_from h_x0_far h_x0_way h_x0_steps hB.1 b21 b15
  rw [e22]
  rw [stF_eq] at e22
  have nxt : ∀ {s' : Int64} {q' : Nat → Int32} {m' : Int32}, BQ (EP x0_lines.toNatClampNeg x0_line x0_changes x0_coins x0_left x0_far x0_tons) M nn s' m'.toNatClampNeg q' → (0 ≤ m' ∧ m' ≤ 36) → z6.toNatClampNeg < m'.toNatClampNeg → PR (EP x0_lines.toNatClampNeg x0_line x0_changes x0_coins x0_left x0_far x0_tons) G s' z6.toNatClampNeg q' → (q' z6.toNatClampNeg = z16 z6.toNatClampNeg) → (∀ u, u < 36 → tb z13 u = true → tb s' u = true) → (∀ v : Nat, v < 36 → v22 = Int32.ofNat v → tb s' v = true) → Sf (some (.inl (s', m', z15 + 1, q') : (Int64 × Int32 × Int32 × (Nat → Int32)) ⊕ (Int64 × Int32 × (Nat → Int32)))) (LQ (u4 (fun (z13 : Int64) (z14 z15 : Int32) (z16 : Nat → Int32) => BQ (EP x0_lines.toNatClampNeg x0_line x0_changes x0_coins x0_left x0_far x0_tons) M nn z13 z14.toNatClampNeg z16 ∧ (0 ≤ z14 ∧ z14 ≤ 36) ∧ (0 ≤ z15 ∧ z15 ≤ 3 + x0_lines) ∧ z6.toNatClampNeg < z14.toNatClampNeg ∧ ¬ G (z16 z6.toNatClampNeg).toNatClampNeg ∧ PR (EP x0_lines.toNatClampNeg x0_line x0_changes x0_coins x0_left x0_far x0_tons) G z13 z6.toNatClampNeg z16 ∧ (∀ s : Nat, s < z15.toNatClampNeg → ∀ v : Nat, v < 36 → stF x0_line x0_changes x0_coins x0_left x0_far x0_tons (z16 z6.toNatClampNeg) (Int32.ofNat s) = some (Int32.ofNat v) → tb z13 v = true))) (u4 (fun (z13 : Int64) (z14 z15 : Int32) (z16 : Nat → Int32) => muUp z15)) (muUp z15) (fun e => BQ (EP x0_lines.toNatClampNeg x0_line x0_changes x0_coins x0_left x0_far x0_tons) M nn e.1 e.2.1.toNatClampNeg e.2.2 ∧ (0 ≤ e.2.1 ∧ e.2.1 ≤ 36) ∧ z6.toNatClampNeg < e.2.1.toNatClampNeg ∧ PR (EP x0_lines.toNatClampNeg x0_line x0_changes x0_coins x0_left x0_far x0_tons) G e.1 (z6.toNatClampNeg + 1) e.2.2)) := by
    intro s' q' m' k1 k2 k3 k4 k5 k6 k7
    refine Sf.inl ⟨k1, k2, ⟨h16, h17⟩, k3, ?_, k4, fun s hs v hv e => ?_⟩ (muUp_lt h)
    · show ¬ G (q' z6.toNatClampNeg).toNatClampNeg
      rw [k5]; exact hG
    · have hs : s < (z15 + 1).toNatClampNeg := hs
      have e : stF x0_line x0_changes x0_coins x0_left x0_far x0_tons (q' z6.toNatClampNeg) (Int32.ofNat s) = some (Int32.ofNat v) := e
      rw [k5] at e
      rw [n16] at hs
      show tb s' v = true
      by_cases hx : s = z15.toNatClampNeg
      · subst hx
        rw [Int32.ofNat_toNatClampNeg _ h15.1, ← e21, e22] at e
        exact k7 v hv (Option.some.inj e)
      · exact k6 v hv (hS s (by omega) v hv e)
  refine Sf.someb (fun w ew => ?_)
  subst ew
  refine Sf.ite (fun hm1 => ?_) (fun hm1 => ?_)
  · refine nxt hB h14 h6l hP rfl (fun _ _ h => h) (fun v hv ev => ?_)
    rw [hm1] at ev
    exfalso
    have k : ∀ i : Fin 36, ¬ ((-1 : Int32) = Int32.ofNat i.1) := by decide +kernel
    exact k ⟨v, hv⟩ ev
  have c22 : 0 ≤ w ∧ w ≤ 35 := by grind
  obtain ⟨lw, ow⟩ := n36 c22
  refine Sf.ite (fun hb => ?_) (fun hb => ?_)
  · have hb' := (tb_get c22).mp hb
    refine Sf.someb (fun t24 e24 => ?_)
    have hE : (EP x0_lines.toNatClampNeg x0_line x0_changes x0_coins x0_left x0_far x0_tons) (z16 z6.toNatClampNeg).toNatClampNeg w.toNatClampNeg := by
      refine ⟨lw, z15.toNatClampNeg, ?_, ?_⟩
      · have a := Int32.lt_iff_toInt_lt.mp hlt
        have b := i32_cl h15.1
        have c := i32_cl (Int32.le_trans (by decide) l2)
        omega
      · rw [(n36 (hB.1 _)).2, Int32.ofNat_toNatClampNeg _ h15.1, ow, ← e21]
        exact e22
    obtain ⟨hm36, a1, a2, a3⟩ := BQ.add hB hP (by omega) h6l c22 hb' hE
    have i14 : 0 ≤ z14 ∧ z14 < 36 := by
      have b := i32_cl h14.1
      have z36 : (36 : Int32).toInt = 36 := by decide
      exact ⟨h14.1, Int32.lt_iff_toInt_lt.mpr (by rw [z36]; omega)⟩
    obtain ⟨p14, n14, _⟩ := up1 (B := 36) h14.1 (by decide) (Int32.not_le.mpr i14.2)
    refine Sf.wrb 36 rfl i14 (fun f25 e25 => ?_)
    subst e25
    subst e24
    have a1' := a1
    rw [← n14] at a1'
    refine nxt a1' ⟨p14, by grind⟩ (by omega) a2 (va_up_ne _ _ (by omega)) a3 (fun v hv ev => ?_)
    rw [tb_set c22 v hv]
    have : v = w.toNatClampNeg := by
      rw [ev]
      have k : ∀ i : Fin 36, (Int32.ofNat i.1).toNatClampNeg = i.1 := by decide +kernel
      exact (k ⟨v, hv⟩).symm
    rw [this]
    simp
  · refine nxt hB h14 h6l hP rfl (fun _ _ h => h) (fun v hv ev => ?_)
    have : v = w.toNatClampNeg := by
      rw [ev]
      have k : ∀ i : Fin 36, (Int32.ofNat i.1).toNatClampNeg = i.1 := by decide +kernel
      exact (k ⟨v, hv⟩).symm
    rw [this]
    by_cases ht : tb z13 w.toNatClampNeg = true
    · exact ht
    · exact absurd ((tb_get c22).mpr (by simpa using ht)) hb
end
section
theorem BQ.none {E : Nat → Nat → Prop} {G M : Nat → Prop} {nn m : Nat} {seen : Int64} {q : Nat → Int32} (hE : ∀ u v, E u v → v < 36) (h : BQ E M nn seen m q) (hP : PR E G seen m q) : ¬ ∃ k, Pk E G M k nn := by
  rintro ⟨k, hk⟩
  obtain ⟨hA, hc, hn0, h2, h3, h4⟩ := h
  refine Pk.closed (C := fun u => u < 36 ∧ ∃ j, j < m ∧ (q j).toNatClampNeg = u) ?_ ?_ k nn ?_ hk
  · rintro u ⟨_, j, hj, e⟩
    rw [← e]
    exact (hP j hj).1
  · rintro u v ⟨_, j, hj, e1⟩ e
    have hv := hE u v e
    rw [← e1] at e
    rcases h3 v hv ((hP j hj).2 v hv e) with hm | ⟨j', hj', e'⟩
    · exact Or.inl hm
    · exact Or.inr ⟨hv, j', hj', e'⟩
  · refine ⟨hn0.2.1, ?_⟩
    rcases h3 nn hn0.2.1 hn0.1 with hm | hj
    · exact absurd hm hn0.2.2
    · exact hj
theorem BQ.goal {E : Nat → Nat → Prop} {G M : Nat → Prop} {nn m i : Nat} {seen : Int64} {q : Nat → Int32} (h : BQ E M nn seen m q) (hi : i < m) (hG : G (q i).toNatClampNeg) : ∃ k, Pk E G M k nn := by
  obtain ⟨k, hk⟩ := (h.2.2.2.1 i hi).2
  have nm : ¬ M (q i).toNatClampNeg := by
    cases k with
    | zero => obtain ⟨ea, eb⟩ := hk; rw [ea]; exact eb
    | succ k => exact hk.1
  exact Rk.way (G := G) k _ 0 hk ⟨nm, hG⟩
theorem EP.lt {L : Nat} {line : Nat → Nat → Int32} {changes coins left far : Nat → Int32} {tons : Int32} (u v : Nat) (h : EP L line changes coins left far tons u v) : v < 36 := h.1
theorem T_s37 {n : Nat} {M : Nat → Prop} {nn : Nat} {p2 : Int32} {x0_shelf x0_rowSort x0_rowSize : (Nat → Int32)} {x0_rows : (Nat → Nat → Int64)} {x0_moved : (Nat → Int64)} {x0_shown x0_tape : (Nat → Int32)} {x0_tapeSize : Int32} {x0_refused : (Nat → Int32)} {x0_lines : Int32} {x0_line : (Nat → Nat → Int32)} {x0_changes x0_coins : (Nat → Int32)} {x0_goods : Int32} {x0_good : (Nat → Nat → Int32)} {x0_works : Int32} {x0_work : (Nat → Nat → Int32)} {x0_years x0_gone x0_spent x0_at x0_token x0_from : Int32} {x0_figures : Int64} {x0_fault : Int32} {x0_numbers : (Nat → Int32)} {x0_statements : Int32} {x0_left x0_far : (Nat → Int32)} {x0_tons : Int32} {x0_way : (Nat → Int32)} {x0_steps : Int32} {x0_met : Int64} {x0_totals : (Nat → Int32)} {z4 : Int64} {z5 z6 : Int32} {z7 : (Nat → Int32)} (hn : 1000000000000 ≤ n) (h_x0_shelf : (AI 0 2 x0_shelf)) (h_x0_rowSize : (AI 0 40 x0_rowSize)) (h_x0_tapeSize : (0 ≤ x0_tapeSize ∧ x0_tapeSize ≤ 250)) (h_x0_lines : (0 ≤ x0_lines ∧ x0_lines ≤ 20)) (h_x0_line : (LnM x0_line)) (h_x0_changes : (AI 0 99 x0_changes)) (h_x0_coins : (AI 0 9 x0_coins)) (h_x0_goods : (0 ≤ x0_goods ∧ x0_goods ≤ 8)) (h_x0_good : (GdM x0_good)) (h_x0_works : (0 ≤ x0_works ∧ x0_works ≤ 7)) (h_x0_work : (WkM x0_work)) (h_x0_years : (1 ≤ x0_years ∧ x0_years ≤ 30)) (h_x0_from : (0 ≤ x0_from ∧ x0_from ≤ 250)) (h_x0_far : (AI 0 1000000000 x0_far)) (h_x0_way : (AI 0 22 x0_way)) (h_x0_steps : (0 ≤ x0_steps ∧ x0_steps ≤ 37)) (hp2 : 0 ≤ p2 ∧ p2 ≤ 11) (hI : BQ (EP x0_lines.toNatClampNeg x0_line x0_changes x0_coins x0_left x0_far x0_tons) M nn z4 z5.toNatClampNeg z7 ∧ (0 ≤ z5 ∧ z5 ≤ 36) ∧ (0 ≤ z6 ∧ z6 ≤ z5) ∧ PR (EP x0_lines.toNatClampNeg x0_line x0_changes x0_coins x0_left x0_far x0_tons) (fun u => u / 3 = p2.toNatClampNeg) z4 z6.toNatClampNeg z7) :
    Sf (fX7_canEnd_s37 n p2 x0_shelf x0_rowSort x0_rowSize x0_rows x0_moved x0_shown x0_tape x0_tapeSize x0_refused x0_lines x0_line x0_changes x0_coins x0_goods x0_good x0_works x0_work x0_years x0_gone x0_spent x0_at x0_token x0_from x0_figures x0_fault x0_numbers x0_statements x0_left x0_far x0_tons x0_way x0_steps x0_met x0_totals z4 z5 z6 z7) (LQ (u4 (fun (z4 : Int64) (z5 z6 : Int32) (z7 : Nat → Int32) => BQ (EP x0_lines.toNatClampNeg x0_line x0_changes x0_coins x0_left x0_far x0_tons) M nn z4 z5.toNatClampNeg z7 ∧ (0 ≤ z5 ∧ z5 ≤ 36) ∧ (0 ≤ z6 ∧ z6 ≤ z5) ∧ PR (EP x0_lines.toNatClampNeg x0_line x0_changes x0_coins x0_left x0_far x0_tons) (fun u => u / 3 = p2.toNatClampNeg) z4 z6.toNatClampNeg z7)) (u4 (fun (z4 : Int64) (z5 z6 : Int32) (z7 : Nat → Int32) => muUp z6)) (muUp z6) (Sum.elim (fun a => AI 0 35 a ∧ ∃ k, Pk (EP x0_lines.toNatClampNeg x0_line x0_changes x0_coins x0_left x0_far x0_tons) (fun u => u / 3 = p2.toNatClampNeg) M k nn) (fun b => AI 0 35 b ∧ ¬ ∃ k, Pk (EP x0_lines.toNatClampNeg x0_line x0_changes x0_coins x0_left x0_far x0_tons) (fun u => u / 3 = p2.toNatClampNeg) M k nn))) := by
  unfold fX7_canEnd_s37
  obtain ⟨hB, h5, h6, hP⟩ := hI
  refine Sf.ite (fun h => ?_) (fun h => ?_)
  · refine Sf.inr (show AI 0 35 z7 ∧ ¬ ∃ k, Pk (EP x0_lines.toNatClampNeg x0_line x0_changes x0_coins x0_left x0_far x0_tons) (fun u => u / 3 = p2.toNatClampNeg) M k nn from ⟨hB.1, ?_⟩)
    have a := Int32.le_iff_toInt_le.mp h
    have b := i32_cl h5.1
    have c := i32_cl h6.1
    have d := Int32.le_iff_toInt_le.mp h6.2
    have e : z6.toNatClampNeg = z5.toNatClampNeg := by omega
    rw [e] at hP
    exact BQ.none EP.lt hB hP
  have hlt : z6 < z5 := Int32.not_le.mp h
  have i6 : 0 ≤ z6 ∧ z6 < 36 := ⟨h6.1, Int32.lt_of_lt_of_le hlt h5.2⟩
  obtain ⟨p6, n6, _⟩ := up1 h6.1 (Int32.le_trans h5.2 (by decide)) h
  have l6 : z6.toNatClampNeg < z5.toNatClampNeg := by
    have a := Int32.lt_iff_toInt_lt.mp hlt
    have b := i32_cl h5.1
    have c := i32_cl h6.1
    omega
  refine Sf.rdI 36 rfl hB.1 i6 (fun v11 b11 e11 => ?_)
  have dn := dv_n b11
  refine Sf.ite (fun hg => ?_) (fun hg => ?_)
  · refine Sf.inr (show AI 0 35 z7 ∧ ∃ k, Pk (EP x0_lines.toNatClampNeg x0_line x0_changes x0_coins x0_left x0_far x0_tons) (fun u => u / 3 = p2.toNatClampNeg) M k nn from ⟨hB.1, ?_⟩)
    have hG : (z7 z6.toNatClampNeg).toNatClampNeg / 3 = p2.toNatClampNeg := by rw [← e11, ← dn, hg]
    exact BQ.goal (G := (fun u => u / 3 = p2.toNatClampNeg)) hB l6 hG
  have hG' : ¬ ((z7 z6.toNatClampNeg).toNatClampNeg / 3 = p2.toNatClampNeg) := by
    rw [← e11]
    intro hx
    apply hg
    have e1 : v11 / 3 = Int32.ofNat (v11 / 3).toNatClampNeg := (Int32.ofNat_toNatClampNeg _ (dv3 b11).1).symm
    have e2 : p2 = Int32.ofNat p2.toNatClampNeg := (Int32.ofNat_toNatClampNeg _ hp2.1).symm
    rw [e1, e2, dn, hx]
  have l3 := l23 h_x0_lines
  have init : BQ (EP x0_lines.toNatClampNeg x0_line x0_changes x0_coins x0_left x0_far x0_tons) M nn z4 z5.toNatClampNeg z7 ∧ (0 ≤ z5 ∧ z5 ≤ 36) ∧ (0 ≤ (0 : Int32) ∧ (0 : Int32) ≤ 3 + x0_lines) ∧ z6.toNatClampNeg < z5.toNatClampNeg ∧ ¬ (fun u => u / 3 = p2.toNatClampNeg) (z7 z6.toNatClampNeg).toNatClampNeg ∧ PR (EP x0_lines.toNatClampNeg x0_line x0_changes x0_coins x0_left x0_far x0_tons) (fun u => u / 3 = p2.toNatClampNeg) z4 z6.toNatClampNeg z7 ∧ (∀ s : Nat, s < (0 : Int32).toNatClampNeg → ∀ v : Nat, v < 36 → stF x0_line x0_changes x0_coins x0_left x0_far x0_tons (z7 z6.toNatClampNeg) (Int32.ofNat s) = some (Int32.ofNat v) → tb z4 v = true) := ⟨hB, h5, ⟨Int32.le_refl _, Int32.le_trans (show (0 : Int32) ≤ 3 by decide) l3.2.1⟩, l6, hG', hP, fun s hs => absurd hs (Nat.not_lt_zero _)⟩
  have st : ∀ (z13 : Int64) (z14 z15 : Int32) (z16 : Nat → Int32), (BQ (EP x0_lines.toNatClampNeg x0_line x0_changes x0_coins x0_left x0_far x0_tons) M nn z13 z14.toNatClampNeg z16 ∧ (0 ≤ z14 ∧ z14 ≤ 36) ∧ (0 ≤ z15 ∧ z15 ≤ 3 + x0_lines) ∧ z6.toNatClampNeg < z14.toNatClampNeg ∧ ¬ (fun u => u / 3 = p2.toNatClampNeg) (z16 z6.toNatClampNeg).toNatClampNeg ∧ PR (EP x0_lines.toNatClampNeg x0_line x0_changes x0_coins x0_left x0_far x0_tons) (fun u => u / 3 = p2.toNatClampNeg) z13 z6.toNatClampNeg z16 ∧ (∀ s : Nat, s < z15.toNatClampNeg → ∀ v : Nat, v < 36 → stF x0_line x0_changes x0_coins x0_left x0_far x0_tons (z16 z6.toNatClampNeg) (Int32.ofNat s) = some (Int32.ofNat v) → tb z13 v = true)) → Sf (fX7_canEnd_s62 x0_shelf x0_rowSort x0_rowSize x0_rows x0_moved x0_shown x0_tape x0_tapeSize x0_refused x0_lines x0_line x0_changes x0_coins x0_goods x0_good x0_works x0_work x0_years x0_gone x0_spent x0_at x0_token x0_from x0_figures x0_fault x0_numbers x0_statements x0_left x0_far x0_tons x0_way x0_steps x0_met x0_totals z6 z13 z14 z15 z16) (LQ (u4 (fun (z13 : Int64) (z14 z15 : Int32) (z16 : Nat → Int32) => BQ (EP x0_lines.toNatClampNeg x0_line x0_changes x0_coins x0_left x0_far x0_tons) M nn z13 z14.toNatClampNeg z16 ∧ (0 ≤ z14 ∧ z14 ≤ 36) ∧ (0 ≤ z15 ∧ z15 ≤ 3 + x0_lines) ∧ z6.toNatClampNeg < z14.toNatClampNeg ∧ ¬ (fun u => u / 3 = p2.toNatClampNeg) (z16 z6.toNatClampNeg).toNatClampNeg ∧ PR (EP x0_lines.toNatClampNeg x0_line x0_changes x0_coins x0_left x0_far x0_tons) (fun u => u / 3 = p2.toNatClampNeg) z13 z6.toNatClampNeg z16 ∧ (∀ s : Nat, s < z15.toNatClampNeg → ∀ v : Nat, v < 36 → stF x0_line x0_changes x0_coins x0_left x0_far x0_tons (z16 z6.toNatClampNeg) (Int32.ofNat s) = some (Int32.ofNat v) → tb z13 v = true))) (u4 (fun (z13 : Int64) (z14 z15 : Int32) (z16 : Nat → Int32) => muUp z15)) (muUp z15) (fun e => BQ (EP x0_lines.toNatClampNeg x0_line x0_changes x0_coins x0_left x0_far x0_tons) M nn e.1 e.2.1.toNatClampNeg e.2.2 ∧ (0 ≤ e.2.1 ∧ e.2.1 ≤ 36) ∧ z6.toNatClampNeg < e.2.1.toNatClampNeg ∧ PR (EP x0_lines.toNatClampNeg x0_line x0_changes x0_coins x0_left x0_far x0_tons) (fun u => u / 3 = p2.toNatClampNeg) e.1 (z6.toNatClampNeg + 1) e.2.2)) := fun z13 z14 z15 z16 hh => T_s62 (M := M) (G := (fun u => u / 3 = p2.toNatClampNeg)) (nn := nn) h_x0_shelf h_x0_rowSize h_x0_tapeSize h_x0_lines h_x0_line h_x0_changes h_x0_coins h_x0_goods h_x0_good h_x0_works h_x0_work h_x0_years h_x0_from h_x0_far h_x0_way h_x0_steps h6.1 hh
  have lo : Sf (lp (u4 (fX7_canEnd_s62 x0_shelf x0_rowSort x0_rowSize x0_rows x0_moved x0_shown x0_tape x0_tapeSize x0_refused x0_lines x0_line x0_changes x0_coins x0_goods x0_good x0_works x0_work x0_years x0_gone x0_spent x0_at x0_token x0_from x0_figures x0_fault x0_numbers x0_statements x0_left x0_far x0_tons x0_way x0_steps x0_met x0_totals z6)) n (z4, z5, 0, z7)) (fun e => BQ (EP x0_lines.toNatClampNeg x0_line x0_changes x0_coins x0_left x0_far x0_tons) M nn e.1 e.2.1.toNatClampNeg e.2.2 ∧ (0 ≤ e.2.1 ∧ e.2.1 ≤ 36) ∧ z6.toNatClampNeg < e.2.1.toNatClampNeg ∧ PR (EP x0_lines.toNatClampNeg x0_line x0_changes x0_coins x0_left x0_far x0_tons) (fun u => u / 3 = p2.toNatClampNeg) e.1 (z6.toNatClampNeg + 1) e.2.2) := Sf.loop4 _ _ st init (muUp_n hn)
  refine Sf.bind lo ?_
  rintro ⟨w18, w19, w20⟩ ⟨k1, k2, k3, k4⟩
  refine Sf.inl ⟨k1, k2, ⟨p6, ?_⟩, ?_⟩ (muUp_lt h)
  · show z6 + 1 ≤ w19
    have k3 : z6.toNatClampNeg < w19.toNatClampNeg := k3
    have k2 : 0 ≤ w19 ∧ w19 ≤ 36 := k2
    have a := i32_cl p6
    have b := i32_cl k2.1
    exact Int32.le_iff_toInt_le.mpr (by omega)
  · show PR (EP x0_lines.toNatClampNeg x0_line x0_changes x0_coins x0_left x0_far x0_tons) (fun u => u / 3 = p2.toNatClampNeg) w18 (z6 + 1).toNatClampNeg w20
    rw [n6]
    exact k4
theorem sX7_canEnd {n : Nat} {x0_shelf x0_rowSort x0_rowSize : (Nat → Int32)} {x0_rows : (Nat → Nat → Int64)} {x0_moved : (Nat → Int64)} {x0_shown x0_tape : (Nat → Int32)} {x0_tapeSize : Int32} {x0_refused : (Nat → Int32)} {x0_lines : Int32} {x0_line : (Nat → Nat → Int32)} {x0_changes x0_coins : (Nat → Int32)} {x0_goods : Int32} {x0_good : (Nat → Nat → Int32)} {x0_works : Int32} {x0_work : (Nat → Nat → Int32)} {x0_years x0_gone x0_spent x0_at x0_token x0_from : Int32} {x0_figures : Int64} {x0_fault : Int32} {x0_numbers : (Nat → Int32)} {x0_statements : Int32} {x0_left x0_far : (Nat → Int32)} {x0_tons : Int32} {x0_way : (Nat → Int32)} {x0_steps : Int32} {x0_met : Int64} {x0_queue x0_totals : (Nat → Int32)} {p1 p2 : Int32} (hn : 1000000000000 ≤ n) (h_x0_shelf : (AI 0 2 x0_shelf)) (h_x0_rowSize : (AI 0 40 x0_rowSize)) (h_x0_tapeSize : (0 ≤ x0_tapeSize ∧ x0_tapeSize ≤ 250)) (h_x0_lines : (0 ≤ x0_lines ∧ x0_lines ≤ 20)) (h_x0_line : (LnM x0_line)) (h_x0_changes : (AI 0 99 x0_changes)) (h_x0_coins : (AI 0 9 x0_coins)) (h_x0_goods : (0 ≤ x0_goods ∧ x0_goods ≤ 8)) (h_x0_good : (GdM x0_good)) (h_x0_works : (0 ≤ x0_works ∧ x0_works ≤ 7)) (h_x0_work : (WkM x0_work)) (h_x0_years : (1 ≤ x0_years ∧ x0_years ≤ 30)) (h_x0_from : (0 ≤ x0_from ∧ x0_from ≤ 250)) (h_x0_far : (AI 0 1000000000 x0_far)) (h_x0_way : (AI 0 22 x0_way)) (h_x0_steps : (0 ≤ x0_steps ∧ x0_steps ≤ 37)) (h_x0_queue : (AI 0 35 x0_queue)) (h_p1 : (0 ≤ p1 ∧ p1 ≤ 35)) (h_p2 : (0 ≤ p2 ∧ p2 ≤ 11)) : Sf (fX7_canEnd n (x0_shelf, x0_rowSort, x0_rowSize, x0_rows, x0_moved, x0_shown, x0_tape, x0_tapeSize, x0_refused, x0_lines, x0_line, x0_changes, x0_coins, x0_goods, x0_good, x0_works, x0_work, x0_years, x0_gone, x0_spent, x0_at, x0_token, x0_from, x0_figures, x0_fault, x0_numbers, x0_statements, x0_left, x0_far, x0_tons, x0_way, x0_steps, x0_met, x0_queue, x0_totals) p1 p2) (fun r => (0 ≤ r.1 ∧ r.1 ≤ 1) ∧ (AI 0 35 r.2) ∧ ((r.1 = 1 ∧ ∃ k, Pk (EP x0_lines.toNatClampNeg x0_line x0_changes x0_coins x0_left x0_far x0_tons) (fun u => u / 3 = p2.toNatClampNeg) (fun v => tb x0_met v = true) k p1.toNatClampNeg) ∨ (r.1 = 0 ∧ ¬ ∃ k, Pk (EP x0_lines.toNatClampNeg x0_line x0_changes x0_coins x0_left x0_far x0_tons) (fun u => u / 3 = p2.toNatClampNeg) (fun v => tb x0_met v = true) k p1.toNatClampNeg))) := by
  unfold fX7_canEnd
  dsimp only [u35]
  obtain ⟨l1, o1⟩ := n36 h_p1
  refine Sf.ite (fun hb => ?_) (fun hb => ?_)
  · have hb' := (tb_get h_p1).mp hb
    refine Sf.someb (fun t1 e1 => ?_)
    refine Sf.wrI 36 rfl h_x0_queue (by decide) (by grind) (fun f2 a2 e2 => ?_)
    subst e1
    have z0 : (0 : Int32).toNatClampNeg = 0 := rfl
    rw [z0] at e2
    have hc := cnt_set h_p1 hb'
    have m1 : (1 : Int32).toNatClampNeg = 1 := rfl
    have nM : ¬ (tb x0_met p1.toNatClampNeg = true) := by rw [hb']; decide
    have hB : BQ (EP x0_lines.toNatClampNeg x0_line x0_changes x0_coins x0_left x0_far x0_tons) (fun v => tb x0_met v = true) p1.toNatClampNeg (x0_met ||| ((1 : Int64) <<< (p1.toInt64 &&& 63))) (1 : Int32).toNatClampNeg f2 := by
      rw [m1]
      refine ⟨a2, by omega, ⟨?_, l1, nM⟩, fun j hj => ?_, fun v hv ht => ?_, fun v hv hm => ?_⟩
      · rw [tb_set h_p1 _ l1]; simp
      · have : j = 0 := by omega
        subst this
        rw [e2, va_up_self, tb_set h_p1 _ l1]
        exact ⟨by simp, 0, rfl, nM⟩
      · rw [tb_set h_p1 v hv] at ht
        by_cases ho : tb x0_met v = true
        · exact Or.inl ho
        · have ho : tb x0_met v = false := by simpa using ho
          rw [ho] at ht
          exact Or.inr ⟨0, by omega, by rw [e2, va_up_self]; have : v = p1.toNatClampNeg := by simpa using ht
                                        exact this.symm⟩
      · rw [tb_set h_p1 v hv]
        have hm : tb x0_met v = true := hm
        rw [hm]
        rfl
    refine Sf.bind (Sf.loop4 (Q := Sum.elim (fun a => AI 0 35 a ∧ ∃ k, Pk (EP x0_lines.toNatClampNeg x0_line x0_changes x0_coins x0_left x0_far x0_tons) (fun u => u / 3 = p2.toNatClampNeg) (fun v => tb x0_met v = true) k p1.toNatClampNeg) (fun b => AI 0 35 b ∧ ¬ ∃ k, Pk (EP x0_lines.toNatClampNeg x0_line x0_changes x0_coins x0_left x0_far x0_tons) (fun u => u / 3 = p2.toNatClampNeg) (fun v => tb x0_met v = true) k p1.toNatClampNeg)) (fun (z4 : Int64) (z5 z6 : Int32) (z7 : Nat → Int32) => BQ (EP x0_lines.toNatClampNeg x0_line x0_changes x0_coins x0_left x0_far x0_tons) (fun v => tb x0_met v = true) p1.toNatClampNeg z4 z5.toNatClampNeg z7 ∧ (0 ≤ z5 ∧ z5 ≤ 36) ∧ (0 ≤ z6 ∧ z6 ≤ z5) ∧ PR (EP x0_lines.toNatClampNeg x0_line x0_changes x0_coins x0_left x0_far x0_tons) (fun u => u / 3 = p2.toNatClampNeg) z4 z6.toNatClampNeg z7) (fun (z4 : Int64) (z5 z6 : Int32) (z7 : Nat → Int32) => muUp z6) (fun z4 z5 z6 z7 hh => T_s37 (M := (fun v => tb x0_met v = true)) (nn := p1.toNatClampNeg) hn h_x0_shelf h_x0_rowSize h_x0_tapeSize h_x0_lines h_x0_line h_x0_changes h_x0_coins h_x0_goods h_x0_good h_x0_works h_x0_work h_x0_years h_x0_from h_x0_far h_x0_way h_x0_steps h_p2 hh) (n := n) (s := (x0_met ||| ((1 : Int64) <<< (p1.toInt64 &&& 63)), 1, 0, f2)) ⟨hB, (by decide : (0 : Int32) ≤ 1 ∧ (1 : Int32) ≤ 36), (by decide : (0 : Int32) ≤ 0 ∧ (0 : Int32) ≤ 1), fun j hj => absurd hj (Nat.not_lt_zero _)⟩ (muUp_n hn)) ?_
    intro r hr
    cases r with
    | inl a => exact Sf.ok ⟨(by decide : (0 : Int32) ≤ 1 ∧ (1 : Int32) ≤ 1), hr.1, Or.inl ⟨rfl, hr.2⟩⟩
    | inr b => exact Sf.ok ⟨(by decide : (0 : Int32) ≤ 0 ∧ (0 : Int32) ≤ 1), hr.1, Or.inr ⟨rfl, hr.2⟩⟩
  · refine Sf.ok ⟨(by decide : (0 : Int32) ≤ 0 ∧ (0 : Int32) ≤ 1), h_x0_queue, Or.inr ⟨rfl, ?_⟩⟩
    rintro ⟨k, hk⟩
    apply Pk.nm hk
    show tb x0_met p1.toNatClampNeg = true
    by_cases ht : tb x0_met p1.toNatClampNeg = true
    · exact ht
    · exact absurd ((tb_get h_p1).mpr (by simpa using ht)) hb
end
section
/-! least costs: a way of tight steps -/
theorem dle {D : Nat → Nat → Int → Prop} {G : Nat → Prop} {d : Nat → Int} (hG : ∀ u, u < 36 → G u → d u = 0) (hF : ∀ u v c, D u v c → d u ≤ d v + c) (hB : ∀ u v c, D u v c → v < 36) : ∀ (k v : Nat) (x : Int), v < 36 → Wk D G k v x → d v ≤ x := by
  intro k
  induction k with
  | zero => intro v x hv h; rw [hG v hv h.1, h.2]; exact Int.le_refl _
  | succ k ih =>
    intro v x hv h
    obtain ⟨w, c, e, h⟩ := h
    have a := ih w (x - c) (hB v w c e) h
    have b := hF v w c e
    omega
theorem tight {D : Nat → Nat → Int → Prop} {G : Nat → Prop} {d : Nat → Int} {E : Nat → Nat → Prop} (hG : ∀ u, u < 36 → G u → d u = 0) (hF : ∀ u v c, D u v c → d u ≤ d v + c) (hB : ∀ u v c, D u v c → v < 36) (hE : ∀ u v c, D u v c → u < 36 → u ≠ v → d u = d v + c → E u v) : ∀ (k u : Nat), u < 36 → Wk D G k u (d u) → ∃ j, Pk E G (fun _ => False) j u := by
  intro k
  induction k with
  | zero => intro u hu h; exact ⟨0, fun h => h, h.1⟩
  | succ k ih =>
    intro u hu h
    obtain ⟨v, c, e, h⟩ := h
    have hv := hB u v c e
    have a := dle hG hF hB k v _ hv h
    have b := hF u v c e
    have eq : d u - c = d v := by omega
    rw [eq] at h
    obtain ⟨j, hj⟩ := ih v hv h
    by_cases huv : u = v
    · subst huv; exact ⟨j, hj⟩
    · exact ⟨j + 1, fun h => h, v, hE u v c e hu huv (by omega), hj⟩
theorem Sf.eq {α : Type} {x : Option α} {a : α} (h : Sf x (fun r => r = a)) : x = some a := by
  obtain ⟨b, e, rfl⟩ := h
  exact e
theorem o36 {u : Nat} (hu : u < 36) : (0 ≤ Int32.ofNat u ∧ Int32.ofNat u ≤ 35) ∧ (Int32.ofNat u).toNatClampNeg = u ∧ Int32.ofNat u / 3 = Int32.ofNat (u / 3) ∧ Int32.ofNat u - Int32.ofNat u / 3 * 3 = Int32.ofNat (u % 3) := by
  have key : ∀ i : Fin 36, (0 ≤ Int32.ofNat i.1 ∧ Int32.ofNat i.1 ≤ 35) ∧ (Int32.ofNat i.1).toNatClampNeg = i.1 ∧ Int32.ofNat i.1 / 3 = Int32.ofNat (i.1 / 3) ∧ Int32.ofNat i.1 - Int32.ofNat i.1 / 3 * 3 = Int32.ofNat (i.1 % 3) := by decide +kernel
  exact key ⟨u, hu⟩
theorem oinj {a b : Nat} (ha : a < 1000) (hb : b < 1000) (h : Int32.ofNat a = Int32.ofNat b) : a = b := by
  have x := ofNat_i (m := a) (by omega)
  have y := ofNat_i (m := b) (by omega)
  rw [h] at x
  omega
theorem o_of {v : Int32} (h : 0 ≤ v) : Int32.ofNat v.toNatClampNeg = v := Int32.ofNat_toNatClampNeg v h
theorem fi_le {f : Nat → Int32} {u v : Nat} {c : Int32} (hA : AI 0 1000000000 f) (hc : 0 ≤ c ∧ c ≤ 1000) : (f u ≤ f v + c ↔ (f u).toInt ≤ (f v).toInt + c.toInt) ∧ (f v + c = f u ↔ (f u).toInt = (f v).toInt + c.toInt) := by
  have z : (1000000000 : Int32).toInt = 1000000000 := by decide
  have z0 : (0 : Int32).toInt = 0 := by decide
  have z1 : (1000 : Int32).toInt = 1000 := by decide
  have av := i32_b (hA v)
  have ac := i32_b hc
  rw [z0, z] at av
  rw [z0, z1] at ac
  have e : (f v + c).toInt = (f v).toInt + c.toInt := i32_add (by omega) (by omega)
  refine ⟨?_, ?_⟩
  · rw [Int32.le_iff_toInt_le, e]
  · constructor
    · intro h; rw [← h, e]
    · intro h; exact Int32.toInt_inj.mp (by rw [e, h])
theorem o12 {p w : Nat} (hp : p < 12) (hw : w < 3) : (0 ≤ Int32.ofNat p * 3 + Int32.ofNat w ∧ Int32.ofNat p * 3 + Int32.ofNat w < 36) ∧ Int32.ofNat p * 3 + Int32.ofNat w = Int32.ofNat (3 * p + w) ∧ 3 * Int32.ofNat p + Int32.ofNat w = Int32.ofNat (3 * p + w) ∧ (0 ≤ Int32.ofNat p ∧ Int32.ofNat p < 12) ∧ (0 ≤ Int32.ofNat w ∧ Int32.ofNat w < 3) ∧ ¬ (3 : Int32) ≤ Int32.ofNat w := by
  have key : ∀ (i : Fin 12) (j : Fin 3), (0 ≤ Int32.ofNat i.1 * 3 + Int32.ofNat j.1 ∧ Int32.ofNat i.1 * 3 + Int32.ofNat j.1 < 36) ∧ Int32.ofNat i.1 * 3 + Int32.ofNat j.1 = Int32.ofNat (3 * i.1 + j.1) ∧ 3 * Int32.ofNat i.1 + Int32.ofNat j.1 = Int32.ofNat (3 * i.1 + j.1) ∧ (0 ≤ Int32.ofNat i.1 ∧ Int32.ofNat i.1 < 12) ∧ (0 ≤ Int32.ofNat j.1 ∧ Int32.ofNat j.1 < 3) ∧ ¬ (3 : Int32) ≤ Int32.ofNat j.1 := by decide +kernel
  exact key ⟨p, hp⟩ ⟨w, hw⟩
theorem o20 {l : Nat} (hl : l < 20) : (3 : Int32) ≤ Int32.ofNat (3 + l) ∧ Int32.ofNat (3 + l) - 3 = Int32.ofNat l ∧ (0 ≤ Int32.ofNat l ∧ Int32.ofNat l ≤ 19) ∧ (0 ≤ Int32.ofNat l ∧ Int32.ofNat l < 20) := by
  have key : ∀ i : Fin 20, (3 : Int32) ≤ Int32.ofNat (3 + i.1) ∧ Int32.ofNat (3 + i.1) - 3 = Int32.ofNat i.1 ∧ (0 ≤ Int32.ofNat i.1 ∧ Int32.ofNat i.1 ≤ 19) ∧ (0 ≤ Int32.ofNat i.1 ∧ Int32.ofNat i.1 < 20) := by decide +kernel
  exact key ⟨l, hl⟩
theorem ocl {a : Nat} (h : a < 1000) : (Int32.ofNat a).toNatClampNeg = a := by
  have x := ofNat_i (m := a) (by omega)
  have p : 0 ≤ Int32.ofNat a := Int32.le_iff_toInt_le.mpr (by rw [x]; have z0 : (0 : Int32).toInt = 0 := by decide
                                                              rw [z0]; omega)
  have := i32_cl p
  omega
theorem j139_ok {line : Nat → Nat → Int32} {coins far : Nat → Int32} {a b w l : Nat} (ha : a < 12) (hb : b < 12) (hw : w < 3) (hl : l < 20) (hA : AI 0 1000000000 far) (hc : 0 ≤ line l 3 * coins w ∧ line l 3 * coins w ≤ 1000) (hd : (far (3 * a + w)).toInt = (far (3 * b + w)).toInt + (line l 3 * coins w).toInt) : Sf (fX7_stepTo_j139 (Int32.ofNat (3 * a + w)) (Int32.ofNat (3 + l)) line coins far (Int32.ofNat b)) (fun r => r = Int32.ofNat (3 * b + w)) := by
  obtain ⟨ua, na, da, ma⟩ := o36 (u := 3 * a + w) (by omega)
  have e1 : (3 * a + w) / 3 = a := by omega
  have e2 : (3 * a + w) % 3 = w := by omega
  rw [e1] at da
  rw [e2] at ma
  obtain ⟨_, _, t8, _, w3, _⟩ := o12 hb hw
  obtain ⟨_, l3, _, l20⟩ := o20 hl
  obtain ⟨ub, nb, _, _⟩ := o36 (u := 3 * b + w) (by omega)
  unfold fX7_stepTo_j139
  rw [ma, t8, l3]
  refine Sf.someb (fun t et => ?_)
  subst et
  refine Sf.rdb 36 rfl ⟨ub.1, Int32.lt_of_le_of_lt ub.2 (by decide)⟩ (fun v9 e9 => ?_)
  refine Sf.ckb 20 rfl l20 (fun q10 e10 _ => ?_)
  refine Sf.rdl 3 rfl rfl (fun v11 e11 => ?_)
  refine Sf.rdb 3 rfl w3 (fun v12 e12 => ?_)
  refine Sf.rdb 36 rfl ⟨ua.1, Int32.lt_of_le_of_lt ua.2 (by decide)⟩ (fun v13 e13 => ?_)
  rw [nb] at e9
  rw [na] at e13
  rw [ocl (by omega)] at e10 e12
  subst e10
  have hk : v9 + v11 * v12 = v13 := by
    rw [e9, e11, e12, e13]
    exact (fi_le hA hc).2.mpr hd
  exact Sf.ite (fun _ => Sf.ok rfl) (fun h => absurd hk h)
/-- what the least costs say, once for all -/
theorem far_way {L : Nat} {line : Nat → Nat → Int32} {changes coins left far : Nat → Int32} {tons : Int32} {g : Nat} (hL : L ≤ 20) (hl : LnM line) (hch : AI 0 99 changes) (hco : AI 0 9 coins) (hA : AI 0 1000000000 far) (hAt : At (Ed L line changes coins left tons) (fun u => u / 3 = g) far) (hO : ∀ l : Nat, l < L → ∀ w : Nat, w < 3 → OKl line coins left tons far l w) (hC : ∀ m : Nat, m < 36 → ∀ w : Nat, w < 3 → OKc changes far m w) {u : Nat} (hu : u < 36) (hf : (far u).toInt < 1000000000) : ∃ j, Pk (EP L line changes coins left far tons) (fun u => u / 3 = g) (fun _ => False) j u := by
  obtain ⟨k, hk⟩ := hAt.2 u hu hf
  have pl : ∀ l, (line l 0).toNatClampNeg < 12 ∧ (line l 1).toNatClampNeg < 12 := fun l => ⟨p_of (hl l 0), p_of (hl l 1)⟩
  have cb : ∀ l w, 0 ≤ line l 3 * coins w ∧ line l 3 * coins w ≤ 1000 := fun l w => mc_rng (hl l 3) (hco w)
  have chb : ∀ p, 0 ≤ changes p ∧ changes p ≤ 1000 := fun p => ⟨(hch p).1, Int32.le_trans (hch p).2 (by decide)⟩
  have z0 : (0 : Int32).toInt = 0 := by decide
  refine tight (D := Ed L line changes coins left tons) (d := fun x => (far x).toInt) (fun x hx hg => by show (far x).toInt = 0; rw [hAt.1 x hx hg, z0]) ?_ ?_ ?_ k u hu hk
  · rintro x y c (⟨l, w, h1, h2, h3, rfl, ⟨rfl, rfl⟩ | ⟨rfl, rfl⟩⟩ | ⟨p, w, w', h1, h2, h3, rfl, rfl, rfl⟩)
    · exact (fi_le hA (cb l w)).1.mp (hO l h1 w h2 h3).1
    · exact (fi_le hA (cb l w)).1.mp (hO l h1 w h2 h3).2
    · have := hC (3 * p + w) (by omega) w' h3
      unfold OKc at this
      have e1 : (3 * p + w) / 3 = p := by omega
      rw [e1] at this
      have e2 : p * 3 + w' = 3 * p + w' := by omega
      rw [e2] at this
      exact (fi_le hA (chb p)).1.mp this
  · rintro x y c (⟨l, w, h1, h2, h3, rfl, ⟨rfl, rfl⟩ | ⟨rfl, rfl⟩⟩ | ⟨p, w, w', h1, h2, h3, rfl, rfl, rfl⟩)
    · have := pl l; omega
    · have := pl l; omega
    · omega
  · have lineE : ∀ (l w a b : Nat), l < L → w < 3 → Br line left tons l (Int32.ofNat w) → a < 12 → b < 12 → a ≠ b → ((line l 0).toNatClampNeg = a ∧ (line l 1).toNatClampNeg = b ∨ (line l 1).toNatClampNeg = a ∧ (line l 0).toNatClampNeg = b) → (far (3 * a + w)).toInt = (far (3 * b + w)).toInt + (line l 3 * coins w).toInt → EP L line changes coins left far tons (3 * a + w) (3 * b + w) := by
      intro l w a b h1 h2 h3 ha hb hab hpl hd
      have hl20 : l < 20 := by omega
      obtain ⟨ua, na, da, ma⟩ := o36 (u := 3 * a + w) (by omega)
      have e1 : (3 * a + w) / 3 = a := by omega
      have e2 : (3 * a + w) % 3 = w := by omega
      rw [e1] at da
      rw [e2] at ma
      obtain ⟨g3, l3, l19, l20⟩ := o20 hl20
      have fin := j139_ok (line := line) (coins := coins) ha hb h2 hl20 hA (cb l w) hd
      refine ⟨by omega, 3 + l, by omega, Sf.eq ?_⟩
      have o0 := o_of (hl l 0).1
      have o1 := o_of (hl l 1).1
      have j102 : Sf (fX7_stepTo_j102 (Int32.ofNat (3 * a + w)) (Int32.ofNat (3 + l)) line coins far) (fun r => r = Int32.ofNat (3 * b + w)) := by
        unfold fX7_stepTo_j102
        rw [l3, da]
        refine Sf.ckb 20 rfl l20 (fun q5 e5 _ => ?_)
        rw [ocl (by omega)] at e5
        subst e5
        refine Sf.rdl 0 rfl rfl (fun v6 e6 => ?_)
        rcases hpl with ⟨pa, pb⟩ | ⟨pa, pb⟩
        · rw [pa] at o0
          rw [pb] at o1
          refine Sf.ite (fun _ => ?_) (fun h => absurd (e6.trans o0.symm) h)
          refine Sf.ckb 20 rfl l20 (fun q16 e16 _ => ?_)
          rw [ocl (by omega)] at e16
          subst e16
          refine Sf.rdl 1 rfl rfl (fun v17 e17 => ?_)
          rw [e17, ← o1]
          exact fin
        · rw [pb] at o0
          refine Sf.ite (fun h => ?_) (fun _ => ?_)
          · rw [e6, ← o0] at h
            exact absurd (oinj (by omega) (by omega) h) (fun h => hab h.symm)
          refine Sf.ckb 20 rfl l20 (fun q14 e14 _ => ?_)
          rw [ocl (by omega)] at e14
          subst e14
          refine Sf.rdl 0 rfl rfl (fun v15 e15 => ?_)
          rw [e15, ← o0]
          exact fin
      unfold stF fX7_stepTo
      dsimp only [u35]
      refine Sf.ite (fun _ => ?_) (fun h => absurd g3 h)
      rw [l3, ma]
      refine Sf.bind (s_bears hl l19) (fun v1 hv1 => ?_)
      have nl : (Int32.ofNat l).toNatClampNeg = l := ocl (by omega)
      rw [nl] at hv1
      refine Sf.ite (fun h0 => ?_) (fun h0 => ?_)
      · rcases hv1 with hv1 | hv1
        · rw [h0] at hv1; exact absurd hv1.1 (by decide)
        · exact absurd h3 hv1.2
      rw [da]
      refine Sf.ckb 20 rfl l20 (fun q3 e3 _ => ?_)
      rw [nl] at e3
      subst e3
      refine Sf.rdl 0 rfl rfl (fun v4 e4 => ?_)
      refine Sf.ite (fun _ => j102) (fun h4 => ?_)
      refine Sf.ckb 20 rfl l20 (fun q18 e18 _ => ?_)
      rw [nl] at e18
      subst e18
      refine Sf.rdl 1 rfl rfl (fun v19 e19 => ?_)
      refine Sf.ite (fun _ => j102) (fun h5 => ?_)
      exfalso
      rcases hpl with ⟨pa, pb⟩ | ⟨pa, pb⟩
      · rw [pa] at o0; exact h4 (e4.trans o0.symm)
      · rw [pa] at o1; exact h5 (e19.trans o1.symm)
    rintro x y c (⟨l, w, h1, h2, h3, rfl, ⟨rfl, rfl⟩ | ⟨rfl, rfl⟩⟩ | ⟨p, w, w', h1, h2, h3, rfl, rfl, rfl⟩) hx hne hd
    · exact lineE l w _ _ h1 h2 h3 (pl l).1 (pl l).2 (fun h => hne (by rw [h])) (Or.inl ⟨rfl, rfl⟩) hd
    · exact lineE l w _ _ h1 h2 h3 (pl l).2 (pl l).1 (fun h => hne (by rw [h])) (Or.inr ⟨rfl, rfl⟩) hd
    · refine ⟨by omega, w', by omega, Sf.eq ?_⟩
      obtain ⟨ua, na, da, ma⟩ := o36 (u := 3 * p + w) (by omega)
      have e1 : (3 * p + w) / 3 = p := by omega
      have e2 : (3 * p + w) % 3 = w := by omega
      rw [e1] at da
      rw [e2] at ma
      obtain ⟨ix, t8, _, p12, _, n3⟩ := o12 h1 h3
      obtain ⟨ub, nb, _, _⟩ := o36 (u := 3 * p + w') (by omega)
      unfold stF fX7_stepTo
      dsimp only [u35]
      refine Sf.ite (fun h => absurd h n3) (fun _ => ?_)
      rw [ma, da, t8]
      refine Sf.ite (fun h => ?_) (fun _ => ?_)
      · exact absurd (oinj (by omega) (by omega) h) (fun h => hne (by rw [h]))
      refine Sf.rdb 36 rfl ⟨ub.1, Int32.lt_of_le_of_lt ub.2 (by decide)⟩ (fun v20 e20 => ?_)
      refine Sf.rdb 12 rfl p12 (fun v21 e21 => ?_)
      refine Sf.rdb 36 rfl ⟨ua.1, Int32.lt_of_le_of_lt ua.2 (by decide)⟩ (fun v22 e22 => ?_)
      rw [nb] at e20
      rw [ocl (by omega)] at e21
      rw [na] at e22
      have hk : v20 + v21 = v22 := by
        rw [e20, e21, e22]
        exact (fi_le hA (chb p)).2.mpr hd
      exact Sf.ite (fun _ => Sf.ok rfl) (fun h => absurd hk h)
end
section
theorem s_least {n : Nat} {x0_shelf x0_rowSort x0_rowSize : (Nat → Int32)} {x0_rows : (Nat → Nat → Int64)} {x0_moved : (Nat → Int64)} {x0_shown x0_tape : (Nat → Int32)} {x0_tapeSize : Int32} {x0_refused : (Nat → Int32)} {x0_lines : Int32} {x0_line : (Nat → Nat → Int32)} {x0_changes x0_coins : (Nat → Int32)} {x0_goods : Int32} {x0_good : (Nat → Nat → Int32)} {x0_works : Int32} {x0_work : (Nat → Nat → Int32)} {x0_years x0_gone x0_spent x0_at x0_token x0_from : Int32} {x0_figures : Int64} {x0_fault : Int32} {x0_numbers : (Nat → Int32)} {x0_statements : Int32} {x0_left x0_far : (Nat → Int32)} {x0_tons : Int32} {x0_way : (Nat → Int32)} {x0_steps : Int32} {x0_met : Int64} {x0_queue x0_totals : (Nat → Int32)} {p1 : Int32} (hn : 1000000000000 ≤ n) (hp : 0 ≤ p1 ∧ p1 ≤ 11) (hA : AI 0 1000000000 x0_far) : Sf (fX7_least n (x0_shelf, x0_rowSort, x0_rowSize, x0_rows, x0_moved, x0_shown, x0_tape, x0_tapeSize, x0_refused, x0_lines, x0_line, x0_changes, x0_coins, x0_goods, x0_good, x0_works, x0_work, x0_years, x0_gone, x0_spent, x0_at, x0_token, x0_from, x0_figures, x0_fault, x0_numbers, x0_statements, x0_left, x0_far, x0_tons, x0_way, x0_steps, x0_met, x0_queue, x0_totals) p1) (fun r => (0 ≤ r ∧ r ≤ 1000000000) ∧ (r = 1000000000 ∨ ∃ w : Nat, w < 3 ∧ x0_far (3 * p1.toNatClampNeg + w) = r)) := by
  unfold fX7_least
  dsimp only [u35]
  refine Sf.bind (Sf.loop2 (Q := fun r => (0 ≤ r ∧ r ≤ 1000000000) ∧ (r = 1000000000 ∨ ∃ w : Nat, w < 3 ∧ x0_far (3 * p1.toNatClampNeg + w) = r)) (fun (z2 z3 : Int32) => 0 ≤ z3 ∧ (0 ≤ z2 ∧ z2 ≤ 1000000000) ∧ (z2 = 1000000000 ∨ ∃ w : Nat, w < 3 ∧ x0_far (3 * p1.toNatClampNeg + w) = z2)) (fun (z2 z3 : Int32) => muUp z3) (fun z2 z3 hh => ?_) (n := n) (s := (1000000000, 0)) ⟨Int32.le_refl _, (by decide : (0 : Int32) ≤ 1000000000 ∧ (1000000000 : Int32) ≤ 1000000000), Or.inl rfl⟩ (muUp_n hn)) (fun r hr => Sf.ok hr)
  obtain ⟨h3, b2, h2⟩ := hh
  unfold fX7_least_s5
  refine Sf.ite (fun h => Sf.inr ⟨b2, h2⟩) (fun h => ?_)
  obtain ⟨p3, n3, hlt⟩ := up1 h3 (by decide) h
  obtain ⟨ix, nx⟩ := ix3 hp ⟨h3, hlt⟩
  refine Sf.rdI 36 rfl hA ix (fun v6 b6 e6 => ?_)
  refine Sf.ite (fun _ => Sf.inl ⟨p3, b2, h2⟩ (muUp_lt h)) (fun _ => ?_)
  refine Sf.rdI 36 rfl hA ix (fun v7 b7 e7 => ?_)
  rw [nx] at e7
  exact Sf.inl ⟨p3, b7, Or.inr ⟨z3.toNatClampNeg, i32_lt (M := 3) rfl ⟨h3, hlt⟩, e7.symm⟩⟩ (muUp_lt h)
theorem T_s146 {n sS kS : Nat} {vS : Nat} {p2 : Int32} {x0_shelf x0_rowSort x0_rowSize : (Nat → Int32)} {x0_rows : (Nat → Nat → Int64)} {x0_moved : (Nat → Int64)} {x0_shown x0_tape : (Nat → Int32)} {x0_tapeSize : Int32} {x0_refused : (Nat → Int32)} {x0_lines : Int32} {x0_line : (Nat → Nat → Int32)} {x0_changes x0_coins : (Nat → Int32)} {x0_goods : Int32} {x0_good : (Nat → Nat → Int32)} {x0_works : Int32} {x0_work : (Nat → Nat → Int32)} {x0_years x0_gone x0_spent x0_at x0_token x0_from : Int32} {x0_figures : Int64} {x0_fault : Int32} {x0_numbers : (Nat → Int32)} {x0_statements : Int32} {x0_left x0_totals g1 : (Nat → Int32)} {g2 z16 : Int32} {z17 : (Nat → Int32)} {z18 : Int32} {z19 : Int64} {z29 z30 : Int32} {z31 : (Nat → Int32)} (hn : 1000000000000 ≤ n) (h_x0_shelf : (AI 0 2 x0_shelf)) (h_x0_rowSize : (AI 0 40 x0_rowSize)) (h_x0_tapeSize : (0 ≤ x0_tapeSize ∧ x0_tapeSize ≤ 250)) (h_x0_lines : (0 ≤ x0_lines ∧ x0_lines ≤ 20)) (h_x0_line : (LnM x0_line)) (h_x0_changes : (AI 0 99 x0_changes)) (h_x0_coins : (AI 0 9 x0_coins)) (h_x0_goods : (0 ≤ x0_goods ∧ x0_goods ≤ 8)) (h_x0_good : (GdM x0_good)) (h_x0_works : (0 ≤ x0_works ∧ x0_works ≤ 7)) (h_x0_work : (WkM x0_work)) (h_x0_years : (1 ≤ x0_years ∧ x0_years ≤ 30)) (h_x0_from : (0 ≤ x0_from ∧ x0_from ≤ 250)) (hg1 : AI 0 1000000000 g1) (h17 : AI 0 22 z17) (h18 : 0 ≤ z18 ∧ z18 ≤ 37) (hp2 : 0 ≤ p2 ∧ p2 ≤ 11) (h16 : 0 ≤ z16 ∧ z16 ≤ 35) (hs : sS < 3 + x0_lines.toNatClampNeg) (hv : vS < 36) (hst : stF x0_line x0_changes x0_coins x0_left g1 g2 z16 (Int32.ofNat sS) = some (Int32.ofNat vS)) (hPk : Pk (EP x0_lines.toNatClampNeg x0_line x0_changes x0_coins x0_left g1 g2) (fun u => u / 3 = p2.toNatClampNeg) (fun v => tb z19 v = true) kS vS) (hI : (0 ≤ z29 ∧ z29.toNatClampNeg ≤ sS) ∧ stF x0_line x0_changes x0_coins x0_left g1 g2 z16 z29 = some z30 ∧ AI 0 35 z31) :
    Sf (fX7_findWay_s146 n p2 x0_shelf x0_rowSort x0_rowSize x0_rows x0_moved x0_shown x0_tape x0_tapeSize x0_refused x0_lines x0_line x0_changes x0_coins x0_goods x0_good x0_works x0_work x0_years x0_gone x0_spent x0_at x0_token x0_from x0_figures x0_fault x0_numbers x0_statements x0_left x0_totals g1 g2 z16 z17 z18 z19 z29 z30 z31) (LQ (u3 (fun (z29 z30 : Int32) (z31 : Nat → Int32) => (0 ≤ z29 ∧ z29.toNatClampNeg ≤ sS) ∧ stF x0_line x0_changes x0_coins x0_left g1 g2 z16 z29 = some z30 ∧ AI 0 35 z31)) (u3 (fun (z29 z30 : Int32) (z31 : Nat → Int32) => muUp z29)) (muUp z29) (fun e => (0 ≤ e.1 ∧ e.1 ≤ 22) ∧ (0 ≤ e.2.1 ∧ e.2.1 ≤ 35) ∧ AI 0 35 e.2.2 ∧ ∃ k, Pk (EP x0_lines.toNatClampNeg x0_line x0_changes x0_coins x0_left g1 g2) (fun u => u / 3 = p2.toNatClampNeg) (fun v => tb z19 v = true) k e.2.1.toNatClampNeg)) := by
  unfold fX7_findWay_s146
  obtain ⟨⟨h29, l29⟩, e30, a31⟩ := hI
  have l3 := l23 h_x0_lines
  have lL : x0_lines.toNatClampNeg ≤ 20 := by
    have a := i32_cl h_x0_lines.1
    have b := Int32.le_iff_toInt_le.mp h_x0_lines.2
    have z20 : (20 : Int32).toInt = 20 := by decide
    rw [z20] at b
    omega
  have b29 : 0 ≤ z29 ∧ z29 ≤ 22 := by
    have a := i32_cl h29
    have z22 : (22 : Int32).toInt = 22 := by decide
    exact ⟨h29, Int32.le_iff_toInt_le.mpr (by rw [z22]; omega)⟩
  obtain ⟨p29, n29, _⟩ := up1 (B := 100) h29 (by decide) (by grind)
  obtain ⟨v30, e30', b30⟩ := sX7_stepTo (x0_shelf := x0_shelf) (x0_rowSort := x0_rowSort) (x0_rows := x0_rows) (x0_moved := x0_moved) (x0_shown := x0_shown) (x0_tape := x0_tape) (x0_refused := x0_refused) (x0_gone := x0_gone) (x0_spent := x0_spent) (x0_at := x0_at) (x0_token := x0_token) (x0_figures := x0_figures) (x0_fault := x0_fault) (x0_numbers := x0_numbers) (x0_statements := x0_statements) (x0_left := x0_left) (x0_tons := g2) (x0_met := z19) (x0_totals := x0_totals) h_x0_shelf h_x0_rowSize h_x0_tapeSize h_x0_lines h_x0_line h_x0_changes h_x0_coins h_x0_goods h_x0_good h_x0_works h_x0_work h_x0_years h_x0_from hg1 h17 h18 a31 h16 b29
  rw [stF_eq, e30] at e30'
  cases e30'
  have nS : ¬ (z29.toNatClampNeg = sS ∧ ¬ (z30 ≠ -1 ∧ ∃ k, Pk (EP x0_lines.toNatClampNeg x0_line x0_changes x0_coins x0_left g1 g2) (fun u => u / 3 = p2.toNatClampNeg) (fun v => tb z19 v = true) k z30.toNatClampNeg)) := by
    rintro ⟨ha, hb⟩
    apply hb
    rw [← ha, o_of h29, e30] at hst
    have : z30 = Int32.ofNat vS := Option.some.inj hst
    obtain ⟨ov, nv, _, _⟩ := o36 hv
    rw [this]
    refine ⟨?_, kS, ?_⟩
    · intro hx
      rw [hx] at ov
      exact absurd ov.1 (by decide)
    · rw [nv]; exact hPk
  have go : ∀ {x38 : Nat → Int32}, AI 0 35 x38 → ¬ (z30 ≠ -1 ∧ ∃ k, Pk (EP x0_lines.toNatClampNeg x0_line x0_changes x0_coins x0_left g1 g2) (fun u => u / 3 = p2.toNatClampNeg) (fun v => tb z19 v = true) k z30.toNatClampNeg) → Sf (fX7_findWay_j162 x0_shelf x0_rowSort x0_rowSize x0_rows x0_moved x0_shown x0_tape x0_tapeSize x0_refused x0_lines x0_line x0_changes x0_coins x0_goods x0_good x0_works x0_work x0_years x0_gone x0_spent x0_at x0_token x0_from x0_figures x0_fault x0_numbers x0_statements x0_left x0_totals g1 g2 z16 z17 z18 z19 z29 x38) (LQ (u3 (fun (z29 z30 : Int32) (z31 : Nat → Int32) => (0 ≤ z29 ∧ z29.toNatClampNeg ≤ sS) ∧ stF x0_line x0_changes x0_coins x0_left g1 g2 z16 z29 = some z30 ∧ AI 0 35 z31)) (u3 (fun (z29 z30 : Int32) (z31 : Nat → Int32) => muUp z29)) (muUp z29) (fun e => (0 ≤ e.1 ∧ e.1 ≤ 22) ∧ (0 ≤ e.2.1 ∧ e.2.1 ≤ 35) ∧ AI 0 35 e.2.2 ∧ ∃ k, Pk (EP x0_lines.toNatClampNeg x0_line x0_changes x0_coins x0_left g1 g2) (fun u => u / 3 = p2.toNatClampNeg) (fun v => tb z19 v = true) k e.2.1.toNatClampNeg)) := by
    intro x38 ax hno
    have hlt : z29.toNatClampNeg < sS := by
      rcases Nat.lt_or_ge z29.toNatClampNeg sS with h | h
      · exact h
      · exact absurd ⟨by omega, hno⟩ nS
    have b1 : 0 ≤ z29 + 1 ∧ z29 + 1 ≤ 22 := by
      have a := i32_cl p29
      have z22 : (22 : Int32).toInt = 22 := by decide
      exact ⟨p29, Int32.le_iff_toInt_le.mpr (by rw [z22]; omega)⟩
    unfold fX7_findWay_j162
    obtain ⟨v39, e39, b39⟩ := sX7_stepTo (x0_shelf := x0_shelf) (x0_rowSort := x0_rowSort) (x0_rows := x0_rows) (x0_moved := x0_moved) (x0_shown := x0_shown) (x0_tape := x0_tape) (x0_refused := x0_refused) (x0_gone := x0_gone) (x0_spent := x0_spent) (x0_at := x0_at) (x0_token := x0_token) (x0_figures := x0_figures) (x0_fault := x0_fault) (x0_numbers := x0_numbers) (x0_statements := x0_statements) (x0_left := x0_left) (x0_tons := g2) (x0_met := z19) (x0_totals := x0_totals) h_x0_shelf h_x0_rowSize h_x0_tapeSize h_x0_lines h_x0_line h_x0_changes h_x0_coins h_x0_goods h_x0_good h_x0_works h_x0_work h_x0_years h_x0_from hg1 h17 h18 ax h16 b1
    rw [e39]
    rw [stF_eq] at e39
    refine Sf.someb (fun w ew => ?_)
    subst ew
    exact Sf.inl ⟨⟨p29, by show (z29 + 1).toNatClampNeg ≤ sS; rw [n29]; omega⟩, e39, ax⟩ (muUp_lt' (B := 100) (by grind))
  refine Sf.ite (fun h => go a31 (fun hx => hx.1 h)) (fun h => ?_)
  have c30 : 0 ≤ z30 ∧ z30 ≤ 35 := by
    have b30 : (-1) ≤ z30 ∧ z30 ≤ 35 := b30
    grind
  refine Sf.bind (sX7_canEnd hn h_x0_shelf h_x0_rowSize h_x0_tapeSize h_x0_lines h_x0_line h_x0_changes h_x0_coins h_x0_goods h_x0_good h_x0_works h_x0_work h_x0_years h_x0_from hg1 h17 h18 a31 c30 hp2) ?_
  rintro ⟨v41, g42⟩ hr
  obtain ⟨_, a42, h41⟩ : (0 ≤ v41 ∧ v41 ≤ 1) ∧ AI 0 35 g42 ∧ ((v41 = 1 ∧ ∃ k, Pk (EP x0_lines.toNatClampNeg x0_line x0_changes x0_coins x0_left g1 g2) (fun u => u / 3 = p2.toNatClampNeg) (fun v => tb z19 v = true) k z30.toNatClampNeg) ∨ (v41 = 0 ∧ ¬ ∃ k, Pk (EP x0_lines.toNatClampNeg x0_line x0_changes x0_coins x0_left g1 g2) (fun u => u / 3 = p2.toNatClampNeg) (fun v => tb z19 v = true) k z30.toNatClampNeg)) := hr
  dsimp only [u2]
  refine Sf.ite (fun h0 => ?_) (fun h0 => ?_)
  · refine go a42 (fun hx => ?_)
    rcases h41 with h41 | h41
    · rw [h0] at h41; exact absurd h41.1 (by decide)
    · exact h41.2 hx.2
  · rcases h41 with h41 | h41
    · exact Sf.inr ⟨b29, c30, a42, h41.2⟩
    · exact absurd h41.1 h0
end
section
theorem tb_setA {s : Int64} {v : Int32} (h : 0 ≤ v ∧ v ≤ 35) (u : Nat) : tb (s ||| ((1 : Int64) <<< (v.toInt64 &&& 63))) u = (tb s u || decide (u = v.toNatClampNeg)) := by
  obtain ⟨ea, hl⟩ := sh_am h
  unfold tb
  rw [Int64.toBitVec_or, Int64.toBitVec_shiftLeft, ea, BitVec.getLsbD_or]
  generalize v.toNatClampNeg = k at hl
  have b1 : (1 : Int64).toBitVec = 1#64 := rfl
  rw [b1, BitVec.shiftLeft_eq']
  have e1 : (BitVec.ofNat 64 k).toNat = k := by
    rw [BitVec.toNat_ofNat]
    omega
  rw [e1, BitVec.getLsbD_shiftLeft, BitVec.getLsbD_one]
  congr 1
  by_cases hk : u = k
  · subst hk
    simp
    omega
  · by_cases hlt : u < k
    · simp [hlt, hk]
    · have : u - k ≠ 0 := by omega
      simp [hlt, hk, this]
theorem T_s125 {n : Nat} {p2 : Int32} {x0_shelf x0_rowSort x0_rowSize : (Nat → Int32)} {x0_rows : (Nat → Nat → Int64)} {x0_moved : (Nat → Int64)} {x0_shown x0_tape : (Nat → Int32)} {x0_tapeSize : Int32} {x0_refused : (Nat → Int32)} {x0_lines : Int32} {x0_line : (Nat → Nat → Int32)} {x0_changes x0_coins : (Nat → Int32)} {x0_goods : Int32} {x0_good : (Nat → Nat → Int32)} {x0_works : Int32} {x0_work : (Nat → Nat → Int32)} {x0_years x0_gone x0_spent x0_at x0_token x0_from : Int32} {x0_figures : Int64} {x0_fault : Int32} {x0_numbers : (Nat → Int32)} {x0_statements : Int32} {x0_left x0_totals g1 : (Nat → Int32)} {g2 z16 : Int32} {z17 : (Nat → Int32)} {z18 : Int32} {z19 : Int64} {z20 : (Nat → Int32)} (hn : 1000000000000 ≤ n) (h_x0_shelf : (AI 0 2 x0_shelf)) (h_x0_rowSize : (AI 0 40 x0_rowSize)) (h_x0_tapeSize : (0 ≤ x0_tapeSize ∧ x0_tapeSize ≤ 250)) (h_x0_lines : (0 ≤ x0_lines ∧ x0_lines ≤ 20)) (h_x0_line : (LnM x0_line)) (h_x0_changes : (AI 0 99 x0_changes)) (h_x0_coins : (AI 0 9 x0_coins)) (h_x0_goods : (0 ≤ x0_goods ∧ x0_goods ≤ 8)) (h_x0_good : (GdM x0_good)) (h_x0_works : (0 ≤ x0_works ∧ x0_works ≤ 7)) (h_x0_work : (WkM x0_work)) (h_x0_years : (1 ≤ x0_years ∧ x0_years ≤ 30)) (h_x0_from : (0 ≤ x0_from ∧ x0_from ≤ 250)) (hg1 : AI 0 1000000000 g1) (hp2 : 0 ≤ p2 ∧ p2 ≤ 11) (hI : (0 ≤ z16 ∧ z16 ≤ 35) ∧ AI 0 22 z17 ∧ (0 ≤ z18 ∧ z18 ≤ 36 ∧ z18.toNatClampNeg ≤ cnt z19) ∧ tb z19 z16.toNatClampNeg = true ∧ AI 0 35 z20 ∧ ∃ k, Pk (EP x0_lines.toNatClampNeg x0_line x0_changes x0_coins x0_left g1 g2) (fun u => u / 3 = p2.toNatClampNeg) (fun v => tb z19 v = true ∧ v ≠ z16.toNatClampNeg) k z16.toNatClampNeg) :
    Sf (fX7_findWay_s125 n p2 x0_shelf x0_rowSort x0_rowSize x0_rows x0_moved x0_shown x0_tape x0_tapeSize x0_refused x0_lines x0_line x0_changes x0_coins x0_goods x0_good x0_works x0_work x0_years x0_gone x0_spent x0_at x0_token x0_from x0_figures x0_fault x0_numbers x0_statements x0_left x0_totals g1 g2 z16 z17 z18 z19 z20) (LQ (u5 (fun (z16 : Int32) (z17 : Nat → Int32) (z18 : Int32) (z19 : Int64) (z20 : Nat → Int32) => (0 ≤ z16 ∧ z16 ≤ 35) ∧ AI 0 22 z17 ∧ (0 ≤ z18 ∧ z18 ≤ 36 ∧ z18.toNatClampNeg ≤ cnt z19) ∧ tb z19 z16.toNatClampNeg = true ∧ AI 0 35 z20 ∧ ∃ k, Pk (EP x0_lines.toNatClampNeg x0_line x0_changes x0_coins x0_left g1 g2) (fun u => u / 3 = p2.toNatClampNeg) (fun v => tb z19 v = true ∧ v ≠ z16.toNatClampNeg) k z16.toNatClampNeg)) (u5 (fun (z16 : Int32) (z17 : Nat → Int32) (z18 : Int32) (z19 : Int64) (z20 : Nat → Int32) => 36 - cnt z19)) (36 - cnt z19) (fun e => AI 0 22 e.1 ∧ (0 ≤ e.2.1 ∧ e.2.1 ≤ 37) ∧ AI 0 35 e.2.2.2)) := by
  unfold fX7_findWay_s125
  obtain ⟨h16, h17, ⟨h18, h18b, h18c⟩, ht, h20, k, hk⟩ := hI
  have h18d : 0 ≤ z18 ∧ z18 ≤ 37 := ⟨h18, Int32.le_trans h18b (by decide)⟩
  refine Sf.ite (fun h => Sf.inr ⟨h17, h18d, h20⟩) (fun h => ?_)
  have dn := dv_n h16
  have hG : ¬ (z16.toNatClampNeg / 3 = p2.toNatClampNeg) := by
    intro hx
    apply h
    rw [← o_of (dv3 h16).1, ← o_of hp2.1, dn, hx]
  obtain ⟨v, j, e, hj⟩ := Pk.step (G := (fun u => u / 3 = p2.toNatClampNeg)) hG k hk
  have hj' : Pk (EP x0_lines.toNatClampNeg x0_line x0_changes x0_coins x0_left g1 g2) (fun u => u / 3 = p2.toNatClampNeg) (fun v => tb z19 v = true) j v := by
    refine Pk.congr (fun x hx => ?_) j v hj
    by_cases hxz : x = z16.toNatClampNeg
    · exact Or.inr hxz
    · exact Or.inl ⟨hx, hxz⟩
  obtain ⟨hv, s, hs, es⟩ := e
  rw [o_of h16.1] at es
  obtain ⟨v26, e26, b26⟩ := sX7_stepTo (x0_shelf := x0_shelf) (x0_rowSort := x0_rowSort) (x0_rows := x0_rows) (x0_moved := x0_moved) (x0_shown := x0_shown) (x0_tape := x0_tape) (x0_refused := x0_refused) (x0_gone := x0_gone) (x0_spent := x0_spent) (x0_at := x0_at) (x0_token := x0_token) (x0_figures := x0_figures) (x0_fault := x0_fault) (x0_numbers := x0_numbers) (x0_statements := x0_statements) (x0_left := x0_left) (x0_tons := g2) (x0_totals := x0_totals) (x0_met := z19) h_x0_shelf h_x0_rowSize h_x0_tapeSize h_x0_lines h_x0_line h_x0_changes h_x0_coins h_x0_goods h_x0_good h_x0_works h_x0_work h_x0_years h_x0_from hg1 h17 h18d h20 h16 (by decide : (0 : Int32) ≤ 0 ∧ (0 : Int32) ≤ 22)
  rw [e26]
  rw [stF_eq] at e26
  refine Sf.someb (fun w26 ew => ?_)
  subst ew
  have st : ∀ (z29 z30 : Int32) (z31 : Nat → Int32), ((0 ≤ z29 ∧ z29.toNatClampNeg ≤ s) ∧ stF x0_line x0_changes x0_coins x0_left g1 g2 z16 z29 = some z30 ∧ AI 0 35 z31) → Sf (fX7_findWay_s146 n p2 x0_shelf x0_rowSort x0_rowSize x0_rows x0_moved x0_shown x0_tape x0_tapeSize x0_refused x0_lines x0_line x0_changes x0_coins x0_goods x0_good x0_works x0_work x0_years x0_gone x0_spent x0_at x0_token x0_from x0_figures x0_fault x0_numbers x0_statements x0_left x0_totals g1 g2 z16 z17 z18 z19 z29 z30 z31) (LQ (u3 (fun (z29 z30 : Int32) (z31 : Nat → Int32) => (0 ≤ z29 ∧ z29.toNatClampNeg ≤ s) ∧ stF x0_line x0_changes x0_coins x0_left g1 g2 z16 z29 = some z30 ∧ AI 0 35 z31)) (u3 (fun (z29 z30 : Int32) (z31 : Nat → Int32) => muUp z29)) (muUp z29) (fun e => (0 ≤ e.1 ∧ e.1 ≤ 22) ∧ (0 ≤ e.2.1 ∧ e.2.1 ≤ 35) ∧ AI 0 35 e.2.2 ∧ ∃ k, Pk (EP x0_lines.toNatClampNeg x0_line x0_changes x0_coins x0_left g1 g2) (fun u => u / 3 = p2.toNatClampNeg) (fun v => tb z19 v = true) k e.2.1.toNatClampNeg)) := fun z29 z30 z31 hh => T_s146 (sS := s) (kS := j) (vS := v) hn h_x0_shelf h_x0_rowSize h_x0_tapeSize h_x0_lines h_x0_line h_x0_changes h_x0_coins h_x0_goods h_x0_good h_x0_works h_x0_work h_x0_years h_x0_from hg1 h17 h18d hp2 h16 hs hv es hj' hh
  have init : (0 ≤ (0 : Int32) ∧ (0 : Int32).toNatClampNeg ≤ s) ∧ stF x0_line x0_changes x0_coins x0_left g1 g2 z16 0 = some w26 ∧ AI 0 35 z20 := ⟨⟨Int32.le_refl _, Nat.zero_le _⟩, e26, h20⟩
  have lo : Sf (lp (u3 (fX7_findWay_s146 n p2 x0_shelf x0_rowSort x0_rowSize x0_rows x0_moved x0_shown x0_tape x0_tapeSize x0_refused x0_lines x0_line x0_changes x0_coins x0_goods x0_good x0_works x0_work x0_years x0_gone x0_spent x0_at x0_token x0_from x0_figures x0_fault x0_numbers x0_statements x0_left x0_totals g1 g2 z16 z17 z18 z19)) n (0, w26, z20)) (fun e => (0 ≤ e.1 ∧ e.1 ≤ 22) ∧ (0 ≤ e.2.1 ∧ e.2.1 ≤ 35) ∧ AI 0 35 e.2.2 ∧ ∃ k, Pk (EP x0_lines.toNatClampNeg x0_line x0_changes x0_coins x0_left g1 g2) (fun u => u / 3 = p2.toNatClampNeg) (fun v => tb z19 v = true) k e.2.1.toNatClampNeg) := Sf.loop3 _ _ st init (muUp_n hn)
  refine Sf.bind lo ?_
  rintro ⟨w33, w34, w35⟩ hr
  obtain ⟨b33, b34, a35, k2, hk2⟩ : (0 ≤ w33 ∧ w33 ≤ 22) ∧ (0 ≤ w34 ∧ w34 ≤ 35) ∧ AI 0 35 w35 ∧ ∃ k, Pk (EP x0_lines.toNatClampNeg x0_line x0_changes x0_coins x0_left g1 g2) (fun u => u / 3 = p2.toNatClampNeg) (fun v => tb z19 v = true) k w34.toNatClampNeg := hr
  dsimp only [u3]
  have nb : tb z19 w34.toNatClampNeg = false := by
    have := Pk.nm hk2
    simpa using this
  have c1 := cnt_set b34 nb
  have c2 := cnt_le (z19 ||| ((1 : Int64) <<< (w34.toInt64 &&& 63)))
  refine Sf.wrI 37 rfl h17 ⟨h18, Int32.lt_of_le_of_lt h18b (by decide)⟩ b33 (fun f36 a36 e36 => ?_)
  refine Sf.someb (fun t37 e37 => ?_)
  subst e37
  obtain ⟨p18, n18, _⟩ := up1 (B := 100) h18 (by decide) (by grind)
  refine Sf.inl ⟨b34, a36, ⟨p18, ?_, ?_⟩, ?_, a35, k2, ?_⟩ ?_
  · show z18 + 1 ≤ 36
    have a := i32_cl p18
    have z36 : (36 : Int32).toInt = 36 := by decide
    exact Int32.le_iff_toInt_le.mpr (by rw [z36]; omega)
  · show (z18 + 1).toNatClampNeg ≤ cnt (z19 ||| ((1 : Int64) <<< (w34.toInt64 &&& 63)))
    omega
  · show tb (z19 ||| ((1 : Int64) <<< (w34.toInt64 &&& 63))) w34.toNatClampNeg = true
    rw [tb_setA b34]
    simp
  · show Pk (EP x0_lines.toNatClampNeg x0_line x0_changes x0_coins x0_left g1 g2) (fun u => u / 3 = p2.toNatClampNeg) (fun v => tb (z19 ||| ((1 : Int64) <<< (w34.toInt64 &&& 63))) v = true ∧ v ≠ w34.toNatClampNeg) k2 w34.toNatClampNeg
    refine Pk.congr (fun x hx => ?_) k2 _ hk2
    obtain ⟨hx1, hx2⟩ := hx
    rw [tb_setA b34] at hx1
    simpa [hx2] using hx1
  · show 36 - cnt (z19 ||| ((1 : Int64) <<< (w34.toInt64 &&& 63))) < 36 - cnt z19
    omega
end
section
theorem T_s38 {n : Nat} {p1 p2 : Int32} {x0_shelf x0_rowSort x0_rowSize : (Nat → Int32)} {x0_rows : (Nat → Nat → Int64)} {x0_moved : (Nat → Int64)} {x0_shown x0_tape : (Nat → Int32)} {x0_tapeSize : Int32} {x0_refused : (Nat → Int32)} {x0_lines : Int32} {x0_line : (Nat → Nat → Int32)} {x0_changes x0_coins : (Nat → Int32)} {x0_goods : Int32} {x0_good : (Nat → Nat → Int32)} {x0_works : Int32} {x0_work : (Nat → Nat → Int32)} {x0_years x0_gone x0_spent x0_at x0_token x0_from : Int32} {x0_figures : Int64} {x0_fault : Int32} {x0_numbers : (Nat → Int32)} {x0_statements : Int32} {x0_left x0_way x0_totals g1 : (Nat → Int32)} {g2 v4 z7 z8 : Int32} {z9 : (Nat → Int32)} (hn : 1000000000000 ≤ n) (h_x0_shelf : (AI 0 2 x0_shelf)) (h_x0_rowSize : (AI 0 40 x0_rowSize)) (h_x0_tapeSize : (0 ≤ x0_tapeSize ∧ x0_tapeSize ≤ 250)) (h_x0_lines : (0 ≤ x0_lines ∧ x0_lines ≤ 20)) (h_x0_line : (LnM x0_line)) (h_x0_changes : (AI 0 99 x0_changes)) (h_x0_coins : (AI 0 9 x0_coins)) (h_x0_goods : (0 ≤ x0_goods ∧ x0_goods ≤ 8)) (h_x0_good : (GdM x0_good)) (h_x0_works : (0 ≤ x0_works ∧ x0_works ≤ 7)) (h_x0_work : (WkM x0_work)) (h_x0_years : (1 ≤ x0_years ∧ x0_years ≤ 30)) (h_x0_from : (0 ≤ x0_from ∧ x0_from ≤ 250)) (hg1 : AI 0 1000000000 g1) (hw : AI 0 22 x0_way) (hp1 : 0 ≤ p1 ∧ p1 ≤ 11) (hp2 : 0 ≤ p2 ∧ p2 ≤ 11) (hv4 : v4 < 1000000000) (hway : ∀ u, u < 36 → (g1 u).toInt < 1000000000 → ∃ j, Pk (EP x0_lines.toNatClampNeg x0_line x0_changes x0_coins x0_left g1 g2) (fun u => u / 3 = p2.toNatClampNeg) (fun v => tb 0 v = true) j u) (hI : ((-1) ≤ z8 ∧ z8 ≤ 2) ∧ AI 0 35 z9 ∧ ((∃ w : Nat, w < 3 ∧ (w : Int) ≤ (z8).toInt ∧ g1 (3 * p1.toNatClampNeg + w) = v4) ∨ ((0 ≤ z7 ∧ z7 ≤ 35) ∧ ∃ k, Pk (EP x0_lines.toNatClampNeg x0_line x0_changes x0_coins x0_left g1 g2) (fun u => u / 3 = p2.toNatClampNeg) (fun v => tb 0 v = true) k (z7).toNatClampNeg))) :
    Sf (fX7_findWay_s38 n p1 p2 x0_shelf x0_rowSort x0_rowSize x0_rows x0_moved x0_shown x0_tape x0_tapeSize x0_refused x0_lines x0_line x0_changes x0_coins x0_goods x0_good x0_works x0_work x0_years x0_gone x0_spent x0_at x0_token x0_from x0_figures x0_fault x0_numbers x0_statements x0_left x0_way x0_totals g1 g2 v4 z7 z8 z9) (LQ (fun (e : Int32 × Int32 × (Nat → Int32)) => ((-1) ≤ e.2.1 ∧ e.2.1 ≤ 2) ∧ AI 0 35 e.2.2 ∧ ((∃ w : Nat, w < 3 ∧ (w : Int) ≤ (e.2.1).toInt ∧ g1 (3 * p1.toNatClampNeg + w) = v4) ∨ ((0 ≤ e.1 ∧ e.1 ≤ 35) ∧ ∃ k, Pk (EP x0_lines.toNatClampNeg x0_line x0_changes x0_coins x0_left g1 g2) (fun u => u / 3 = p2.toNatClampNeg) (fun v => tb 0 v = true) k (e.1).toNatClampNeg))) (fun (e : Int32 × Int32 × (Nat → Int32)) => muDe e.2.1) (muDe z8) (fun e => AI 0 35 e.2 ∧ (0 ≤ e.1 ∧ e.1 ≤ 35) ∧ ∃ k, Pk (EP x0_lines.toNatClampNeg x0_line x0_changes x0_coins x0_left g1 g2) (fun u => u / 3 = p2.toNatClampNeg) (fun v => tb 0 v = true) k e.1.toNatClampNeg)) := by
  unfold fX7_findWay_s38
  obtain ⟨h8, h9, hd⟩ := hI
  refine Sf.ite (fun h => ?_) (fun h => ?_)
  · rcases hd with ⟨w, _, hl, _⟩ | hd
    · have a := Int32.lt_iff_toInt_lt.mp h
      have z0 : (0 : Int32).toInt = 0 := by decide
      rw [z0] at a
      omega
    · exact Sf.inr ⟨h9, hd.1, hd.2⟩
  have h80 : 0 ≤ z8 := Int32.not_lt.mp h
  have h83 : 0 ≤ z8 ∧ z8 < 3 := by grind
  obtain ⟨ix, nx⟩ := ix3 hp1 h83
  have lw : z8.toNatClampNeg < 3 := i32_lt (M := 3) rfl h83
  have lp1 := p_of hp1
  have nb : 0 ≤ 3 * p1 + z8 ∧ 3 * p1 + z8 ≤ 35 := by
    generalize 3 * p1 + z8 = y at ix
    grind
  have m8 : (-1) ≤ z8 + (-1) ∧ z8 + (-1) ≤ 2 := by grind
  have e8 : (z8 + (-1)).toInt = z8.toInt - 1 := by
    have a := i32_nn h80
    have zm : (-1 : Int32).toInt = -1 := by decide
    have b : z8.toInt < 2147483648 := Int32.toInt_lt z8
    rw [i32_add (by omega) (by omega), zm]
    omega
  have sk : g1 (3 * p1.toNatClampNeg + z8.toNatClampNeg) ≠ v4 → (∃ w : Nat, w < 3 ∧ (w : Int) ≤ z8.toInt ∧ g1 (3 * p1.toNatClampNeg + w) = v4) → (∃ w : Nat, w < 3 ∧ (w : Int) ≤ (z8 + (-1)).toInt ∧ g1 (3 * p1.toNatClampNeg + w) = v4) := by
    rintro hne ⟨w, h1, h2, h3⟩
    refine ⟨w, h1, ?_, h3⟩
    rw [e8]
    have a := i32_cl h80
    by_cases hx : w = z8.toNatClampNeg
    · subst hx; exact absurd h3 hne
    · omega
  refine Sf.rdb 36 rfl ix (fun v44 e44 => ?_)
  rw [nx] at e44
  refine Sf.ite (fun hq => ?_) (fun hq => ?_)
  · refine Sf.bind (sX7_canEnd hn h_x0_shelf h_x0_rowSize h_x0_tapeSize h_x0_lines h_x0_line h_x0_changes h_x0_coins h_x0_goods h_x0_good h_x0_works h_x0_work h_x0_years h_x0_from hg1 hw (by decide : (0 : Int32) ≤ 0 ∧ (0 : Int32) ≤ 37) h9 nb hp2) ?_
    rintro ⟨v45, g46⟩ hr
    obtain ⟨_, a46, h45⟩ : (0 ≤ v45 ∧ v45 ≤ 1) ∧ AI 0 35 g46 ∧ ((v45 = 1 ∧ ∃ k, Pk (EP x0_lines.toNatClampNeg x0_line x0_changes x0_coins x0_left g1 g2) (fun u => u / 3 = p2.toNatClampNeg) (fun v => tb 0 v = true) k (3 * p1 + z8).toNatClampNeg) ∨ (v45 = 0 ∧ ¬ ∃ k, Pk (EP x0_lines.toNatClampNeg x0_line x0_changes x0_coins x0_left g1 g2) (fun u => u / 3 = p2.toNatClampNeg) (fun v => tb 0 v = true) k (3 * p1 + z8).toNatClampNeg)) := hr
    have hp : ∃ k, Pk (EP x0_lines.toNatClampNeg x0_line x0_changes x0_coins x0_left g1 g2) (fun u => u / 3 = p2.toNatClampNeg) (fun v => tb 0 v = true) k (3 * p1 + z8).toNatClampNeg := by
      rw [nx]
      refine hway _ (by omega) ?_
      rw [← e44, hq]
      have := Int32.lt_iff_toInt_lt.mp hv4
      have zF : (1000000000 : Int32).toInt = 1000000000 := by decide
      rw [zF] at this
      exact this
    rcases h45 with h45 | h45
    · have n0 : ¬ v45 = 0 := by rw [h45.1]; decide
      exact Sf.ite (fun h0 => absurd h0 n0) (fun _ => Sf.inl ⟨m8, a46, Or.inr ⟨nb, hp⟩⟩ (muDe_lta h))
    · exact absurd hp h45.2
  · refine Sf.inl ⟨m8, h9, ?_⟩ (muDe_lta h)
    rcases hd with hd | hd
    · exact Or.inl (sk (fun hx => hq (e44.trans hx)) hd)
    · exact Or.inr hd
theorem sX7_findWay {n : Nat} {x0_shelf x0_rowSort x0_rowSize : (Nat → Int32)} {x0_rows : (Nat → Nat → Int64)} {x0_moved : (Nat → Int64)} {x0_shown x0_tape : (Nat → Int32)} {x0_tapeSize : Int32} {x0_refused : (Nat → Int32)} {x0_lines : Int32} {x0_line : (Nat → Nat → Int32)} {x0_changes x0_coins : (Nat → Int32)} {x0_goods : Int32} {x0_good : (Nat → Nat → Int32)} {x0_works : Int32} {x0_work : (Nat → Nat → Int32)} {x0_years x0_gone x0_spent x0_at x0_token x0_from : Int32} {x0_figures : Int64} {x0_fault : Int32} {x0_numbers : (Nat → Int32)} {x0_statements : Int32} {x0_left x0_far : (Nat → Int32)} {x0_tons : Int32} {x0_way : (Nat → Int32)} {x0_steps : Int32} {x0_met : Int64} {x0_queue x0_totals : (Nat → Int32)} {p1 p2 p3 : Int32} (hn : 1000000000000 ≤ n) (h_x0_shelf : (AI 0 2 x0_shelf)) (h_x0_rowSize : (AI 0 40 x0_rowSize)) (h_x0_tapeSize : (0 ≤ x0_tapeSize ∧ x0_tapeSize ≤ 250)) (h_x0_lines : (0 ≤ x0_lines ∧ x0_lines ≤ 20)) (h_x0_line : (LnM x0_line)) (h_x0_changes : (AI 0 99 x0_changes)) (h_x0_coins : (AI 0 9 x0_coins)) (h_x0_goods : (0 ≤ x0_goods ∧ x0_goods ≤ 8)) (h_x0_good : (GdM x0_good)) (h_x0_works : (0 ≤ x0_works ∧ x0_works ≤ 7)) (h_x0_work : (WkM x0_work)) (h_x0_years : (1 ≤ x0_years ∧ x0_years ≤ 30)) (h_x0_from : (0 ≤ x0_from ∧ x0_from ≤ 250)) (h_x0_far : (AI 0 1000000000 x0_far)) (h_x0_way : (AI 0 22 x0_way)) (h_x0_steps : (0 ≤ x0_steps ∧ x0_steps ≤ 37)) (h_x0_queue : (AI 0 35 x0_queue)) (h_p1 : (0 ≤ p1 ∧ p1 ≤ 11)) (h_p2 : (0 ≤ p2 ∧ p2 ≤ 11)) : Sf (fX7_findWay n (x0_shelf, x0_rowSort, x0_rowSize, x0_rows, x0_moved, x0_shown, x0_tape, x0_tapeSize, x0_refused, x0_lines, x0_line, x0_changes, x0_coins, x0_goods, x0_good, x0_works, x0_work, x0_years, x0_gone, x0_spent, x0_at, x0_token, x0_from, x0_figures, x0_fault, x0_numbers, x0_statements, x0_left, x0_far, x0_tons, x0_way, x0_steps, x0_met, x0_queue, x0_totals) p1 p2 p3) (fun r => (0 ≤ r.1 ∧ r.1 ≤ 1) ∧ (AI 0 1000000000 r.2.1) ∧ (AI 0 22 r.2.2.2.1) ∧ (0 ≤ r.2.2.2.2.1 ∧ r.2.2.2.2.1 ≤ 37) ∧ (AI 0 35 r.2.2.2.2.2.2)) := by
  unfold fX7_findWay
  dsimp only [u35]
  refine Sf.bind (farS hn h_x0_shelf h_x0_rowSize h_x0_tapeSize h_x0_lines h_x0_line h_x0_changes h_x0_coins h_x0_goods h_x0_good h_x0_works h_x0_work h_x0_years h_x0_from h_x0_far h_x0_way h_x0_steps h_x0_queue h_p2) ?_
  rintro ⟨g1, g2⟩ hr
  obtain ⟨a1, hAt, ⟨hO, hC⟩, eg⟩ : AI 0 1000000000 g1 ∧ At (Ed x0_lines.toNatClampNeg x0_line x0_changes x0_coins x0_left p3) (fun u => u / 3 = p2.toNatClampNeg) g1 ∧ ((∀ l : Nat, l < x0_lines.toNatClampNeg → ∀ w : Nat, w < 3 → OKl x0_line x0_coins x0_left p3 g1 l w) ∧ (∀ m : Nat, m < 36 → ∀ w : Nat, w < 3 → OKc x0_changes g1 m w)) ∧ g2 = p3 := hr
  subst eg
  dsimp only [u2]
  refine Sf.bind (s_least hn h_p1 a1) (fun v4 h4 => ?_)
  have b2 : AI 0 22 x0_way := h_x0_way
  refine Sf.ite (fun hlt => ?_) (fun hlt => Sf.ok ⟨(by decide : (0 : Int32) ≤ 0 ∧ (0 : Int32) ≤ 1), a1, h_x0_way, (by decide : (0 : Int32) ≤ 0 ∧ (0 : Int32) ≤ 37), h_x0_queue⟩)
  have lL : x0_lines.toNatClampNeg ≤ 20 := by
    have a := i32_cl h_x0_lines.1
    have b := Int32.le_iff_toInt_le.mp h_x0_lines.2
    have z20 : (20 : Int32).toInt = 20 := by decide
    rw [z20] at b
    omega
  have hway : ∀ u, u < 36 → (g1 u).toInt < 1000000000 → ∃ j, Pk (EP x0_lines.toNatClampNeg x0_line x0_changes x0_coins x0_left g1 g2) (fun u => u / 3 = p2.toNatClampNeg) (fun v => tb 0 v = true) j u := by
    intro u hu hf
    obtain ⟨j, hj⟩ := far_way lL h_x0_line h_x0_changes h_x0_coins a1 hAt hO hC hu hf
    refine ⟨j, Pk.congr (fun x hx => ?_) j u hj⟩
    rw [tb_zero] at hx
    cases hx
  have zF : (1000000000 : Int32).toInt = 1000000000 := by decide
  have ini : ((-1) ≤ (2 : Int32) ∧ (2 : Int32) ≤ 2) ∧ AI 0 35 x0_queue ∧ ((∃ w : Nat, w < 3 ∧ (w : Int) ≤ ((2 : Int32)).toInt ∧ g1 (3 * p1.toNatClampNeg + w) = v4) ∨ ((0 ≤ (-1 : Int32) ∧ (-1 : Int32) ≤ 35) ∧ ∃ k, Pk (EP x0_lines.toNatClampNeg x0_line x0_changes x0_coins x0_left g1 g2) (fun u => u / 3 = p2.toNatClampNeg) (fun v => tb 0 v = true) k ((-1 : Int32)).toNatClampNeg)) := by
    refine ⟨by decide, h_x0_queue, Or.inl ?_⟩
    rcases h4.2 with h | ⟨w, h1, h2⟩
    · rw [h] at hlt; exact absurd hlt (by decide)
    · have z2 : (2 : Int32).toInt = 2 := by decide
      exact ⟨w, h1, by rw [z2]; omega, h2⟩
  have st : ∀ (e : Int32 × Int32 × (Nat → Int32)), (((-1) ≤ e.2.1 ∧ e.2.1 ≤ 2) ∧ AI 0 35 e.2.2 ∧ ((∃ w : Nat, w < 3 ∧ (w : Int) ≤ (e.2.1).toInt ∧ g1 (3 * p1.toNatClampNeg + w) = v4) ∨ ((0 ≤ e.1 ∧ e.1 ≤ 35) ∧ ∃ k, Pk (EP x0_lines.toNatClampNeg x0_line x0_changes x0_coins x0_left g1 g2) (fun u => u / 3 = p2.toNatClampNeg) (fun v => tb 0 v = true) k (e.1).toNatClampNeg))) → Sf (u3 (fX7_findWay_s38 n p1 p2 x0_shelf x0_rowSort x0_rowSize x0_rows x0_moved x0_shown x0_tape x0_tapeSize x0_refused x0_lines x0_line x0_changes x0_coins x0_goods x0_good x0_works x0_work x0_years x0_gone x0_spent x0_at x0_token x0_from x0_figures x0_fault x0_numbers x0_statements x0_left x0_way x0_totals g1 g2 v4) e) (LQ (fun (e : Int32 × Int32 × (Nat → Int32)) => ((-1) ≤ e.2.1 ∧ e.2.1 ≤ 2) ∧ AI 0 35 e.2.2 ∧ ((∃ w : Nat, w < 3 ∧ (w : Int) ≤ (e.2.1).toInt ∧ g1 (3 * p1.toNatClampNeg + w) = v4) ∨ ((0 ≤ e.1 ∧ e.1 ≤ 35) ∧ ∃ k, Pk (EP x0_lines.toNatClampNeg x0_line x0_changes x0_coins x0_left g1 g2) (fun u => u / 3 = p2.toNatClampNeg) (fun v => tb 0 v = true) k (e.1).toNatClampNeg))) (fun (e : Int32 × Int32 × (Nat → Int32)) => muDe e.2.1) (muDe e.2.1) (fun e => AI 0 35 e.2 ∧ (0 ≤ e.1 ∧ e.1 ≤ 35) ∧ ∃ k, Pk (EP x0_lines.toNatClampNeg x0_line x0_changes x0_coins x0_left g1 g2) (fun u => u / 3 = p2.toNatClampNeg) (fun v => tb 0 v = true) k e.1.toNatClampNeg)) := fun e h => by
    rw [u3_def]
    exact T_s38 hn h_x0_shelf h_x0_rowSize h_x0_tapeSize h_x0_lines h_x0_line h_x0_changes h_x0_coins h_x0_goods h_x0_good h_x0_works h_x0_work h_x0_years h_x0_from a1 h_x0_way h_p1 h_p2 hlt hway h
  have lo : Sf (lp (u3 (fX7_findWay_s38 n p1 p2 x0_shelf x0_rowSort x0_rowSize x0_rows x0_moved x0_shown x0_tape x0_tapeSize x0_refused x0_lines x0_line x0_changes x0_coins x0_goods x0_good x0_works x0_work x0_years x0_gone x0_spent x0_at x0_token x0_from x0_figures x0_fault x0_numbers x0_statements x0_left x0_way x0_totals g1 g2 v4)) n ((-1), 2, x0_queue)) (fun e => AI 0 35 e.2 ∧ (0 ≤ e.1 ∧ e.1 ≤ 35) ∧ ∃ k, Pk (EP x0_lines.toNatClampNeg x0_line x0_changes x0_coins x0_left g1 g2) (fun u => u / 3 = p2.toNatClampNeg) (fun v => tb 0 v = true) k e.1.toNatClampNeg) := Sf.loop _ _ st n _ ini (muDe_n hn)
  refine Sf.bind lo ?_
  rintro ⟨w11, w12⟩ hr
  obtain ⟨a12, b11, k, hk⟩ : AI 0 35 w12 ∧ (0 ≤ w11 ∧ w11 ≤ 35) ∧ ∃ k, Pk (EP x0_lines.toNatClampNeg x0_line x0_changes x0_coins x0_left g1 g2) (fun u => u / 3 = p2.toNatClampNeg) (fun v => tb 0 v = true) k w11.toNatClampNeg := hr
  dsimp only [u2]
  have m11 := md3 b11
  have d11 : 0 ≤ w11 - w11 / 3 * 3 ∧ w11 - w11 / 3 * 3 ≤ 22 := by
    generalize w11 - w11 / 3 * 3 = y at m11
    grind
  refine Sf.wrI 37 rfl h_x0_way (by decide) d11 (fun f13 a13 e13 => ?_)
  refine Sf.someb (fun t14 e14 => ?_)
  have t0 : tb 0 w11.toNatClampNeg = false := tb_zero _
  have c1 := cnt_set (s := 0) b11 t0
  have ini2 : (0 ≤ w11 ∧ w11 ≤ 35) ∧ AI 0 22 f13 ∧ (0 ≤ (0 + 1 : Int32) ∧ (0 + 1 : Int32) ≤ 36 ∧ (0 + 1 : Int32).toNatClampNeg ≤ cnt t14) ∧ tb t14 w11.toNatClampNeg = true ∧ AI 0 35 w12 ∧ ∃ k, Pk (EP x0_lines.toNatClampNeg x0_line x0_changes x0_coins x0_left g1 g2) (fun u => u / 3 = p2.toNatClampNeg) (fun v => tb t14 v = true ∧ v ≠ w11.toNatClampNeg) k w11.toNatClampNeg := by
    subst e14
    refine ⟨b11, a13, ⟨by decide, by decide, ?_⟩, ?_, a12, k, ?_⟩
    · have : (0 + 1 : Int32).toNatClampNeg = 1 := rfl
      rw [this]
      omega
    · rw [tb_setA b11]; simp
    · refine Pk.congr (fun x hx => ?_) k _ hk
      obtain ⟨h1, h2⟩ := hx
      rw [tb_setA b11] at h1
      simpa [h2] using h1
  have st2 : ∀ (z16 : Int32) (z17 : Nat → Int32) (z18 : Int32) (z19 : Int64) (z20 : Nat → Int32), ((0 ≤ z16 ∧ z16 ≤ 35) ∧ AI 0 22 z17 ∧ (0 ≤ z18 ∧ z18 ≤ 36 ∧ z18.toNatClampNeg ≤ cnt z19) ∧ tb z19 z16.toNatClampNeg = true ∧ AI 0 35 z20 ∧ ∃ k, Pk (EP x0_lines.toNatClampNeg x0_line x0_changes x0_coins x0_left g1 g2) (fun u => u / 3 = p2.toNatClampNeg) (fun v => tb z19 v = true ∧ v ≠ z16.toNatClampNeg) k z16.toNatClampNeg) → Sf (fX7_findWay_s125 n p2 x0_shelf x0_rowSort x0_rowSize x0_rows x0_moved x0_shown x0_tape x0_tapeSize x0_refused x0_lines x0_line x0_changes x0_coins x0_goods x0_good x0_works x0_work x0_years x0_gone x0_spent x0_at x0_token x0_from x0_figures x0_fault x0_numbers x0_statements x0_left x0_totals g1 g2 z16 z17 z18 z19 z20) (LQ (u5 (fun (z16 : Int32) (z17 : Nat → Int32) (z18 : Int32) (z19 : Int64) (z20 : Nat → Int32) => (0 ≤ z16 ∧ z16 ≤ 35) ∧ AI 0 22 z17 ∧ (0 ≤ z18 ∧ z18 ≤ 36 ∧ z18.toNatClampNeg ≤ cnt z19) ∧ tb z19 z16.toNatClampNeg = true ∧ AI 0 35 z20 ∧ ∃ k, Pk (EP x0_lines.toNatClampNeg x0_line x0_changes x0_coins x0_left g1 g2) (fun u => u / 3 = p2.toNatClampNeg) (fun v => tb z19 v = true ∧ v ≠ z16.toNatClampNeg) k z16.toNatClampNeg)) (u5 (fun (z16 : Int32) (z17 : Nat → Int32) (z18 : Int32) (z19 : Int64) (z20 : Nat → Int32) => 36 - cnt z19)) (36 - cnt z19) (fun e => AI 0 22 e.1 ∧ (0 ≤ e.2.1 ∧ e.2.1 ≤ 37) ∧ AI 0 35 e.2.2.2)) := fun z16 z17 z18 z19 z20 h => T_s125 hn h_x0_shelf h_x0_rowSize h_x0_tapeSize h_x0_lines h_x0_line h_x0_changes h_x0_coins h_x0_goods h_x0_good h_x0_works h_x0_work h_x0_years h_x0_from a1 h_p2 h
  have lo2 : Sf (lp (u5 (fX7_findWay_s125 n p2 x0_shelf x0_rowSort x0_rowSize x0_rows x0_moved x0_shown x0_tape x0_tapeSize x0_refused x0_lines x0_line x0_changes x0_coins x0_goods x0_good x0_works x0_work x0_years x0_gone x0_spent x0_at x0_token x0_from x0_figures x0_fault x0_numbers x0_statements x0_left x0_totals g1 g2)) n (w11, f13, 0 + 1, t14, w12)) (fun e => AI 0 22 e.1 ∧ (0 ≤ e.2.1 ∧ e.2.1 ≤ 37) ∧ AI 0 35 e.2.2.2) := Sf.loop5 _ _ st2 ini2 (show 36 - cnt t14 < n by omega)
  refine Sf.bind lo2 ?_
  rintro ⟨w22, w23, w24, w25⟩ hr
  obtain ⟨a22, b23, a25⟩ : AI 0 22 w22 ∧ (0 ≤ w23 ∧ w23 ≤ 37) ∧ AI 0 35 w25 := hr
  exact Sf.ok ⟨(by decide : (0 : Int32) ≤ 1 ∧ (1 : Int32) ≤ 1), a1, a22, b23, a25⟩
end

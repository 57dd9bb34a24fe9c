/-! freeWith: FREE with a set of works done, and what is kept of it -/
theorem tq_and (a b : Int32) (u : Nat) : tq (a &&& b) u = (tq a u && tq b u) := by
  unfold tq
  rw [Int32.toBitVec_and, BitVec.getLsbD_and]
theorem tq_or (a b : Int32) (u : Nat) : tq (a ||| b) u = (tq a u || tq b u) := by
  unfold tq
  rw [Int32.toBitVec_or, BitVec.getLsbD_or]
theorem tq_not (a : Int32) {u : Nat} (hu : u < 32) : tq (a ^^^ (-1)) u = !tq a u := by
  have key : ∀ i : Fin 32, (-1 : Int32).toBitVec.getLsbD i.1 = true := by decide +kernel
  have k := key ⟨u, hu⟩
  unfold tq
  rw [Int32.toBitVec_xor, BitVec.getLsbD_xor, k]
  cases a.toBitVec.getLsbD u <;> rfl
theorem tq_shl {k : Nat} (h : k < 31) (u : Nat) (hu : u < 31) : tq ((1 : Int32) <<< (Int32.ofNat k &&& 31)) u = decide (u = k) := by
  have e := tq_set (s := 0) h u hu
  rw [tq_or, tq_zero, Bool.false_or, Bool.false_or] at e
  exact e
theorem bit_at {s z : Int32} (hz : 0 ≤ z ∧ z ≤ 30) : ((s >>> (z &&& 31)) &&& 1) = 0 ↔ tq s z.toNatClampNeg = false := by
  have e : Int32.ofNat z.toNatClampNeg = z := Int32.ofNat_toNatClampNeg z hz.1
  have l : z.toNatClampNeg < 31 := i32_lt (M := 31) rfl ⟨hz.1, Int32.lt_of_le_of_lt hz.2 (by decide)⟩
  have q := tq_get (s := s) l
  rw [e] at q
  exact q
theorem isDoneS {x0_lineCount : Int32} {x0_goodsCount : Int32} {x0_workCount : Int32} {x0_years : Int32} {x0_lines : (Nat → Int32)} {x0_goods : (Nat → Int32)} {x0_works : (Nat → Int32)} {x0_change : (Nat → Int32)} {x0_coin : (Nat → Int32)} {x0_knownFree : (Nat → Int32)} {x0_isKnown : Int32} {z : Int32} (h : WkOk x0_works) (hz : 0 ≤ z ∧ z ≤ 6) : Sf (fX1_isDone (x0_lineCount, x0_goodsCount, x0_workCount, x0_years, x0_lines, x0_goods, x0_works, x0_change, x0_coin, x0_knownFree, x0_isKnown) z) (fun r => r = if ro 5 x0_works z.toNatClampNeg 4 = 0 then 0 else 1) := by
  unfold fX1_isDone
  dsimp only [u11]
  refine Sf.bind (ofWorkV h hz (by decide)) (fun v1 e1 => ?_)
  have e1 : v1 = ro 5 x0_works z.toNatClampNeg 4 := e1
  rw [← e1]
  exact Sf.ite (fun hc => Sf.ok (by rw [if_pos hc])) (fun hc => Sf.ok (by rw [if_neg hc]))
theorem doneS {n : Nat} {x0_lineCount : Int32} {x0_goodsCount : Int32} {x0_workCount : Int32} {x0_years : Int32} {x0_lines : (Nat → Int32)} {x0_goods : (Nat → Int32)} {x0_works : (Nat → Int32)} {x0_change : (Nat → Int32)} {x0_coin : (Nat → Int32)} {x0_knownFree : (Nat → Int32)} {x0_isKnown : Int32} (hn : 1000000000000 ≤ n) (h : WkOk x0_works) (hw : 0 ≤ x0_workCount ∧ x0_workCount ≤ 7) : Sf (fX1_doneWorks n (x0_lineCount, x0_goodsCount, x0_workCount, x0_years, x0_lines, x0_goods, x0_works, x0_change, x0_coin, x0_knownFree, x0_isKnown)) (fun r => ∀ k, k < 31 → (tq r k = true ↔ (k < x0_workCount.toNatClampNeg ∧ ro 5 x0_works k 4 ≠ 0))) := by
  unfold fX1_doneWorks
  dsimp only [u11]
  refine Sf.bind (P := fun r => ∀ k, k < 31 → (tq r k = true ↔ (k < x0_workCount.toNatClampNeg ∧ ro 5 x0_works k 4 ≠ 0))) ?_ (fun r h => Sf.ok h)
  refine Sf.loop2 (fun (z2 z3 : Int32) => (0 ≤ z3 ∧ z3 ≤ x0_workCount) ∧ ∀ k, k < 31 → (tq z2 k = true ↔ (k < z3.toNatClampNeg ∧ ro 5 x0_works k 4 ≠ 0))) (fun z2 z3 => muUp z3) (fun z2 z3 h => ?_) ⟨⟨Int32.le_refl 0, hw.1⟩, fun l hl => ?_⟩ (muUp_n hn)
  · obtain ⟨h0, h1⟩ := h
    unfold fX1_doneWorks_s4
    refine Sf.ite (fun hc => ?_) (fun hc => ?_)
    · have ez : z3 = x0_workCount := Int32.le_antisymm h0.2 hc
      rw [ez] at h1
      exact Sf.inr h1
    · obtain ⟨p0, p1, p3⟩ := up1 h0.1 (Int32.le_trans hw.2 (by decide)) hc
      have hz6 : 0 ≤ z3 ∧ z3 ≤ 6 := ⟨h0.1, by clear h1 h; grind⟩
      have hz1 : z3 + 1 ≤ x0_workCount := by clear h1 h; grind
      have n7 : z3.toNatClampNeg < 7 := i32_lt (M := 7) rfl ⟨h0.1, Int32.lt_of_lt_of_le p3 hw.2⟩
      have ez3 : Int32.ofNat z3.toNatClampNeg = z3 := Int32.ofNat_toNatClampNeg z3 h0.1
      refine Sf.bind (isDoneS h hz6) (fun v6 e6 => ?_)
      refine Sf.ite (fun hv => ?_) (fun hv => ?_)
      · have hd : ro 5 x0_works z3.toNatClampNeg 4 = 0 := by
          refine Classical.byContradiction fun hn' => ?_
          rw [if_neg hn'] at e6
          rw [e6] at hv
          exact absurd hv (by decide)
        refine Sf.inl (show (0 ≤ z3 + 1 ∧ z3 + 1 ≤ x0_workCount) ∧ ∀ k, k < 31 → (tq z2 k = true ↔ (k < (z3 + 1).toNatClampNeg ∧ ro 5 x0_works k 4 ≠ 0)) from ⟨⟨p0, hz1⟩, fun k hk => ?_⟩) (muUp_lt hc)
        rw [h1 k hk, p1]
        constructor
        · rintro ⟨a, b⟩
          exact ⟨by omega, b⟩
        · rintro ⟨a, b⟩
          refine ⟨?_, b⟩
          have : k ≠ z3.toNatClampNeg := fun e => b (by rw [e]; exact hd)
          omega
      · have hd : ro 5 x0_works z3.toNatClampNeg 4 ≠ 0 := by
          intro hn'
          rw [if_pos hn'] at e6
          exact hv e6
        refine Sf.someb (fun t8 e8 => ?_)
        refine Sf.inl (show (0 ≤ z3 + 1 ∧ z3 + 1 ≤ x0_workCount) ∧ ∀ k, k < 31 → (tq t8 k = true ↔ (k < (z3 + 1).toNatClampNeg ∧ ro 5 x0_works k 4 ≠ 0)) from ⟨⟨p0, hz1⟩, fun k hk => ?_⟩) (muUp_lt hc)
        rw [e8, ← ez3, tq_set (by omega) k hk, ez3, p1, Bool.or_eq_true, decide_eq_true_eq, h1 k hk]
        constructor
        · rintro (⟨a, b⟩ | e)
          · exact ⟨by omega, b⟩
          · exact ⟨by omega, by rw [e]; exact hd⟩
        · rintro ⟨a, b⟩
          by_cases hz : k = z3.toNatClampNeg
          · exact Or.inr hz
          · exact Or.inl ⟨by omega, b⟩
  · rw [tq_zero]
    constructor
    · intro h
      cases h
    · intro h
      exact absurd h.1 (Nat.not_lt_zero _)
/-- the works of a set, done in their order -/
def doS (work : Nat → Nat → Int32) (s : Int32) : Nat → Ab → Ab
  | 0, A => A
  | k + 1, A => if tq s k = true then doA work k (doS work s k A) else doS work s k A
theorem Wf1.mono {work : Nat → Nat → Int32} {L L' : Int32} {k : Nat} (h : Wf1 work L k) (hL : L ≤ L') : Wf1 work L' k := ⟨h.1, h.2.1, fun e => Int32.lt_of_lt_of_le (h.2.2.1 e) hL, h.2.2.2⟩
theorem Wf1.congr {work work' : Nat → Nat → Int32} {L : Int32} {k : Nat} (h : Wf1 work L k) (e : ∀ c, c < 3 → work k c = work' k c) : Wf1 work' L k := by
  unfold Wf1 at h ⊢
  rw [← e 0 (by decide), ← e 1 (by decide)]
  exact h
theorem doS_L {work : Nat → Nat → Int32} {s : Int32} {A : Ab} (h0 : 0 ≤ A.1 ∧ A.1 ≤ 20) : ∀ K : Nat, A.1 ≤ (doS work s K A).1 ∧ 0 ≤ (doS work s K A).1 ∧ (doS work s K A).1 ≤ 20
  | 0 => ⟨Int32.le_refl _, h0⟩
  | K + 1 => by
    have ih := doS_L h0 (s := s) (work := work) K
    show A.1 ≤ (if tq s K = true then doA work K (doS work s K A) else doS work s K A).1 ∧ 0 ≤ (if tq s K = true then doA work K (doS work s K A) else doS work s K A).1 ∧ (if tq s K = true then doA work K (doS work s K A) else doS work s K A).1 ≤ 20
    by_cases hb : tq s K = true
    · rw [if_pos hb]
      have q := doA_L (work := work) (k := K) ih.2
      exact ⟨Int32.le_trans ih.1 q.1, q.2⟩
    · rw [if_neg hb]
      exact ih
theorem doS_congr {work work' : Nat → Nat → Int32} {s s' : Int32} {A B : Ab} (h : AbEq A B) (h0 : 0 ≤ A.1 ∧ A.1 ≤ 20) : ∀ K : Nat, (∀ k, k < K → tq s k = tq s' k) → (∀ k, k < K → ∀ c, c < 3 → work k c = work' k c) → (∀ k, k < K → Wf1 work A.1 k) → AbEq (doS work s K A) (doS work' s' K B)
  | 0, _, _, _ => h
  | K + 1, hs, hw, hf => by
    have ih := doS_congr h h0 K (fun k hk => hs k (by omega)) (fun k hk => hw k (by omega)) (fun k hk => hf k (by omega))
    show AbEq (if tq s K = true then doA work K (doS work s K A) else doS work s K A) (if tq s' K = true then doA work' K (doS work' s' K B) else doS work' s' K B)
    rw [← hs K (by omega)]
    have q := doS_L h0 (s := s) (work := work) K
    by_cases hb : tq s K = true
    · rw [if_pos hb, if_pos hb]
      exact doA_congr ih (hw K (by omega)) ((hf K (by omega)).mono q.1) q.2
    · rw [if_neg hb, if_neg hb]
      exact ih
theorem doS_none {work : Nat → Nat → Int32} {s : Int32} {A : Ab} : ∀ K : Nat, (∀ k, k < K → tq s k = false) → doS work s K A = A
  | 0, _ => rfl
  | K + 1, h => by
    show (if tq s K = true then doA work K (doS work s K A) else doS work s K A) = A
    rw [h K (by omega), if_neg (by decide)]
    exact doS_none K (fun k hk => h k (by omega))
theorem doS_one {work : Nat → Nat → Int32} {s : Int32} {A : Ab} {j : Nat} : ∀ K : Nat, j < K → (∀ k, k < K → tq s k = decide (k = j)) → doS work s K A = doA work j A
  | 0, hj, _ => absurd hj (Nat.not_lt_zero _)
  | K + 1, hj, h => by
    show (if tq s K = true then doA work K (doS work s K A) else doS work s K A) = doA work j A
    by_cases e : K = j
    · rw [h K (by omega), if_pos (by rw [decide_eq_true_eq]; exact e), doS_none K (fun k hk => by rw [h k (by omega), decide_eq_false_iff_not]; omega), e]
    · rw [h K (by omega), if_neg (by rw [decide_eq_true_eq]; exact e)]
      exact doS_one K (by omega) (fun k hk => h k (by omega))
noncomputable def FrA (A : Ab) (coins : Nat → Int32) (good : Nat → Nat → Int32) (G : Int32) : Int32 := Free A.1 A.2.1 A.2.2 coins good G
theorem FrA_congr {A B : Ab} {coins coins' : Nat → Int32} {good good' : Nat → Nat → Int32} {G : Int32} (h : AbEq A B) (hco : ∀ w, w < 3 → coins w = coins' w) (hg : ∀ g, g < G.toNatClampNeg → ∀ c, c < 3 → good g c = good' g c) : FrA A coins good G = FrA B coins' good' G := by
  obtain ⟨L, line, ch⟩ := A
  obtain ⟨L', line', ch'⟩ := B
  obtain ⟨e1, e2, e3⟩ := h
  have e1 : L = L' := e1
  subst e1
  exact Free_congr e2 e3 hco hg
/-- FREE with the works of a set done -/
noncomputable def FrS (L : Int32) (line : Nat → Nat → Int32) (ch coins : Nat → Int32) (good : Nat → Nat → Int32) (G : Int32) (work : Nat → Nat → Int32) (W s : Int32) : Int32 := FrA (doS work s W.toNatClampNeg (L, line, ch)) coins good G
def Kn (F : Int32 → Int32) (kf : Nat → Int32) (ik : Int32) : Prop := ik = 0 ∨ ∀ s : Int32, 0 ≤ s ∧ s ≤ 127 → kf s.toNatClampNeg = -1 ∨ kf s.toNatClampNeg = F s
theorem knownS {n : Nat} {x0_lineCount : Int32} {x0_goodsCount : Int32} {x0_workCount : Int32} {x0_years : Int32} {x0_lines : (Nat → Int32)} {x0_goods : (Nat → Int32)} {x0_works : (Nat → Int32)} {x0_change : (Nat → Int32)} {x0_coin : (Nat → Int32)} {x0_knownFree : (Nat → Int32)} {x0_isKnown : Int32} {p1 : Int32} {F : Int32 → Int32} (hn : 1000000000000 ≤ n) (h : Kn F x0_knownFree x0_isKnown) : Sf (fX1_freeKnown n (x0_lineCount, x0_goodsCount, x0_workCount, x0_years, x0_lines, x0_goods, x0_works, x0_change, x0_coin, x0_knownFree, x0_isKnown) p1) (fun r => (r.1 = -1 ∨ r.1 = F p1) ∧ Kn F r.2.1 r.2.2 ∧ r.2.2 ≠ 0) := by
  have j : ∀ (f : Nat → Int32) (i : Int32), i ≠ 0 → (∀ s : Int32, 0 ≤ s ∧ s ≤ 127 → f s.toNatClampNeg = -1 ∨ f s.toNatClampNeg = F s) → Sf (fX1_freeKnown_j20 p1 f i) (fun r => (r.1 = -1 ∨ r.1 = F p1) ∧ Kn F r.2.1 r.2.2 ∧ r.2.2 ≠ 0) := by
    intro f i hi hf
    unfold fX1_freeKnown_j20
    refine Sf.bind sX6_within (fun v hv => ?_)
    refine Sf.ite (fun hc => Sf.ok ⟨Or.inl rfl, Or.inr hf, hi⟩) (fun hc => ?_)
    have hp : 0 ≤ p1 ∧ p1 ≤ 127 := by
      rcases hv with hv | hv
      · exact hv.2
      · exact absurd hv.1 hc
    refine Sf.rdb 128 rfl ⟨hp.1, Int32.lt_of_le_of_lt hp.2 (by decide)⟩ (fun v5 e5 => ?_)
    exact Sf.ok ⟨by rw [e5]; exact hf p1 hp, Or.inr hf, hi⟩
  unfold fX1_freeKnown
  dsimp only [u11]
  refine Sf.ite (fun hc => ?_) (fun hc => ?_)
  · refine Sf.bind (sJ7_fill hn (by decide)) (fun g6 e6 => ?_)
    refine j _ _ (by decide) (fun s hs => Or.inl ?_)
    rw [e6]
    exact if_pos (i32_lt (M := 128) (N := 128) rfl ⟨hs.1, Int32.lt_of_le_of_lt hs.2 (by decide)⟩)
  · rcases h with h | h
    · exact absurd h hc
    · exact j _ _ hc h
theorem keepS {x0_lineCount : Int32} {x0_goodsCount : Int32} {x0_workCount : Int32} {x0_years : Int32} {x0_lines : (Nat → Int32)} {x0_goods : (Nat → Int32)} {x0_works : (Nat → Int32)} {x0_change : (Nat → Int32)} {x0_coin : (Nat → Int32)} {x0_knownFree : (Nat → Int32)} {x0_isKnown : Int32} {p1 p2 : Int32} {F : Int32 → Int32} (h : Kn F x0_knownFree x0_isKnown) (hp : p2 = F p1) : Sf (fX1_keepFree (x0_lineCount, x0_goodsCount, x0_workCount, x0_years, x0_lines, x0_goods, x0_works, x0_change, x0_coin, x0_knownFree, x0_isKnown) p1 p2) (fun r => Kn F r x0_isKnown) := by
  unfold fX1_keepFree
  dsimp only [u11]
  refine Sf.bind sX6_within (fun v hv => ?_)
  refine Sf.ite (fun hc => Sf.ok h) (fun hc => ?_)
  have hq : 0 ≤ p1 ∧ p1 ≤ 127 := by
    rcases hv with hv | hv
    · exact hv.2
    · exact absurd hv.1 hc
  refine Sf.wrb 128 rfl ⟨hq.1, Int32.lt_of_le_of_lt hq.2 (by decide)⟩ (fun f3 e3 => ?_)
  refine Sf.ok ?_
  rcases h with h | h
  · exact Or.inl h
  · refine Or.inr (fun s hs => ?_)
    rw [e3]
    by_cases e : s.toNatClampNeg = p1.toNatClampNeg
    · have e' : s = p1 := by
        refine Int32.toInt_inj.mp ?_
        have a := i32_cl hs.1
        have b := i32_cl hq.1
        omega
      rw [e', va_eq]
      exact Or.inr hp
    · rw [va_ne _ _ e]
      exact h s hs
theorem cp0 {f g : Nat → Int32} {m k : Nat} (h : k < m) : va_cpy f g 0 0 m k = f k := by
  unfold va_cpy
  rw [if_pos ⟨Nat.zero_le k, by omega⟩]
  congr 1
  omega
theorem mlt {z m : Int32} {M : Nat} (hz : 0 ≤ z ∧ z ≤ 20) (hm : 0 ≤ m ∧ m ≤ 7) (hM : m.toNatClampNeg = M) : 0 ≤ z * m ∧ (z * m).toInt = z.toInt * (M : Int) ∧ (z * m).toNatClampNeg = M * z.toNatClampNeg := by
  have z0 : (0 : Int32).toInt = 0 := by decide
  have e20 : (20 : Int32).toInt = 20 := by decide
  have e7 : (7 : Int32).toInt = 7 := by decide
  have a := i32_b hz
  have b := i32_b hm
  rw [z0, e20] at a
  rw [z0, e7] at b
  have c := i32_cl hm.1
  rw [hM] at c
  have p0 : 0 ≤ z.toInt * m.toInt := Int.mul_nonneg a.1 b.1
  have p1 : z.toInt * m.toInt ≤ 20 * 7 := Int.mul_le_mul a.2 b.2 b.1 (by decide)
  have e : (z * m).toInt = z.toInt * m.toInt := i32_mul (by omega) (by omega)
  have h0 : 0 ≤ z * m := Int32.le_iff_toInt_le.mpr (by rw [e, z0]; exact p0)
  refine ⟨h0, by rw [e, ← c], ?_⟩
  have d := i32_cl h0
  have g := i32_cl hz.1
  have : (((z * m).toNatClampNeg : Nat) : Int) = ((M * z.toNatClampNeg : Nat) : Int) := by
    rw [d, e, Int.natCast_mul, g, c, Int.mul_comm]
  omega
theorem takeC {x0_lineCount : Int32} {x0_goodsCount : Int32} {x0_workCount : Int32} {x0_years : Int32} {x0_lines : (Nat → Int32)} {x0_goods : (Nat → Int32)} {x0_works : (Nat → Int32)} {x0_change : (Nat → Int32)} {x0_coin : (Nat → Int32)} {x0_knownFree : (Nat → Int32)} {x0_isKnown : Int32} {x1_lineCount : Int32} {x1_goodsCount : Int32} {x1_workCount : Int32} {x1_years : Int32} {x1_lines : (Nat → Int32)} {x1_goods : (Nat → Int32)} {x1_works : (Nat → Int32)} {x1_change : (Nat → Int32)} {x1_coin : (Nat → Int32)} {x1_knownFree : (Nat → Int32)} {x1_isKnown : Int32} (h_x1_lineCount : (0 ≤ x1_lineCount ∧ x1_lineCount ≤ 20)) (h_x1_goodsCount : (0 ≤ x1_goodsCount ∧ x1_goodsCount ≤ 8)) (h_x1_workCount : (0 ≤ x1_workCount ∧ x1_workCount ≤ 7)) (h_x1_years : (1 ≤ x1_years ∧ x1_years ≤ 30)) (h_x1_lines : (LnOk x1_lines)) (h_x1_goods : (GdOk x1_goods)) (h_x1_works : (WkOk x1_works)) (h_x1_change : (AI 0 99 x1_change)) (h_x1_coin : (AI 0 9 x1_coin)) : Sf (fX1_take (x0_lineCount, x0_goodsCount, x0_workCount, x0_years, x0_lines, x0_goods, x0_works, x0_change, x0_coin, x0_knownFree, x0_isKnown) (x1_lineCount, x1_goodsCount, x1_workCount, x1_years, x1_lines, x1_goods, x1_works, x1_change, x1_coin, x1_knownFree, x1_isKnown)) (fun r => r.1 = x1_lineCount ∧ r.2.1 = x1_goodsCount ∧ r.2.2.1 = x1_workCount ∧ r.2.2.2.1 = x1_years ∧ (∀ l, l < x1_lineCount.toNatClampNeg → ∀ c, c < 7 → ro 7 r.2.2.2.2.1 l c = ro 7 x1_lines l c) ∧ (∀ g, g < x1_goodsCount.toNatClampNeg → ∀ c, c < 3 → ro 3 r.2.2.2.2.2.1 g c = ro 3 x1_goods g c) ∧ (∀ k, k < x1_workCount.toNatClampNeg → ∀ c, c < 5 → ro 5 r.2.2.2.2.2.2.1 k c = ro 5 x1_works k c) ∧ (∀ p, p < 12 → r.2.2.2.2.2.2.2.1 p = x1_change p) ∧ (∀ w, w < 3 → r.2.2.2.2.2.2.2.2.1 w = x1_coin w) ∧ r.2.2.2.2.2.2.2.2.2 = 0) := by
  unfold fX1_take
  dsimp only [u11]
  have e20 : (20 : Int32).toInt = 20 := by decide
  have e8 : (8 : Int32).toInt = 8 := by decide
  have e7 : (7 : Int32).toInt = 7 := by decide
  have z0 : (0 : Int32).toInt = 0 := by decide
  have bl := i32_b h_x1_lineCount
  have bg := i32_b h_x1_goodsCount
  have bw := i32_b h_x1_workCount
  obtain ⟨l1, l2, l3⟩ := mlt (z := x1_lineCount) (m := 7) (M := 7) h_x1_lineCount (by decide) rfl
  obtain ⟨g1, g2, g3⟩ := mlt (z := x1_goodsCount) (m := 3) (M := 3) ⟨h_x1_goodsCount.1, Int32.le_trans h_x1_goodsCount.2 (by decide)⟩ (by decide) rfl
  obtain ⟨w1, w2, w3⟩ := mlt (z := x1_workCount) (m := 5) (M := 5) ⟨h_x1_workCount.1, Int32.le_trans h_x1_workCount.2 (by decide)⟩ (by decide) rfl
  refine Sf.cpyb ⟨by decide, by decide, l1⟩ (by omega) (by omega) (fun f1 e1 => ?_)
  refine Sf.cpyb ⟨by decide, by decide, g1⟩ (by omega) (by omega) (fun f2 e2 => ?_)
  refine Sf.cpyb ⟨by decide, by decide, w1⟩ (by omega) (by omega) (fun f3 e3 => ?_)
  refine Sf.cpyb ⟨by decide, by decide, by decide⟩ (by decide) (by decide) (fun f4 e4 => ?_)
  refine Sf.cpyb ⟨by decide, by decide, by decide⟩ (by decide) (by decide) (fun f5 e5 => ?_)
  rw [l3] at e1
  rw [g3] at e2
  rw [w3] at e3
  refine Sf.ok ⟨rfl, rfl, rfl, rfl, fun l hl c hc => ?_, fun g hg c hc => ?_, fun k hk c hc => ?_, fun p hp => ?_, fun w hw => ?_, rfl⟩
  · show ro 7 f1 l c = _
    rw [ro_eq hc, ro_eq hc, e1]
    exact cp0 (by omega)
  · show ro 3 f2 g c = _
    rw [ro_eq hc, ro_eq hc, e2]
    exact cp0 (by omega)
  · show ro 5 f3 k c = _
    rw [ro_eq hc, ro_eq hc, e3]
    exact cp0 (by omega)
  · show f4 p = _
    rw [e4]
    exact cp0 hp
  · show f5 w = _
    rw [e5]
    exact cp0 hw

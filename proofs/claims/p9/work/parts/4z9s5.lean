/-! the class's edges are the land's lines in their widths -/
theorem ix7 {z c : Int32} (hz : 0 ≤ z ∧ z < 20) (hc : 0 ≤ c ∧ c < 7) : (0 ≤ z * 7 + c ∧ z * 7 + c < 140) ∧ (z * 7 + c).toNatClampNeg = 7 * z.toNatClampNeg + c.toNatClampNeg := by
  have z0 : (0 : Int32).toInt = 0 := by decide
  have e20 : (20 : Int32).toInt = 20 := by decide
  have e7 : (7 : Int32).toInt = 7 := by decide
  have e140 : (140 : Int32).toInt = 140 := by decide
  have a := Int32.le_iff_toInt_le.mp hz.1
  have b := Int32.lt_iff_toInt_lt.mp hz.2
  have c1 := Int32.le_iff_toInt_le.mp hc.1
  have c2 := Int32.lt_iff_toInt_lt.mp hc.2
  rw [z0] at a c1
  rw [e20] at b
  rw [e7] at c2
  have m : (z * 7).toInt = z.toInt * 7 := by rw [i32_mul (by rw [e7]; omega) (by rw [e7]; omega), e7]
  have s : (z * 7 + c).toInt = z.toInt * 7 + c.toInt := by rw [i32_add (by rw [m]; omega) (by rw [m]; omega), m]
  have h0 : 0 ≤ z * 7 + c := Int32.le_iff_toInt_le.mpr (by rw [s, z0]; omega)
  refine ⟨⟨h0, Int32.lt_iff_toInt_lt.mpr (by rw [s, e140]; omega)⟩, ?_⟩
  have p := i32_cl h0
  have q := i32_cl hz.1
  have r := i32_cl hc.1
  omega
theorem ofLineV {lc gc wc yr ik z c : Int32} {lines goods works chg coin kf : Nat → Int32} (hz : 0 ≤ z ∧ z < 20) (hc : 0 ≤ c ∧ c < 7) : Sf (fX1_ofLine (lc, gc, wc, yr, lines, goods, works, chg, coin, kf, ik) z c) (fun r => r = lines (7 * z.toNatClampNeg + c.toNatClampNeg)) := by
  unfold fX1_ofLine
  dsimp only [u11]
  obtain ⟨hi, he⟩ := ix7 hz hc
  refine Sf.rdb 140 rfl hi (fun v e => ?_)
  rw [he] at e
  exact Sf.ok e
def Us (lines : Nat → Int32) (p2 : Int32) (l w : Nat) : Prop := ¬ ((p2 >>> (Int32.ofNat l &&& 31)) &&& 1) = 0 ∧ ¬ ((lines (7 * l + 2) >>> (Int32.ofNat w &&& 31)) &&& 1) = 0
def Eg (lines coin : Nat → Int32) (l w : Nat) (a b c : Int32) : Prop := a.toNatClampNeg = 3 * (lines (7 * l + 0)).toNatClampNeg + w ∧ b.toNatClampNeg = 3 * (lines (7 * l + 1)).toNatClampNeg + w ∧ c = lines (7 * l + 3) * coin w
def EgOk (lines coin : Nat → Int32) (p2 : Int32) (Q : Nat → Nat → Prop) (eA eB eC : Nat → Int32) (ec : Nat) : Prop :=
  (∀ e : Nat, e < ec → ∃ l w, Q l w ∧ w < 3 ∧ Us lines p2 l w ∧ Eg lines coin l w (eA e) (eB e) (eC e)) ∧ (∀ l w, Q l w → w < 3 → Us lines p2 l w → ∃ e, e < ec ∧ Eg lines coin l w (eA e) (eB e) (eC e))
theorem EgOk.same {lines coin : Nat → Int32} {p2 : Int32} {Q Q' : Nat → Nat → Prop} {eA eB eC : Nat → Int32} {ec : Nat} (h : EgOk lines coin p2 Q eA eB eC ec) (h1 : ∀ l w, Q l w → Q' l w) (h2 : ∀ l w, Q' l w → w < 3 → Us lines p2 l w → Q l w) : EgOk lines coin p2 Q' eA eB eC ec := by
  refine ⟨fun e he => ?_, fun l w hq hw hu => ?_⟩
  · obtain ⟨l, w, a, b⟩ := h.1 e he
    exact ⟨l, w, h1 l w a, b⟩
  · exact h.2 l w (h2 l w hq hw hu) hw hu
theorem EgOk.add {lines coin : Nat → Int32} {p2 : Int32} {Q Q' : Nat → Nat → Prop} {eA eB eC : Nat → Int32} {ec : Nat} {L W : Nat} {a b c : Int32} (h : EgOk lines coin p2 Q eA eB eC ec) (hW : W < 3) (hU : Us lines p2 L W) (hE : Eg lines coin L W a b c) (h1 : ∀ l w, Q l w → Q' l w) (h3 : Q' L W) (h2 : ∀ l w, Q' l w → Q l w ∨ (l = L ∧ w = W)) : EgOk lines coin p2 Q' (va_up eA ec a) (va_up eB ec b) (va_up eC ec c) (ec + 1) := by
  refine ⟨fun e he => ?_, fun l w hq hw hu => ?_⟩
  · by_cases hee : e = ec
    · subst hee
      rw [va_up_self, va_up_self, va_up_self]
      exact ⟨L, W, h3, hW, hU, hE⟩
    · obtain ⟨l, w, q1, q2⟩ := h.1 e (by omega)
      rw [va_up_ne _ _ hee, va_up_ne _ _ hee, va_up_ne _ _ hee]
      exact ⟨l, w, h1 l w q1, q2⟩
  · rcases h2 l w hq with hq | ⟨rfl, rfl⟩
    · obtain ⟨e, he, q⟩ := h.2 l w hq hw hu
      refine ⟨e, by omega, ?_⟩
      have hee : e ≠ ec := by omega
      rw [va_up_ne _ _ hee, va_up_ne _ _ hee, va_up_ne _ _ hee]
      exact q
    · refine ⟨ec, by omega, ?_⟩
      rw [va_up_self, va_up_self, va_up_self]
      exact hE
theorem lnR {lines : Nat → Int32} (h : LnOk lines) (l : Nat) : (0 ≤ lines (7 * l + 0) ∧ lines (7 * l + 0) ≤ 11) ∧ (0 ≤ lines (7 * l + 1) ∧ lines (7 * l + 1) ≤ 11) ∧ (0 ≤ lines (7 * l + 3) ∧ lines (7 * l + 3) ≤ 60) := by
  have a := h (7 * l + 0)
  have b := h (7 * l + 1)
  have c := h (7 * l + 3)
  have ea : (7 * l + 0) % 7 = 0 := by omega
  have eb : (7 * l + 1) % 7 = 1 := by omega
  have ec : (7 * l + 3) % 7 = 3 := by omega
  rw [ea] at a
  rw [eb] at b
  rw [ec] at c
  exact ⟨a, b, c⟩
theorem mc9 {a b : Int32} (ha : 0 ≤ a ∧ a ≤ 60) (hb : 0 ≤ b ∧ b ≤ 9) : 0 ≤ a * b ∧ a * b ≤ 999 := by
  have z0 : (0 : Int32).toInt = 0 := by decide
  have z6 : (60 : Int32).toInt = 60 := by decide
  have z9 : (9 : Int32).toInt = 9 := by decide
  have zz : (999 : Int32).toInt = 999 := by decide
  have p := i32_b ha
  have q := i32_b hb
  rw [z0, z6] at p
  rw [z0, z9] at q
  have m1 : a.toInt * b.toInt ≤ 60 * 9 := Int.mul_le_mul p.2 q.2 q.1 (by decide)
  have m0 : 0 ≤ a.toInt * b.toInt := Int.mul_nonneg p.1 q.1
  have e : (a * b).toInt = a.toInt * b.toInt := i32_mul (by omega) (by omega)
  exact ⟨Int32.le_iff_toInt_le.mpr (by rw [e, z0]; omega), Int32.le_iff_toInt_le.mpr (by rw [e, zz]; omega)⟩
theorem zshr {w : Int32} (hw : 0 ≤ w ∧ w < 3) : (((0 : Int32) >>> (w &&& 31)) &&& 1) = 0 := by
  have h : w = 0 ∨ w = 1 ∨ w = 2 := by grind
  rcases h with h | h | h <;> subst h <;> decide
def PI (lines coin : Nat → Int32) (p2 z3 z17 : Int32) (eA eB eC eL : Nat → Int32) (ec : Int32) : Prop :=
  (0 ≤ z17 ∧ z17 ≤ 3) ∧ 0 ≤ ec ∧ ec.toNatClampNeg ≤ 3 * z3.toNatClampNeg + z17.toNatClampNeg ∧ AI 0 35 eA ∧ AI 0 35 eB ∧ (∀ e, e < ec.toNatClampNeg → 0 ≤ eC e ∧ eC e ≤ 999) ∧ EgOk lines coin p2 (fun l w => l < z3.toNatClampNeg ∨ (l = z3.toNatClampNeg ∧ w < z17.toNatClampNeg)) eA eB eC ec.toNatClampNeg
def PO (lines coin : Nat → Int32) (p2 z3 : Int32) (eA eB eC eL : Nat → Int32) (ec : Int32) : Prop :=
  0 ≤ z3 ∧ 0 ≤ ec ∧ ec.toNatClampNeg ≤ 3 * z3.toNatClampNeg ∧ AI 0 35 eA ∧ AI 0 35 eB ∧ (∀ e, e < ec.toNatClampNeg → 0 ≤ eC e ∧ eC e ≤ 999) ∧ EgOk lines coin p2 (fun l _ => l < z3.toNatClampNeg) eA eB eC ec.toNatClampNeg
theorem prepI {n : Nat} {lc gc wc yr ik p2 z3 y : Int32} {lines goods works chg coin kf eA eB eC eL : Nat → Int32} {ec : Int32} (hn : 1000000000000 ≤ n) (hl : LnOk lines) (hco : AI 0 9 coin) (hz : 0 ≤ z3 ∧ z3 < 20) (hy : (¬ ((p2 >>> (z3 &&& 31)) &&& 1) = 0 ∧ y = lines (7 * z3.toNatClampNeg + 2)) ∨ (((p2 >>> (z3 &&& 31)) &&& 1) = 0 ∧ y = 0)) (h : PO lines coin p2 z3 eA eB eC eL ec) : Sf (lp (u6 (fX5_prepare_s58 lc gc wc yr lines goods works chg coin kf ik z3 y)) n (0, eA, eB, eC, eL, ec)) (fun r => PO lines coin p2 (z3 + 1) r.1 r.2.1 r.2.2.1 r.2.2.2.1 r.2.2.2.2) := by
  have e3 : Int32.ofNat z3.toNatClampNeg = z3 := Int32.ofNat_toNatClampNeg z3 hz.1
  have hz20 : z3.toNatClampNeg < 20 := i32_lt (M := 20) rfl hz
  obtain ⟨q0, q1, q2⟩ := up1 (B := 20) hz.1 (by decide) (Int32.not_le.mpr hz.2)
  have hI : PI lines coin p2 z3 0 eA eB eC eL ec := by
    obtain ⟨h0, h1, h2, h3, h4, h5, h6⟩ := h
    refine ⟨⟨by decide, by decide⟩, h1, by omega, h3, h4, h5, h6.same (fun l w q => Or.inl q) (fun l w q hw hu => ?_)⟩
    rcases q with q | ⟨q, q2⟩
    · exact q
    · exact absurd q2 (Nat.not_lt_zero _)
  refine Sf.loop6 (PI lines coin p2 z3) (fun z17 _ _ _ _ _ => muUp z17) (fun z17 a b c l ec h => ?_) hI (muUp_n hn)
  obtain ⟨h0, h1, h2, h3, h4, h5, h6⟩ := h
  have n17 : z17.toNatClampNeg ≤ 3 := by
    have p := i32_cl h0.1
    have q := Int32.le_iff_toInt_le.mp h0.2
    have e : (3 : Int32).toInt = 3 := by decide
    omega
  unfold fX5_prepare_s58
  refine Sf.ite (fun hc => ?_) (fun hc => ?_)
  · refine Sf.inr ⟨q0, h1, by rw [q1]; show ec.toNatClampNeg ≤ _; omega, h3, h4, h5, h6.same (fun l w q => ?_) (fun l w q hw hu => ?_)⟩
    · show l < (z3 + 1).toNatClampNeg
      rw [q1]
      omega
    · have q : l < (z3 + 1).toNatClampNeg := q
      rw [q1] at q
      have r := c3 h0.1 hc hw
      show l < z3.toNatClampNeg ∨ (l = z3.toNatClampNeg ∧ w < z17.toNatClampNeg)
      omega
  · obtain ⟨p0, p1, p2'⟩ := up1 h0.1 (by decide) hc
    have hw : 0 ≤ z17 ∧ z17 < 3 := ⟨h0.1, p2'⟩
    obtain ⟨ew, hw3⟩ := w_of hw
    have p3 : z17 + 1 ≤ 3 := by clear h1 h2 h3 h4 h5 h6 hI h hy; grind
    refine Sf.ite (fun hb => ?_) (fun hb => ?_)
    · refine Sf.inl (show PI lines coin p2 z3 (z17 + 1) a b c l ec from ⟨⟨p0, p3⟩, h1, by rw [p1]; omega, h3, h4, h5, h6.same (fun l w q => ?_) (fun l w q hw' hu => ?_)⟩) (muUp_lt hc)
      · show l < z3.toNatClampNeg ∨ (l = z3.toNatClampNeg ∧ w < (z17 + 1).toNatClampNeg)
        rw [p1]
        have q : l < z3.toNatClampNeg ∨ (l = z3.toNatClampNeg ∧ w < z17.toNatClampNeg) := q
        omega
      · have q : l < z3.toNatClampNeg ∨ (l = z3.toNatClampNeg ∧ w < (z17 + 1).toNatClampNeg) := q
        rw [p1] at q
        show l < z3.toNatClampNeg ∨ (l = z3.toNatClampNeg ∧ w < z17.toNatClampNeg)
        by_cases hx : l = z3.toNatClampNeg ∧ w = z17.toNatClampNeg
        · obtain ⟨rfl, rfl⟩ := hx
          obtain ⟨u1, u2⟩ := hu
          rw [e3] at u1
          rw [ew] at u2
          rcases hy with ⟨_, ey⟩ | ⟨hz0, _⟩
          · rw [ey] at hb
            exact absurd hb u2
          · exact absurd hz0 u1
        · omega
    · have hy2 : ¬ ((p2 >>> (z3 &&& 31)) &&& 1) = 0 ∧ y = lines (7 * z3.toNatClampNeg + 2) := by
        rcases hy with hy | ⟨_, ey⟩
        · exact hy
        · rw [ey] at hb
          exact absurd (zshr hw) hb
      have hU : Us lines p2 z3.toNatClampNeg z17.toNatClampNeg := by
        refine ⟨?_, ?_⟩
        · rw [e3]; exact hy2.1
        · rw [ew, ← hy2.2]; exact hb
      have e0 : (0 : Int32).toNatClampNeg = 0 := by decide
      have e1 : (1 : Int32).toNatClampNeg = 1 := by decide
      have e3' : (3 : Int32).toNatClampNeg = 3 := by decide
      have hec : 0 ≤ ec ∧ ec < 60 := by
        refine ⟨h1, Int32.lt_iff_toInt_lt.mpr ?_⟩
        have p := i32_cl h1
        have e : (60 : Int32).toInt = 60 := by decide
        omega
      obtain ⟨g0, g1, _⟩ := up1 h1 (B := 60) (by decide) (Int32.not_le.mpr hec.2)
      obtain ⟨r0, r1, r3⟩ := lnR hl z3.toNatClampNeg
      refine Sf.bind (ofLineV hz ⟨by decide, by decide⟩) ?_
      intro v29 e29
      rw [e0] at e29
      have b29 : 0 ≤ v29 ∧ v29 ≤ 11 := by rw [e29]; exact r0
      obtain ⟨i29, n29⟩ := ix3' b29 hw
      refine Sf.wrb 60 rfl hec (fun f31 e31 => ?_)
      refine Sf.bind (ofLineV hz ⟨by decide, by decide⟩) ?_
      intro v32 e32
      rw [e1] at e32
      have b32 : 0 ≤ v32 ∧ v32 ≤ 11 := by rw [e32]; exact r1
      obtain ⟨i32, n32⟩ := ix3' b32 hw
      refine Sf.wrb 60 rfl hec (fun f34 e34 => ?_)
      refine Sf.bind (ofLineV hz ⟨by decide, by decide⟩) ?_
      intro v35 e35
      rw [e3'] at e35
      have b35 : 0 ≤ v35 ∧ v35 ≤ 60 := by rw [e35]; exact r3
      refine Sf.rdb 3 rfl hw (fun v37 e37 => ?_)
      have b37 : 0 ≤ v37 ∧ v37 ≤ 9 := by rw [e37]; exact hco _
      refine Sf.wrb 60 rfl hec (fun f38 e38 => ?_)
      refine Sf.wrb 60 rfl hec (fun f39 e39 => ?_)
      have lt36 : ∀ x : Int32, 0 ≤ x ∧ x < 36 → 0 ≤ x ∧ x ≤ 35 := by
        intro x hx
        refine ⟨hx.1, Int32.le_iff_toInt_le.mpr ?_⟩
        have q := Int32.lt_iff_toInt_lt.mp hx.2
        have ea : (36 : Int32).toInt = 36 := by decide
        have eb : (35 : Int32).toInt = 35 := by decide
        omega
      subst e31 e34 e38
      refine Sf.inl (show PI lines coin p2 z3 (z17 + 1) (va_up a ec.toNatClampNeg (v29 * 3 + z17)) (va_up b ec.toNatClampNeg (v32 * 3 + z17)) (va_up c ec.toNatClampNeg (v35 * v37)) f39 (ec + 1) from ⟨⟨p0, p3⟩, g0, by rw [p1, g1]; omega, AI.up h3 (lt36 _ i29), AI.up h4 (lt36 _ i32), fun e he => ?_, ?_⟩) (muUp_lt hc)
      · rw [g1] at he
        by_cases hee : e = ec.toNatClampNeg
        · subst hee
          rw [va_up_self]
          exact mc9 b35 b37
        · rw [va_up_ne _ _ hee]
          exact h5 e (by omega)
      · rw [g1]
        refine EgOk.add h6 hw3 hU ⟨?_, ?_, ?_⟩ (fun l w q => ?_) (Or.inr ⟨rfl, by rw [p1]; omega⟩) (fun l w q => ?_)
        · rw [n29, e29]
        · rw [n32, e32]
        · rw [e35, e37]
        · show l < z3.toNatClampNeg ∨ (l = z3.toNatClampNeg ∧ w < (z17 + 1).toNatClampNeg)
          rw [p1]
          have q : l < z3.toNatClampNeg ∨ (l = z3.toNatClampNeg ∧ w < z17.toNatClampNeg) := q
          omega
        · have q : l < z3.toNatClampNeg ∨ (l = z3.toNatClampNeg ∧ w < (z17 + 1).toNatClampNeg) := q
          rw [p1] at q
          show (l < z3.toNatClampNeg ∨ (l = z3.toNatClampNeg ∧ w < z17.toNatClampNeg)) ∨ (l = z3.toNatClampNeg ∧ w = z17.toNatClampNeg)
          omega
def PQ (lines coin chg : Nat → Int32) (lc p2 : Int32) (r : (Nat → Int32) × (Nat → Int32) × (Nat → Int32) × (Nat → Int32) × (Nat → Int32) × Int32 × Int32) : Prop :=
  r.2.2.2.2.2.2 = (-1) ∧ AI 0 35 r.1 ∧ AI 0 35 r.2.1 ∧ (0 ≤ r.2.2.2.2.2.1 ∧ r.2.2.2.2.2.1 ≤ 60) ∧ (∀ e, e < r.2.2.2.2.2.1.toNatClampNeg → 0 ≤ r.2.2.1 e ∧ r.2.2.1 e ≤ 999) ∧ (∀ k, k < 12 → r.2.2.2.2.1 k = chg k) ∧ EgOk lines coin p2 (fun l _ => l < lc.toNatClampNeg) r.1 r.2.1 r.2.2.1 r.2.2.2.2.2.1.toNatClampNeg
theorem prepS {n : Nat} {eA eB eC eL chg0 aw st nd op : Nat → Int32} {sc oc ec am : Int32} {sn : Int64} {lc gc wc yr ik p2 : Int32} {lines goods works chg coin kf : Nat → Int32} (hn : 1000000000000 ≤ n) (hl : LnOk lines) (hco : AI 0 9 coin) (hlc : 0 ≤ lc ∧ lc ≤ 20) (hA : AI 0 35 eA) (hB : AI 0 35 eB) : Sf (fX5_prepare n (eA, eB, eC, eL, chg0, aw, st, nd, sc, op, oc, sn, ec, am) (lc, gc, wc, yr, lines, goods, works, chg, coin, kf, ik) p2) (PQ lines coin chg lc p2) := by
  unfold fX5_prepare
  dsimp only [u14, u11]
  refine Sf.cpyb ⟨by decide, by decide, by decide⟩ (by decide) (by decide) (fun f1 e1 => ?_)
  have hch : ∀ k, k < 12 → f1 k = chg k := by
    intro k hk
    rw [e1]
    have ea : (0 : Int32).toNatClampNeg = 0 := by decide
    have eb : (12 : Int32).toNatClampNeg = 12 := by decide
    rw [ea, eb]
    unfold va_cpy
    rw [if_pos ⟨Nat.zero_le k, by omega⟩]
    congr 1
    omega
  have h0 : PO lines coin p2 0 eA eB eC eL 0 := ⟨Int32.le_refl 0, Int32.le_refl 0, Nat.zero_le _, hA, hB, fun e he => absurd he (Nat.not_lt_zero e), fun e he => absurd he (Nat.not_lt_zero e), fun l w hq => absurd hq (Nat.not_lt_zero l)⟩
  refine Sf.bind (P := fun r : (Nat → Int32) × (Nat → Int32) × (Nat → Int32) × (Nat → Int32) × Int32 => AI 0 35 r.1 ∧ AI 0 35 r.2.1 ∧ (0 ≤ r.2.2.2.2 ∧ r.2.2.2.2 ≤ 60) ∧ (∀ e, e < r.2.2.2.2.toNatClampNeg → 0 ≤ r.2.2.1 e ∧ r.2.2.1 e ≤ 999) ∧ EgOk lines coin p2 (fun l _ => l < lc.toNatClampNeg) r.1 r.2.1 r.2.2.1 r.2.2.2.2.toNatClampNeg) ?_ ?_
  · refine Sf.loop6 (fun z3 a b c l e => PO lines coin p2 z3 a b c l e ∧ z3 ≤ lc) (fun z3 _ _ _ _ _ => muUp z3) (fun z3 a b c l e h => ?_) ⟨h0, hlc.1⟩ (muUp_n hn)
    obtain ⟨h, hz⟩ := h
    have hh := h
    obtain ⟨h0, h1, h2, h3, h4, h5, h6⟩ := hh
    have nz := i32_cl h0
    have nl := i32_cl hlc.1
    have iz := Int32.le_iff_toInt_le.mp hz
    have e20 : (20 : Int32).toInt = 20 := by decide
    have il := Int32.le_iff_toInt_le.mp hlc.2
    have ne := i32_cl h1
    unfold fX5_prepare_s27
    refine Sf.ite (fun hc => ?_) (fun hc => ?_)
    · have ic := Int32.le_iff_toInt_le.mp hc
      have ez : z3.toNatClampNeg = lc.toNatClampNeg := by omega
      refine Sf.inr ⟨h3, h4, ⟨h1, Int32.le_iff_toInt_le.mpr ?_⟩, h5, ?_⟩
      · have e60 : (60 : Int32).toInt = 60 := by decide
        show e.toInt ≤ _
        omega
      · rw [← ez]
        exact h6
    · obtain ⟨p0, p1, p3⟩ := up1 h0 (Int32.le_trans hlc.2 (by decide)) hc
      have hz20 : 0 ≤ z3 ∧ z3 < 20 := ⟨h0, Int32.lt_of_lt_of_le p3 hlc.2⟩
      have hz1 : z3 + 1 ≤ lc := by
        have q := Int32.lt_iff_toInt_lt.mp p3
        have r := i32_cl p0
        exact Int32.le_iff_toInt_le.mpr (by omega)
      have go : ∀ y : Int32, ((¬ ((p2 >>> (z3 &&& 31)) &&& 1) = 0 ∧ y = lines (7 * z3.toNatClampNeg + 2)) ∨ (((p2 >>> (z3 &&& 31)) &&& 1) = 0 ∧ y = 0)) → Sf (fX5_prepare_j53 n lc gc wc yr lines goods works chg coin kf ik z3 a b c l e y) (LQ (u6 (fun z3 a b c l e => PO lines coin p2 z3 a b c l e ∧ z3 ≤ lc)) (u6 (fun z3 _ _ _ _ _ => muUp z3)) (muUp z3) (fun r : (Nat → Int32) × (Nat → Int32) × (Nat → Int32) × (Nat → Int32) × Int32 => AI 0 35 r.1 ∧ AI 0 35 r.2.1 ∧ (0 ≤ r.2.2.2.2 ∧ r.2.2.2.2 ≤ 60) ∧ (∀ e, e < r.2.2.2.2.toNatClampNeg → 0 ≤ r.2.2.1 e ∧ r.2.2.1 e ≤ 999) ∧ EgOk lines coin p2 (fun l _ => l < lc.toNatClampNeg) r.1 r.2.1 r.2.2.1 r.2.2.2.2.toNatClampNeg)) := by
        intro y hy
        unfold fX5_prepare_j53
        refine Sf.bind (prepI hn hl hco hz20 hy h) ?_
        rintro ⟨w24, w25, w26, w27, w28⟩ hr
        dsimp only [u5]
        exact Sf.inl ⟨hr, hz1⟩ (muUp_lt hc)
      refine Sf.ite (fun hb => ?_) (fun hb => ?_)
      · exact go 0 (Or.inr ⟨hb, rfl⟩)
      · refine Sf.bind (ofLineV hz20 ⟨by decide, by decide⟩) ?_
        intro v40 e40
        have e2 : (2 : Int32).toNatClampNeg = 2 := by decide
        rw [e2] at e40
        exact go v40 (Or.inl ⟨hb, e40⟩)
  · rintro ⟨w10, w11, w12, w13, w14⟩ ⟨r1, r2, r3, r4, r5⟩
    dsimp only [u5]
    exact Sf.ok ⟨rfl, r1, r2, r3, r4, hch, r5⟩

/-! what single calls answer, read off their functions -/
theorem vX6_refuse {X0 : TwT} {p : Int32} {out : Int32 × (Nat → Int32)} (h : fX6_refuse X0 p = some out) : out.1 = p := by
  unfold fX6_refuse at h
  dsimp only [u4] at h
  obtain ⟨v, e, h⟩ := bs h
  by_cases hv : v = 0
  · have h := ip hv h
    cases h; rfl
  · have h := iq hv h
    obtain ⟨_, _, h⟩ := bs h
    obtain ⟨_, _, h⟩ := bs h
    cases h; rfl
theorem vX7_refuse {X0 : MdT} {p : Int32} {out : Int32 × (Nat → Int32)} (h : fX7_refuse X0 p = some out) : out.1 = p := by
  unfold fX7_refuse at h
  dsimp only [u35] at h
  obtain ⟨_, _, h⟩ := bs h
  obtain ⟨_, _, h⟩ := bs h
  cases h; rfl
theorem vX6_image {X0 : TwT} {X1 X2 : LdT} {r i : Int32} {G : Int32 × Int32 × Int32 × Int32 × (Nat → Int32) × (Nat → Int32) × (Nat → Int32) × (Nat → Int32) × (Nat → Int32) × Int32} (h : fX6_image X0 X1 X2 = some (r, i, G)) : r = 1 ∧ i = 1 := by
  unfold fX6_image at h
  dsimp only [u4, u11] at h
  obtain ⟨_, _, h⟩ := bs h
  try dsimp only [u10] at h
  have h := Option.some.inj h
  exact ⟨(congrArg (fun z => z.1) h).symm, (congrArg (fun z => z.2.1) h).symm⟩
theorem vX7_image {n : Nat} {X0 X1 : MdT} {r : Int32} {G : Int32 × (Nat → Nat → Int32) × (Nat → Int32) × (Nat → Int32) × Int32 × (Nat → Nat → Int32) × Int32 × (Nat → Nat → Int32) × Int32 × Int32 × Int32} (h : fX7_image n X0 X1 = some (r, G)) : r = 1 := by
  unfold fX7_image at h
  dsimp only [u35] at h
  obtain ⟨_, _, h⟩ := bs h
  dsimp only [u11] at h
  have h := Option.some.inj h
  exact (congrArg (fun z => z.1) h).symm
theorem vX6_back1 {n : Nat} {X0 : TwT} {X1 : LdT} {X2 : ShT} {X3 : LdT} {r : Int32} {G : (Nat → Int32) × (Nat → Int32) × (Int32 × Int32 × Int32 × Int32 × (Nat → Int32) × (Nat → Int32) × (Nat → Int32) × (Nat → Int32) × (Nat → Int32) × Int32)} (hk : ¬ X0.2.1 = 0) (h : fX6_back n X0 X1 X2 X3 = some (r, G)) : r = 1 := by
  unfold fX6_back at h
  dsimp only [u4, u11, u3] at h
  have h := iq hk h
  obtain ⟨_, _, h⟩ := bs h
  try dsimp only [u10] at h
  obtain ⟨_, _, h⟩ := bs h
  have h := Option.some.inj h
  exact (congrArg (fun z => z.1) h).symm
theorem vX6_back0 {n : Nat} {X0 : TwT} {X1 : LdT} {X2 : ShT} {X3 : LdT} {r : Int32} {G : (Nat → Int32) × (Nat → Int32) × (Int32 × Int32 × Int32 × Int32 × (Nat → Int32) × (Nat → Int32) × (Nat → Int32) × (Nat → Int32) × (Nat → Int32) × Int32)} (hk : X0.2.1 = 0) (h : fX6_back n X0 X1 X2 X3 = some (r, G)) : r = (-5) := by
  unfold fX6_back at h
  dsimp only [u4, u11, u3] at h
  have h := ip hk h
  obtain ⟨o, e, h⟩ := bs h
  dsimp only [u2] at h
  have e := vX6_refuse e
  have h := Option.some.inj h
  rw [← e]
  exact (congrArg (fun z => z.1) h).symm
theorem vX7_back {n : Nat} {X0 X1 : MdT} {r : Int32} {G : (Nat → Int32) × (Nat → Int32) × Int32 × (Nat → Nat → Int32) × (Nat → Int32) × (Nat → Int32) × Int32 × (Nat → Nat → Int32) × Int32 × (Nat → Nat → Int32) × Int32 × Int32 × Int32} (h : fX7_back n X0 X1 = some (r, G)) : r = 1 := by
  unfold fX7_back at h
  dsimp only [u35] at h
  obtain ⟨_, _, h⟩ := bs h
  dsimp only [u11] at h
  obtain ⟨_, _, h⟩ := bs h
  have h := Option.some.inj h
  exact (congrArg (fun z => z.1) h).symm
theorem vX6_land {n : Nat} {X0 : TwT} {X1 : ChT} {X2 X3 : LdT} {X4 : TpT} {r s : Int32} {G1 : Nat → Int32} {G2 G3 : Int32 × Int32 × Int32 × Int32 × (Nat → Int32) × (Nat → Int32) × (Nat → Int32) × (Nat → Int32) × (Nat → Int32) × Int32} {G4 : Int32 × Int32 × Int32 × Int32} (h : fX6_land n X0 X1 X2 X3 X4 = some (r, G1, G2, G3, (s, G4))) : s = 0 := by
  unfold fX6_land at h
  dsimp only [u4, u11, u6] at h
  obtain ⟨_, _, h⟩ := bs h
  try dsimp only [u10] at h
  obtain ⟨o, _, h⟩ := bs h
  try dsimp only [u10] at h
  by_cases hc : 0 ≤ o.1
  · have h := ip hc h
    obtain ⟨_, _, h⟩ := bs h
    have h := Option.some.inj h
    exact (congrArg (fun z => z.2.2.2.2.1) h).symm
  · have h := iq hc h
    obtain ⟨_, _, h⟩ := bs h
    dsimp only [u2] at h
    have h := Option.some.inj h
    exact (congrArg (fun z => z.2.2.2.2.1) h).symm
theorem vX7_land {n : Nat} {X0 X1 : MdT} {r s : Int32} {G1 : (Nat → Int32) × Int32 × (Nat → Nat → Int32) × (Nat → Int32) × (Nat → Int32) × Int32 × (Nat → Nat → Int32) × Int32 × (Nat → Nat → Int32) × Int32 × Int32 × Int32 × Int32 × Int32 × Int32 × Int64 × Int32 × (Nat → Int32) × Int32} {G2 : Int32 × (Nat → Nat → Int32) × (Nat → Int32) × (Nat → Int32) × Int32 × (Nat → Nat → Int32) × Int32 × (Nat → Nat → Int32) × Int32 × Int32 × Int32} (h : fX7_land n X0 X1 = some (r, (s, G1), G2)) : s = 0 := by
  unfold fX7_land at h
  dsimp only [u35] at h
  obtain ⟨_, _, h⟩ := bs h
  dsimp only [u11] at h
  obtain ⟨o, _, h⟩ := bs h
  dsimp only [u2, u16] at h
  by_cases hc : o.1 = 0
  · have h := ip hc h
    obtain ⟨_, _, h⟩ := bs h
    obtain ⟨_, _, h⟩ := bs h
    have h := Option.some.inj h
    exact (congrArg (fun z => z.2.1.1) h).symm
  · have h := iq hc h
    have h := Option.some.inj h
    exact (congrArg (fun z => z.2.1.1) h).symm
theorem feedA {p1 a b c d : Int32} {e : (Nat → Int32) × Int32} : ∀ (k : Nat) (z4 : Int32) (z5 : Nat → Int32) (z6 : Int32), -1 ≤ z4 ∧ z4 ≤ 3 → 0 ≤ z6 ∧ z6 ≤ 250 → z6 + z4 ≤ 249 → lp (u3 (fX6_feed_s42 p1 a b c d)) k (z4, z5, z6) = some e → e.2 = z6 + z4 + 1 := by
  intro k
  induction k with
  | zero => intro z4 z5 z6 _ _ _ h; cases h
  | succ k ih =>
    intro z4 z5 z6 h4 h6 hs h
    obtain ⟨k2, rr, hk2, hf, hr⟩ := lp_ok h
    cases hk2
    have hf : fX6_feed_s42 p1 a b c d z4 z5 z6 = some rr := hf
    unfold fX6_feed_s42 at hf
    by_cases hc : z4 < 0
    · have hf := ip hc hf
      have he := lpx hf hr
      rw [← he]
      clear hf hr he ih h
      show z6 = z6 + z4 + 1
      grind
    · have hf := iq hc hf
      obtain ⟨o, e1, hf⟩ := bs hf
      dsimp only [u2] at hf
      unfold fX3_put at e1
      dsimp only [u6] at e1
      have hn : ¬ 250 ≤ z6 := by clear hf hr ih h e1; grind
      have e1 := iq hn e1
      obtain ⟨f1, _, e1⟩ := bs e1
      cases e1
      have q := ih (z4 + (-1)) f1 (z6 + 1) (by clear hf hr ih h; grind) (by clear hf hr ih h; grind) (by clear hf hr ih h; grind) (lpc hf hr)
      rw [q]
      clear q hf hr ih h
      grind
theorem feedB {p1 : Int32} {e : (Nat → Int32) × Int32} : ∀ (k : Nat) (z4 : Int32) (z5 : Nat → Int32) (z6 : Int32), -1 ≤ z4 ∧ z4 ≤ 3 → 0 ≤ z6 ∧ z6 ≤ 250 → z6 + z4 ≤ 249 → lp (u3 (fX7_feed_s42 p1)) k (z4, z5, z6) = some e → e.2 = z6 + z4 + 1 := by
  intro k
  induction k with
  | zero => intro z4 z5 z6 _ _ _ h; cases h
  | succ k ih =>
    intro z4 z5 z6 h4 h6 hs h
    obtain ⟨k2, rr, hk2, hf, hr⟩ := lp_ok h
    cases hk2
    have hf : fX7_feed_s42 p1 z4 z5 z6 = some rr := hf
    unfold fX7_feed_s42 at hf
    by_cases hc : z4 < 0
    · have hf := ip hc hf
      have he := lpx hf hr
      rw [← he]
      clear hf hr he ih h
      show z6 = z6 + z4 + 1
      grind
    · have hf := iq hc hf
      obtain ⟨o, e1, hf⟩ := bs hf
      obtain ⟨f1, _, hf⟩ := bs hf
      have q := ih (z4 + (-1)) f1 (z6 + 1) (by clear hf hr ih h e1; grind) (by clear hf hr ih h e1; grind) (by clear hf hr ih h e1; grind) (lpc hf hr)
      rw [q]
      clear q hf hr ih h e1
      grind
def FdR (p2 sz r t : Int32) : Prop := (¬ (1 ≤ p2 ∧ p2 ≤ 4) ∧ r = (-2) ∧ t = sz) ∨ ((1 ≤ p2 ∧ p2 ≤ 4) ∧ 250 < sz + p2 ∧ r = (-6) ∧ t = sz) ∨ ((1 ≤ p2 ∧ p2 ≤ 4) ∧ sz + p2 ≤ 250 ∧ r = sz + p2 ∧ t = sz + p2)
theorem FdR_eq {p2 sz r t r2 t2 : Int32} (h : FdR p2 sz r t) (h2 : FdR p2 sz r2 t2) : r = r2 ∧ t = t2 := by
  unfold FdR at h h2
  rcases h with ⟨a, b, c⟩ | ⟨a, a2, b, c⟩ | ⟨a, a2, b, c⟩ <;> rcases h2 with ⟨d, e, f⟩ | ⟨d, d2, e, f⟩ | ⟨d, d2, e, f⟩ <;> first | (subst b c e f; exact ⟨rfl, rfl⟩) | exact absurd d a | exact absurd a d | exact absurd a2 (Int32.not_lt.mpr d2) | exact absurd d2 (Int32.not_lt.mpr a2)
theorem Sf.at_ {α : Type} {x : Option α} {Q : α → Prop} {a : α} (h : Sf x Q) (e : x = some a) : Q a := by
  obtain ⟨b, e2, q⟩ := h
  rw [e] at e2
  cases e2
  exact q
theorem fd_no {v p2 : Int32} (hv : (v = 1 ∧ 1 ≤ p2 ∧ p2 ≤ 4) ∨ (v = 0 ∧ (p2 < 1 ∨ 4 < p2))) (hc : v = 0) : ¬ (1 ≤ p2 ∧ p2 ≤ 4) := by
  rintro ⟨b, c⟩
  rcases hv with ⟨a, _⟩ | ⟨_, a | a⟩
  · rw [hc] at a; exact absurd a (by decide)
  · exact absurd b (Int32.not_le.mpr a)
  · exact absurd c (Int32.not_le.mpr a)
theorem fd_yes {v p2 : Int32} (hv : (v = 1 ∧ 1 ≤ p2 ∧ p2 ≤ 4) ∨ (v = 0 ∧ (p2 < 1 ∨ 4 < p2))) (hc : ¬ v = 0) : 1 ≤ p2 ∧ p2 ≤ 4 := by
  rcases hv with ⟨_, a⟩ | ⟨a, _⟩
  · exact a
  · exact absurd a hc
theorem vX6_feed {n : Nat} {X0 : TwT} {bb : Nat → Int32} {sz a b c d p1 p2 r t : Int32} {G1 G2 : Nat → Int32} (hs : 0 ≤ sz ∧ sz ≤ 250) (h : fX6_feed n X0 (bb, sz, a, b, c, d) p1 p2 = some (r, G1, G2, t)) : FdR p2 sz r t := by
  unfold fX6_feed at h
  dsimp only [u4, u6] at h
  obtain ⟨v, e, h⟩ := bs h
  have hv := Sf.at_ sX6_within e
  by_cases hc : v = 0
  · have h := ip hc h
    obtain ⟨o, eo, h⟩ := bs h
    have er := vX6_refuse eo
    dsimp only [u2] at h
    have h := Option.some.inj h
    have h1 : o.1 = r := congrArg (fun z => z.1) h
    have h2 : sz = t := congrArg (fun z => z.2.2.2) h
    exact Or.inl ⟨fd_no hv hc, by rw [← h1, er], h2.symm⟩
  · have h := iq hc h
    have hv2 := fd_yes hv hc
    by_cases hd : sz + p2 ≤ 250
    · have h := ip hd h
      obtain ⟨o, eo, h⟩ := bs h
      have q := feedA n (p2 - 1) bb sz (by clear h eo e; grind) hs (by clear h eo e; grind) eo
      dsimp only [u2] at h
      have h := Option.some.inj h
      have h1 : o.2 = r := congrArg (fun z => z.1) h
      have h2 : o.2 = t := congrArg (fun z => z.2.2.2) h
      have q2 : o.2 = sz + p2 := by rw [q]; clear h eo e q h1 h2; grind
      exact Or.inr (Or.inr ⟨hv2, hd, by rw [← h1, q2], by rw [← h2, q2]⟩)
    · have h := iq hd h
      obtain ⟨o, eo, h⟩ := bs h
      have er := vX6_refuse eo
      dsimp only [u2] at h
      have h := Option.some.inj h
      have h1 : o.1 = r := congrArg (fun z => z.1) h
      have h2 : sz = t := congrArg (fun z => z.2.2.2) h
      exact Or.inr (Or.inl ⟨hv2, Int32.not_le.mp hd, by rw [← h1, er], h2.symm⟩)
theorem vX7_feed {n : Nat} {X0 : MdT} {sz p1 p2 r t : Int32} {G1 G2 : Nat → Int32} (hz : X0.2.2.2.2.2.2.2.1 = sz) (hs : 0 ≤ sz ∧ sz ≤ 250) (h : fX7_feed n X0 p1 p2 = some (r, G1, t, G2)) : FdR p2 sz r t := by
  unfold fX7_feed at h
  dsimp only [u35] at h
  rw [hz] at h
  obtain ⟨v, e, h⟩ := bs h
  have hv := Sf.at_ (s_inq p2 1 4 rfl rfl) e
  by_cases hc : v = 0
  · have h := ip hc h
    obtain ⟨o, eo, h⟩ := bs h
    have er := vX7_refuse eo
    dsimp only [u2] at h
    have h := Option.some.inj h
    have h1 : o.1 = r := congrArg (fun z => z.1) h
    have h2 : sz = t := congrArg (fun z => z.2.2.1) h
    exact Or.inl ⟨fd_no hv hc, by rw [← h1, er], h2.symm⟩
  · have h := iq hc h
    have hv2 := fd_yes hv hc
    by_cases hd : p2 ≤ 250 - sz
    · have h := ip hd h
      obtain ⟨o, eo, h⟩ := bs h
      have hd2 : sz + p2 ≤ 250 := by clear h eo e; grind
      have q := feedB n (p2 - 1) _ sz (by clear h eo e; grind) hs (by clear h eo e; grind) eo
      dsimp only [u2] at h
      have h := Option.some.inj h
      have h1 : o.2 = r := congrArg (fun z => z.1) h
      have h2 : o.2 = t := congrArg (fun z => z.2.2.1) h
      have q2 : o.2 = sz + p2 := by rw [q]; clear h eo e q h1 h2; grind
      exact Or.inr (Or.inr ⟨hv2, hd2, by rw [← h1, q2], by rw [← h2, q2]⟩)
    · have h := iq hd h
      obtain ⟨o, eo, h⟩ := bs h
      have er := vX7_refuse eo
      have hd2 : 250 < sz + p2 := by clear h eo e er; grind
      dsimp only [u2] at h
      have h := Option.some.inj h
      have h1 : o.1 = r := congrArg (fun z => z.1) h
      have h2 : sz = t := congrArg (fun z => z.2.2.1) h
      exact Or.inr (Or.inl ⟨hv2, hd2, by rw [← h1, er], h2.symm⟩)

/-! the class's edges are the reference's, on alike lands -/
theorem tq_on {s : Int32} {k : Nat} (h : k < 31) : ¬ ((s >>> (Int32.ofNat k &&& 31)) &&& 1) = 0 ↔ tq s k = true := by
  rw [tq_get h]
  cases tq s k <;> simp
theorem EdC_Ed {L ec : Nat} {p2 tons : Int32} {line : Nat → Nat → Int32} {lines coin chg eA eB eC changes coins left : Nat → Int32} (hE : EgOk lines coin p2 (fun l _ => l < L) eA eB eC ec) (hb : ∀ l, l < 20 → (tq p2 l = true ↔ (l < L ∧ line l 6 = 0))) (hL : L ≤ 20) (hl : ∀ l, l < L → ∀ c, c < 6 → line l c = lines (7 * l + c)) (hco : ∀ w, w < 3 → coins w = coin w) (hch : ∀ p, p < 12 → changes p = chg p) (hleft : ∀ l, l < L → ¬ left l < tons) (u v : Nat) (c : Int) : EdC ec eA eB eC chg u v c ↔ Ed L line changes coins left tons u v c := by
  constructor
  · rintro (⟨e, he, rfl, h⟩ | ⟨p, w, w', hp, hw, hw', rfl, rfl, rfl⟩)
    · obtain ⟨l, w, hq, hw, hu, g1, g2, g3⟩ := hE.1 e he
      have hq : l < L := hq
      have b6 : line l 6 = 0 := ((hb l (by omega)).mp ((tq_on (by omega)).mp hu.1)).2
      have b2 : ¬ ((line l 2 >>> (Int32.ofNat w &&& 31)) &&& 1) = 0 := by
        rw [hl l hq 2 (by decide)]
        exact hu.2
      refine Or.inl ⟨l, w, hq, hw, ⟨b6, b2, hleft l hq⟩, ?_, ?_⟩
      · rw [g3, hl l hq 3 (by decide), hco w hw]
      · rw [hl l hq 0 (by decide), hl l hq 1 (by decide), ← g1, ← g2]
        exact h
    · exact Or.inr ⟨p, w, w', hp, hw, hw', rfl, rfl, by rw [hch p hp]⟩
  · rintro (⟨l, w, hq, hw, ⟨b6, b2, _⟩, rfl, h⟩ | ⟨p, w, w', hp, hw, hw', rfl, rfl, rfl⟩)
    · have hu : Us lines p2 l w := by
        refine ⟨(tq_on (by omega)).mpr ((hb l (by omega)).mpr ⟨hq, ?_⟩), ?_⟩
        · exact b6
        · rw [← hl l hq 2 (by decide)]; exact b2
      obtain ⟨e, he, g1, g2, g3⟩ := hE.2 l w hq hw hu
      refine Or.inl ⟨e, he, ?_, ?_⟩
      · rw [g3, hl l hq 3 (by decide), hco w hw]
      · rw [hl l hq 0 (by decide), hl l hq 1 (by decide), ← g1, ← g2] at h
        exact h
    · exact Or.inr ⟨p, w, w', hp, hw, hw', rfl, rfl, by rw [hch p hp]⟩

/-! the reference's least costs, with 1000000 where there is no way -/
def cut6 (far : Nat → Int32) (v : Nat) : Int32 := if far v < 1000000000 then far v else 1000000
theorem TF_far {D : Nat → Nat → Int → Prop} {G : Nat → Prop} {far : Nat → Int32} (hA : AI 0 1000000000 far) (hAt : At D G far) (hF : FxD D far) (hD : ∀ u v c, D u v c → u < 36 ∧ v < 36 ∧ c ≤ 999) (hD0 : ∀ u v c, D u v c → 0 ≤ c) (hG36 : ∀ u, G u → u < 36) {g0 : Nat} (hg0 : G g0) : TF D G (cut6 far) := by
  have zm : (1000000 : Int32).toInt = 1000000 := by decide
  have zb : (1000000000 : Int32).toInt = 1000000000 := by decide
  have z0 : (0 : Int32).toInt = 0 := by decide
  have hG0 : ∀ u, G u → far u = 0 := fun u hu => hAt.1 u (hG36 u hu) hu
  have lt : ∀ v, far v < 1000000000 ↔ (far v).toInt < 1000000000 := by
    intro v
    rw [Int32.lt_iff_toInt_lt, zb]
  have bd : ∀ v, v < 36 → far v < 1000000000 → (far v).toInt ≤ 35964 := by
    intro v hv h
    obtain ⟨k, hk⟩ := hAt.2 v hv ((lt v).mp h)
    exact far_bound hF hD hG0 (hG36 g0 hg0) hg0 hk
  have val : ∀ v, (far v < 1000000000 → cut6 far v = far v) ∧ (¬ far v < 1000000000 → cut6 far v = 1000000) := by
    intro v
    unfold cut6
    exact ⟨fun h => if_pos h, fun h => if_neg h⟩
  refine ⟨fun v hv => ?_, fun u hu => ?_, fun u v c h => ?_, fun u hu h => ?_⟩
  · by_cases h : far v < 1000000000
    · rw [(val v).1 h]
      refine ⟨(hA v).1, Int32.le_iff_toInt_le.mpr ?_⟩
      have q := bd v hv h
      omega
    · rw [(val v).2 h]
      decide
  · have e := hG0 u hu
    have h : far u < 1000000000 := by rw [e]; decide
    rw [(val u).1 h, e]
  · obtain ⟨hu, hv, hc⟩ := hD u v c h
    have h0 := hD0 u v c h
    have hf := hF u v c h
    have au := i32_b (hA u)
    have av := i32_b (hA v)
    rw [z0, zb] at au av
    by_cases hb : far v < 1000000000
    · have q := bd v hv hb
      have hu2 : far u < 1000000000 := (lt u).mpr (by omega)
      rw [(val u).1 hu2, (val v).1 hb]
      exact hf
    · rw [(val v).2 hb, zm]
      by_cases hu2 : far u < 1000000000
      · have q := bd u hu hu2
        rw [(val u).1 hu2]
        omega
      · rw [(val u).2 hu2, zm]
        omega
  · by_cases hb : far u < 1000000000
    · rw [(val u).1 hb]
      exact hAt.2 u hu ((lt u).mp hb)
    · rw [(val u).2 hb, zm] at h
      omega
theorem FxD_far {L : Nat} {line : Nat → Nat → Int32} {changes coins left far : Nat → Int32} {tons : Int32} (hA : AI 0 1000000000 far) (hl : LnM line) (hco : AI 0 9 coins) (hch : AI 0 99 changes) (h1 : ∀ l : Nat, l < L → ∀ w : Nat, w < 3 → OKl line coins left tons far l w) (h2 : ∀ m : Nat, m < 36 → ∀ w : Nat, w < 3 → OKc changes far m w) : FxD (Ed L line changes coins left tons) far := by
  have zb : (1000000000 : Int32).toInt = 1000000000 := by decide
  have z0 : (0 : Int32).toInt = 0 := by decide
  have z9 : (999 : Int32).toInt = 999 := by decide
  have z99 : (99 : Int32).toInt = 99 := by decide
  intro u v c h
  rcases h with ⟨l, w, hL, hw, hb, rfl, ⟨rfl, rfl⟩ | ⟨rfl, rfl⟩⟩ | ⟨p, w, w', hp, hw, hw', rfl, rfl, rfl⟩
  · have q := (h1 l hL w hw hb).1
    have m := i32_b (mc9 (a := line l 3) (b := coins w) (hl l 3) (hco w))
    have av := i32_b (hA (3 * (line l 1).toNatClampNeg + w))
    rw [z0, z9] at m
    rw [z0, zb] at av
    have r := Int32.le_iff_toInt_le.mp q
    rw [i32_add (by omega) (by omega)] at r
    exact r
  · have q := (h1 l hL w hw hb).2
    have m := i32_b (mc9 (a := line l 3) (b := coins w) (hl l 3) (hco w))
    have av := i32_b (hA (3 * (line l 0).toNatClampNeg + w))
    rw [z0, z9] at m
    rw [z0, zb] at av
    have r := Int32.le_iff_toInt_le.mp q
    rw [i32_add (by omega) (by omega)] at r
    exact r
  · have q := h2 (3 * p + w) (by omega) w' hw'
    unfold OKc at q
    have e1 : (3 * p + w) / 3 = p := by omega
    rw [e1] at q
    have e2 : p * 3 + w' = 3 * p + w' := by omega
    rw [e2] at q
    have m := i32_b (hch p)
    have av := i32_b (hA (3 * p + w'))
    rw [z0, z99] at m
    rw [z0, zb] at av
    have r := Int32.le_iff_toInt_le.mp q
    rw [i32_add (by omega) (by omega)] at r
    exact r

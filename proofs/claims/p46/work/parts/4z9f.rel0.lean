theorem rz_ai {hi : Int32} (h : 0 ≤ hi) : AI 0 hi (fun _ => 0) := fun _ => ⟨Int32.le_refl 0, h⟩
theorem rz_lnB (k : Nat) : (0 : Int32) ≤ lnB k := by
  match k with
  | 0 => decide
  | 1 => decide
  | 2 => decide
  | 3 => decide
  | 4 => decide
  | 5 => decide
  | 6 => decide
  | k + 7 => exact Int32.le_refl 0
theorem rz_gdB (k : Nat) : (0 : Int32) ≤ gdB k := by
  match k with
  | 0 => decide
  | 1 => decide
  | 2 => decide
  | k + 3 => exact Int32.le_refl 0
theorem rz_wkB (k : Nat) : (0 : Int32) ≤ wkB k := by
  match k with
  | 0 => decide
  | 1 => decide
  | 2 => decide
  | 3 => decide
  | 4 => decide
  | k + 5 => exact Int32.le_refl 0
theorem rz_LnOk : LnOk (fun _ => 0) := fun j => ⟨Int32.le_refl 0, rz_lnB _⟩
theorem rz_GdOk : GdOk (fun _ => 0) := fun j => ⟨Int32.le_refl 0, rz_gdB _⟩
theorem rz_WkOk : WkOk (fun _ => 0) := ⟨fun j => ⟨Int32.le_refl 0, rz_wkB _⟩, fun k => show WkR 0 0 0 by unfold WkR; decide⟩
theorem rz_LnM : LnM (fun _ _ => 0) := fun q c => ⟨Int32.le_refl 0, rz_lnB _⟩
theorem rz_GdM : GdM (fun _ _ => 0) := fun q c => ⟨Int32.le_refl 0, rz_gdB _⟩
theorem rz_WkM : WkM (fun _ _ => 0) := ⟨fun q c => ⟨Int32.le_refl 0, rz_wkB _⟩, fun q _ => show WkRm 0 0 0 by unfold WkRm; decide⟩
theorem rz_ch : AI 0 99 (fillV 12 9 (fun _ => 0)) := AI.fill (rz_ai (by decide)) ⟨by decide, by decide⟩
theorem rz_coin : AI 0 9 (fillV 3 1 (fun _ => 0)) := AI.fill (rz_ai (by decide)) ⟨by decide, by decide⟩
theorem rz_coins : AI 0 9 (va_up (va_up (va_up (fun _ => 0) 0 1) 1 1) 2 1) := AI.up (AI.up (AI.up (rz_ai (by decide)) ⟨by decide, by decide⟩) ⟨by decide, by decide⟩) ⟨by decide, by decide⟩
theorem rz_held : AI (-1) 16 (fillV 8 (-1) (fun _ => 0)) := AI.fill (fun _ => ⟨by decide, by decide⟩) ⟨by decide, by decide⟩
theorem rz_0 {hi : Int32} (h : 0 ≤ hi) : (0 : Int32) ≤ 0 ∧ (0 : Int32) ≤ hi := ⟨Int32.le_refl 0, h⟩
theorem rz_y : (1 : Int32) ≤ 10 ∧ (10 : Int32) ≤ 30 := ⟨by decide, by decide⟩
set_option maxHeartbeats 4000000 in
set_option maxRecDepth 100000 in
theorem relB0 : RelC (((fun _ => 0), 0, 0, 0), (0, 0, 0, 10, (fun _ => 0), (fun _ => 0), (fun _ => 0), (fillV 12 9 (fun _ => 0)), (fillV 3 1 (fun _ => 0)), (fun _ => 0), 0), (0, 0, 0, 10, (fun _ => 0), (fun _ => 0), (fun _ => 0), (fillV 12 9 (fun _ => 0)), (fillV 3 1 (fun _ => 0)), (fun _ => 0), 0), ((fun _ => 0), 0, 0, 0, 0, 0), ((fun _ _ => 0), (fillV 8 (-1) (fun _ => 0)), (fun _ => 0)), (fun _ => 0), ((fun _ => 0), (fun _ => 0), 0, 0), ((fun _ => 0), (fun _ => 0), (fun _ => 0), (fun _ => 0), (fun _ => 0), (fun _ => 0), (fun _ => 0), (fun _ => 0), 0, (fun _ => 0), 0, 0, 0, (-1)), (0, 0, 0, 10, (fun _ => 0), (fun _ => 0), (fun _ => 0), (fillV 12 9 (fun _ => 0)), (fillV 3 1 (fun _ => 0)), (fun _ => 0), 0), (0, 0, 0, 10, (fun _ => 0), (fun _ => 0), (fun _ => 0), (fillV 12 9 (fun _ => 0)), (fillV 3 1 (fun _ => 0)), (fun _ => 0), 0), ((fun _ => 0), (fun _ => 0), (fun _ => 0), (fun _ _ => 0), (fun _ => 0), (fun _ => 0), (fun _ => 0), 0, (fun _ => 0), 0, (fun _ _ => 0), (fillV 12 9 (fun _ => 0)), (va_up (va_up (va_up (fun _ => 0) 0 1) 1 1) 2 1), 0, (fun _ _ => 0), 0, (fun _ _ => 0), 10, 0, 0, 0, 0, 0, 0, 0, (fun _ => 0), 0, (fun _ => 0), (fun _ => 0), 0, (fun _ => 0), 0, 0, (fun _ => 0), (fun _ => 0)), ((fun _ => 0), (fun _ => 0), (fun _ => 0), (fun _ _ => 0), (fun _ => 0), (fun _ => 0), (fun _ => 0), 0, (fun _ => 0), 0, (fun _ _ => 0), (fillV 12 9 (fun _ => 0)), (va_up (va_up (va_up (fun _ => 0) 0 1) 1 1) 2 1), 0, (fun _ _ => 0), 0, (fun _ _ => 0), 10, 0, 0, 0, 0, 0, 0, 0, (fun _ => 0), 0, (fun _ => 0), (fun _ => 0), 0, (fun _ => 0), 0, 0, (fun _ => 0), (fun _ => 0)), ((fun _ => 0), (fun _ => 0), (fun _ => 0), (fun _ _ => 0), (fun _ => 0), (fun _ => 0), (fun _ => 0), 0, (fun _ => 0), 0, (fun _ _ => 0), (fillV 12 9 (fun _ => 0)), (va_up (va_up (va_up (fun _ => 0) 0 1) 1 1) 2 1), 0, (fun _ _ => 0), 0, (fun _ _ => 0), 10, 0, 0, 0, 0, 0, 0, 0, (fun _ => 0), 0, (fun _ => 0), (fun _ => 0), 0, (fun _ => 0), 0, 0, (fun _ => 0), (fun _ => 0)), ((fun _ => 0), (fun _ => 0), (fun _ => 0), (fun _ _ => 0), (fun _ => 0), (fun _ => 0), (fun _ => 0), 0, (fun _ => 0), 0, (fun _ _ => 0), (fillV 12 9 (fun _ => 0)), (va_up (va_up (va_up (fun _ => 0) 0 1) 1 1) 2 1), 0, (fun _ _ => 0), 0, (fun _ _ => 0), 10, 0, 0, 0, 0, 0, 0, 0, (fun _ => 0), 0, (fun _ => 0), (fun _ => 0), 0, (fun _ => 0), 0, 0, (fun _ => 0), (fun _ => 0)), ((fun _ => 0), (fun _ => 0), (fun _ => 0), (fun _ _ => 0), (fun _ => 0), (fun _ => 0), (fun _ => 0), 0, (fun _ => 0), 0, (fun _ _ => 0), (fillV 12 9 (fun _ => 0)), (va_up (va_up (va_up (fun _ => 0) 0 1) 1 1) 2 1), 0, (fun _ _ => 0), 0, (fun _ _ => 0), 10, 0, 0, 0, 0, 0, 0, 0, (fun _ => 0), 0, (fun _ => 0), (fun _ => 0), 0, (fun _ => 0), 0, 0, (fun _ => 0), (fun _ => 0)), false) := by
  unfold RelC
  exact ⟨(by unfold Ob1; exact ⟨(rz_0 (by decide)), (rz_0 (by decide)), (rz_0 (by decide)), rz_y, rz_LnOk, rz_GdOk, rz_WkOk, rz_ch, rz_coin⟩), (by unfold Ob1; exact ⟨(rz_0 (by decide)), (rz_0 (by decide)), (rz_0 (by decide)), rz_y, rz_LnOk, rz_GdOk, rz_WkOk, rz_ch, rz_coin⟩), (by unfold Ob3; exact ⟨(rz_0 (by decide)), (rz_0 (by decide)), (rz_0 (by decide))⟩), (by unfold Ob2; exact ⟨rz_held, (rz_ai (by decide))⟩), (by unfold Ob5; exact ⟨(rz_ai (by decide)), (rz_ai (by decide)), (rz_ai (by decide)), (rz_ai (by decide)), (rz_ai (by decide)), (rz_0 (by decide)), (rz_ai (by decide)), (rz_0 (by decide)), (rz_0 (by decide))⟩), (by unfold Ob1; exact ⟨(rz_0 (by decide)), (rz_0 (by decide)), (rz_0 (by decide)), rz_y, rz_LnOk, rz_GdOk, rz_WkOk, rz_ch, rz_coin⟩), (by unfold Ob1; exact ⟨(rz_0 (by decide)), (rz_0 (by decide)), (rz_0 (by decide)), rz_y, rz_LnOk, rz_GdOk, rz_WkOk, rz_ch, rz_coin⟩), (by unfold Ob7; exact ⟨(rz_ai (by decide)), (rz_ai (by decide)), (rz_0 (by decide)), (rz_0 (by decide)), rz_LnM, rz_ch, rz_coins, (rz_0 (by decide)), rz_GdM, (rz_0 (by decide)), rz_WkM, rz_y, (rz_0 (by decide)), (rz_ai (by decide)), (rz_ai (by decide)), (rz_0 (by decide)), (rz_ai (by decide))⟩), (by unfold Ob7; exact ⟨(rz_ai (by decide)), (rz_ai (by decide)), (rz_0 (by decide)), (rz_0 (by decide)), rz_LnM, rz_ch, rz_coins, (rz_0 (by decide)), rz_GdM, (rz_0 (by decide)), rz_WkM, rz_y, (rz_0 (by decide)), (rz_ai (by decide)), (rz_ai (by decide)), (rz_0 (by decide)), (rz_ai (by decide))⟩), (by unfold Ob7; exact ⟨(rz_ai (by decide)), (rz_ai (by decide)), (rz_0 (by decide)), (rz_0 (by decide)), rz_LnM, rz_ch, rz_coins, (rz_0 (by decide)), rz_GdM, (rz_0 (by decide)), rz_WkM, rz_y, (rz_0 (by decide)), (rz_ai (by decide)), (rz_ai (by decide)), (rz_0 (by decide)), (rz_ai (by decide))⟩), (by unfold Ob7; exact ⟨(rz_ai (by decide)), (rz_ai (by decide)), (rz_0 (by decide)), (rz_0 (by decide)), rz_LnM, rz_ch, rz_coins, (rz_0 (by decide)), rz_GdM, (rz_0 (by decide)), rz_WkM, rz_y, (rz_0 (by decide)), (rz_ai (by decide)), (rz_ai (by decide)), (rz_0 (by decide)), (rz_ai (by decide))⟩), (by unfold Ob7; exact ⟨(rz_ai (by decide)), (rz_ai (by decide)), (rz_0 (by decide)), (rz_0 (by decide)), rz_LnM, rz_ch, rz_coins, (rz_0 (by decide)), rz_GdM, (rz_0 (by decide)), rz_WkM, rz_y, (rz_0 (by decide)), (rz_ai (by decide)), (rz_ai (by decide)), (rz_0 (by decide)), (rz_ai (by decide))⟩), (fun k h => absurd (show (0 : Int32) = 2 from h) (by decide)), rfl, ⟨fun _ => rfl, fun _ => rfl⟩⟩

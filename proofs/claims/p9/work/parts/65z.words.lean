set_option maxRecDepth 100000 in
theorem wn_yX6_init : Cond.instanceMethod yX6_init ∈ gW := gW_t1 20 rfl rfl
set_option maxRecDepth 100000 in
theorem wcl_RL_7 : Cond.classLink RL 7 "TwoWidths" ∈ gW := gW_t1 17 rfl rfl
theorem df_X6 : ∀ j, j < 10 → defaultValue (tyX6 j) = vp_V [.null, .null, .null, .null, .null, .null, .null, .int 0, .int 0, .int 0] j := by decide +kernel
theorem nw_RL_7 : Cond.classLink RL 7 RX6 ∈ gW ∧ Cond.instantiable RX6 10 ∈ gW ∧ Cond.initialized RX6 ∈ gW ∧ ∀ w ∈ u_ws RX6 TX6 10, w ∈ gW := ⟨wcl_RL_7, win_X6, wi_TwoWidths, wl_X6⟩
set_option maxRecDepth 100000 in
theorem wcl_RL_10 : Cond.classLink RL 10 "TwoWidthsModel" ∈ gW := gW_t5 32 rfl rfl
theorem nw_RL_10 : Cond.classLink RL 10 RX7 ∈ gW ∧ Cond.instantiable RX7 38 ∈ gW ∧ Cond.initialized RX7 ∈ gW ∧ ∀ w ∈ u_ws RX7 TX7 38, w ∈ gW := ⟨wcl_RL_10, win_X7, wi_TwoWidthsModel, wl_X7⟩
set_option maxRecDepth 100000 in
theorem wm_RL_9 : Cond.methodLink RL 9 yX6_init ∈ gW := gW_t1 19 rfl rfl
set_option maxRecDepth 100000 in
theorem wc_yX6_init : Cond.code yX6_init cX6_init 1 none ∈ gW := gW_t1 21 rfl rfl
theorem cv_RL_9 : CV RL 9 yX6_init cX6_init 1 none 0 := ⟨wm_RL_9, wc_yX6_init, wi_TwoWidths, ⟨by decide, by decide⟩, by decide +kernel⟩
set_option maxRecDepth 100000 in
theorem wm_RL_12 : Cond.methodLink RL 12 yX7_init ∈ gW := gW_t5 34 rfl rfl
theorem cv_RL_12 : CV RL 12 yX7_init cX7_init 2 none 0 := ⟨wm_RL_12, wc_yX7_init, wi_TwoWidthsModel, ⟨by decide, by decide⟩, by decide +kernel⟩

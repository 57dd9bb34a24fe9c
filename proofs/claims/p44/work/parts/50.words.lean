set_option maxRecDepth 100000 in
theorem wcl_RX7_8 : Cond.classLink RX7 8 "TwoWidthsModel" ∈ gW := gW_t6 36 rfl rfl
set_option maxRecDepth 100000 in
theorem win_X7 : Cond.instantiable RX7 38 ∈ gW := gW_t5 33 rfl rfl
theorem df_X7 : ∀ j, j < 38 → defaultValue (tyX7 j) = vp_V [.null, .null, .null, .null, .null, .null, .null, .int 0, .null, .int 0, .null, .null, .null, .int 0, .null, .int 0, .null, .int 0, .int 0, .int 0, .null, .null, .null, .int 0, .int 0, .int 0, .long 0, .int 0, .null, .int 0, .null, .null, .int 0, .null, .int 0, .long 0, .null, .null] j := by decide +kernel
theorem nw_RX7_8 : Cond.classLink RX7 8 RX7 ∈ gW ∧ Cond.instantiable RX7 38 ∈ gW ∧ Cond.initialized RX7 ∈ gW ∧ ∀ w ∈ u_ws RX7 TX7 38, w ∈ gW := ⟨wcl_RX7_8, win_X7, wi_TwoWidthsModel, wl_X7⟩
set_option maxRecDepth 100000 in
theorem wn_yX7_init : Cond.instanceMethod yX7_init ∈ gW := gW_t5 35 rfl rfl
set_option maxRecDepth 100000 in
theorem wm_RX7_295 : Cond.methodLink RX7 295 yX7_init ∈ gW := gW_t6 37 rfl rfl
set_option maxRecDepth 100000 in
theorem wc_yX7_init : Cond.code yX7_init cX7_init 2 none ∈ gW := gW_t5 36 rfl rfl
theorem cv_RX7_295 : CV RX7 295 yX7_init cX7_init 2 none 0 := ⟨wm_RX7_295, wc_yX7_init, wi_TwoWidthsModel, ⟨by decide, by decide⟩, by decide +kernel⟩
theorem fp_RX7_291 : FP RX7 291 7 21 (.object "TwoWidthsModel") false := ⟨RX7, TX7, 38, tyX7, rfl, by decide, wf_RX7_291, wl_X7, tyX7_ok, nmX7, rfl, by decide +kernel, fun h => by first | rfl | cases h⟩
theorem fp_RX7_310 : FP RX7 310 7 22 (.object "TwoWidthsModel") false := ⟨RX7, TX7, 38, tyX7, rfl, by decide, wf_RX7_310, wl_X7, tyX7_ok, nmX7, rfl, by decide +kernel, fun h => by first | rfl | cases h⟩
theorem fp_RX7_353 : FP RX7 353 7 20 (.object "TwoWidthsModel") false := ⟨RX7, TX7, 38, tyX7, rfl, by decide, wf_RX7_353, wl_X7, tyX7_ok, nmX7, rfl, by decide +kernel, fun h => by first | rfl | cases h⟩

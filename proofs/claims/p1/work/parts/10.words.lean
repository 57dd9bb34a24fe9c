set_option maxRecDepth 100000 in
theorem wf_RX1_30 : Cond.fieldLink RX1 30 "TwoWidths$Land" "lineCount" "I" ∈ gW := gW_mem 103 rfl rfl
theorem wl_X1 : ∀ w ∈ u_ws RX1 TX1 11, w ∈ gW := gW_all [132, 134, 136, 138, 140, 142, 144, 146, 148, 150, 152] (by decide +kernel) (by decide +kernel)
theorem fo_RX1_30 : FO RX1 30 1 0 := ⟨RX1, TX1, 11, rfl, by decide, wf_RX1_30, wl_X1⟩
set_option maxRecDepth 100000 in
theorem wc_yX6_within : Cond.code yX6_within cX6_within 3 (some .boolean) ∈ gW := gW_mem 348 rfl rfl
set_option maxRecDepth 100000 in
theorem wi_TwoWidths : Cond.initialized RX6 ∈ gW := gW_mem 70 rfl rfl
set_option maxRecDepth 100000 in
theorem ws_yX6_within : Cond.static yX6_within ∈ gW := gW_mem 347 rfl rfl
set_option maxRecDepth 100000 in
theorem cn_RX1_59 : CN RX1 59 yX6_within RX6 cX6_within 3 (some .boolean) 3 := ⟨nest_mem 411 rfl, wc_yX6_within, wi_TwoWidths, ws_yX6_within, ⟨by decide, by decide⟩, by decide +kernel⟩
set_option maxRecDepth 100000 in
theorem wf_RX1_9 : Cond.fieldLink RX1 9 "TwoWidths$Land" "lines" "[I" ∈ gW := gW_mem 121 rfl rfl
theorem fo_RX1_9 : FO RX1 9 1 4 := ⟨RX1, TX1, 11, rfl, by decide, wf_RX1_9, wl_X1⟩
theorem fp_RX1_30 : FP RX1 30 1 0 .int false := ⟨RX1, TX1, 11, tyX1, rfl, by decide, wf_RX1_30, wl_X1, tyX1_ok, nmX1, rfl, by decide +kernel, fun h => by first | rfl | cases h⟩
set_option maxRecDepth 100000 in
theorem wf_RX1_43 : Cond.fieldLink RX1 43 "TwoWidths$Land" "isKnown" "Z" ∈ gW := gW_mem 131 rfl rfl
theorem fp_RX1_43 : FP RX1 43 1 10 .boolean false := ⟨RX1, TX1, 11, tyX1, rfl, by decide, wf_RX1_43, wl_X1, tyX1_ok, nmX1, rfl, by decide +kernel, fun h => by first | rfl | cases h⟩
set_option maxRecDepth 100000 in
theorem wf_RX1_18 : Cond.fieldLink RX1 18 "TwoWidths$Land" "works" "[I" ∈ gW := gW_mem 123 rfl rfl
theorem fo_RX1_18 : FO RX1 18 1 6 := ⟨RX1, TX1, 11, rfl, by decide, wf_RX1_18, wl_X1⟩
set_option maxRecDepth 100000 in
theorem wm_RX1_63 : Cond.methodLink RX1 63 yX1_ofWork ∈ gW := gW_mem 793 rfl rfl
set_option maxRecDepth 100000 in
theorem wc_yX1_ofWork : Cond.code yX1_ofWork cX1_ofWork 3 (some .int) ∈ gW := gW_mem 424 rfl rfl
set_option maxRecDepth 100000 in
theorem wi_TwoWidths_Land : Cond.initialized RX1 ∈ gW := gW_mem 71 rfl rfl
theorem cv_RX1_63 : CV RX1 63 yX1_ofWork cX1_ofWork 3 (some .int) 2 := ⟨wm_RX1_63, wc_yX1_ofWork, wi_TwoWidths_Land, ⟨by decide, by decide⟩, by decide +kernel⟩
set_option maxRecDepth 100000 in
theorem wn_yX1_ofWork : Cond.instanceMethod yX1_ofWork ∈ gW := gW_mem 422 rfl rfl
set_option maxRecDepth 100000 in
theorem wv_yX1_ofWork : Cond.selects RX1 yX1_ofWork yX1_ofWork ∈ gW := gW_mem 423 rfl rfl
theorem iv_yX1_ofWork : Cond.instanceMethod yX1_ofWork ∈ gW ∧ Cond.selects yX1_ofWork.cls yX1_ofWork yX1_ofWork ∈ gW := ⟨wn_yX1_ofWork, wv_yX1_ofWork⟩
set_option maxRecDepth 100000 in
theorem wf_RX1_37 : Cond.fieldLink RX1 37 "TwoWidths$Land" "workCount" "I" ∈ gW := gW_mem 113 rfl rfl
theorem fo_RX1_37 : FO RX1 37 1 2 := ⟨RX1, TX1, 11, rfl, by decide, wf_RX1_37, wl_X1⟩
set_option maxRecDepth 100000 in
theorem wm_RX1_67 : Cond.methodLink RX1 67 yX1_isDone ∈ gW := gW_mem 789 rfl rfl
set_option maxRecDepth 100000 in
theorem wc_yX1_isDone : Cond.code yX1_isDone cX1_isDone 2 (some .boolean) ∈ gW := gW_mem 792 rfl rfl
theorem cv_RX1_67 : CV RX1 67 yX1_isDone cX1_isDone 2 (some .boolean) 1 := ⟨wm_RX1_67, wc_yX1_isDone, wi_TwoWidths_Land, ⟨by decide, by decide⟩, by decide +kernel⟩
set_option maxRecDepth 100000 in
theorem wn_yX1_isDone : Cond.instanceMethod yX1_isDone ∈ gW := gW_mem 790 rfl rfl
set_option maxRecDepth 100000 in
theorem wv_yX1_isDone : Cond.selects RX1 yX1_isDone yX1_isDone ∈ gW := gW_mem 791 rfl rfl
theorem iv_yX1_isDone : Cond.instanceMethod yX1_isDone ∈ gW ∧ Cond.selects yX1_isDone.cls yX1_isDone yX1_isDone ∈ gW := ⟨wn_yX1_isDone, wv_yX1_isDone⟩

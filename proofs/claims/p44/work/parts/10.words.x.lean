section
theorem lw_t1 {w : Cond} (i : Nat) (h : tables_1_1[i]? = some w) : w ∈ lw_tbl := List.mem_append_right _ (show w ∈ tables_1 from List.mem_append_left _ (List.mem_of_getElem? h))
theorem gW_t1 {w : Cond} (i : Nat) (h : tables_1_1[i]? = some w) (hg : goodWord w = true) : w ∈ gW := List.mem_filter.mpr ⟨lw_t1 i h, hg⟩
theorem lw_t2 {w : Cond} (i : Nat) (h : tables_1_2[i]? = some w) : w ∈ lw_tbl := List.mem_append_right _ (show w ∈ tables_1 from List.mem_append_right _ (List.mem_append_left _ (List.mem_of_getElem? h)))
theorem gW_t2 {w : Cond} (i : Nat) (h : tables_1_2[i]? = some w) (hg : goodWord w = true) : w ∈ gW := List.mem_filter.mpr ⟨lw_t2 i h, hg⟩
theorem lw_t3 {w : Cond} (i : Nat) (h : tables_1_3[i]? = some w) : w ∈ lw_tbl := List.mem_append_right _ (show w ∈ tables_1 from List.mem_append_right _ (List.mem_append_right _ (List.mem_append_left _ (List.mem_of_getElem? h))))
theorem gW_t3 {w : Cond} (i : Nat) (h : tables_1_3[i]? = some w) (hg : goodWord w = true) : w ∈ gW := List.mem_filter.mpr ⟨lw_t3 i h, hg⟩
theorem lw_t4 {w : Cond} (i : Nat) (h : tables_1_4[i]? = some w) : w ∈ lw_tbl := List.mem_append_right _ (show w ∈ tables_1 from List.mem_append_right _ (List.mem_append_right _ (List.mem_append_right _ (List.mem_append_left _ (List.mem_of_getElem? h)))))
theorem gW_t4 {w : Cond} (i : Nat) (h : tables_1_4[i]? = some w) (hg : goodWord w = true) : w ∈ gW := List.mem_filter.mpr ⟨lw_t4 i h, hg⟩
theorem lw_t5 {w : Cond} (i : Nat) (h : tables_1_5[i]? = some w) : w ∈ lw_tbl := List.mem_append_right _ (show w ∈ tables_1 from List.mem_append_right _ (List.mem_append_right _ (List.mem_append_right _ (List.mem_append_right _ (List.mem_append_left _ (List.mem_of_getElem? h))))))
theorem gW_t5 {w : Cond} (i : Nat) (h : tables_1_5[i]? = some w) (hg : goodWord w = true) : w ∈ gW := List.mem_filter.mpr ⟨lw_t5 i h, hg⟩
theorem lw_t6 {w : Cond} (i : Nat) (h : tables_1_6[i]? = some w) : w ∈ lw_tbl := List.mem_append_right _ (show w ∈ tables_1 from List.mem_append_right _ (List.mem_append_right _ (List.mem_append_right _ (List.mem_append_right _ (List.mem_append_right _ (List.mem_append_left _ (List.mem_of_getElem? h)))))))
theorem gW_t6 {w : Cond} (i : Nat) (h : tables_1_6[i]? = some w) (hg : goodWord w = true) : w ∈ gW := List.mem_filter.mpr ⟨lw_t6 i h, hg⟩
theorem lw_t7 {w : Cond} (i : Nat) (h : tables_1_7[i]? = some w) : w ∈ lw_tbl := List.mem_append_right _ (show w ∈ tables_1 from List.mem_append_right _ (List.mem_append_right _ (List.mem_append_right _ (List.mem_append_right _ (List.mem_append_right _ (List.mem_append_right _ (List.mem_of_getElem? h)))))))
theorem gW_t7 {w : Cond} (i : Nat) (h : tables_1_7[i]? = some w) (hg : goodWord w = true) : w ∈ gW := List.mem_filter.mpr ⟨lw_t7 i h, hg⟩
set_option maxRecDepth 100000 in
theorem wf_RJ0_9 : Cond.fieldLink RJ0 9 "java/lang/String" "value" "[B" ∈ gW := gW_t7 68 rfl rfl
set_option maxRecDepth 100000 in
theorem wf_RJ0_15 : Cond.fieldLink RJ0 15 "java/lang/String" "coder" "B" ∈ gW := gW_t7 69 rfl rfl
set_option maxRecDepth 100000 in
theorem wf_RJ0_38 : Cond.fieldLink RJ0 38 "java/lang/String" "COMPACT_STRINGS" "Z" ∈ gW := gW_t3 11 rfl rfl
set_option maxRecDepth 100000 in
theorem wf_RJ0_1053 : Cond.fieldLink RJ0 1053 "jdk/internal/util/Preconditions" "SIOOBE_FORMATTER" "Ljava/util/function/BiFunction;" ∈ gW := gW_t3 27 rfl rfl
set_option maxRecDepth 100000 in
theorem wn_yJ0_length_8abf5 : Cond.instanceMethod yJ0_length_8abf5 ∈ gW := gW_t3 4 rfl rfl
set_option maxRecDepth 100000 in
theorem wv_yJ0_length_8abf5 : Cond.selects RJ0 yJ0_length_8abf5 yJ0_length_8abf5 ∈ gW := gW_t3 5 rfl rfl
theorem iv_yJ0_length_8abf5 : Cond.instanceMethod yJ0_length_8abf5 ∈ gW ∧ Cond.selects yJ0_length_8abf5.cls yJ0_length_8abf5 yJ0_length_8abf5 ∈ gW := ⟨wn_yJ0_length_8abf5, wv_yJ0_length_8abf5⟩
set_option maxRecDepth 100000 in
theorem wn_yJ0_charAt_5068e : Cond.instanceMethod yJ0_charAt_5068e ∈ gW := gW_t3 14 rfl rfl
set_option maxRecDepth 100000 in
theorem wv_yJ0_charAt_5068e : Cond.selects RJ0 yJ0_charAt_5068e yJ0_charAt_5068e ∈ gW := gW_t3 15 rfl rfl
theorem iv_yJ0_charAt_5068e : Cond.instanceMethod yJ0_charAt_5068e ∈ gW ∧ Cond.selects yJ0_charAt_5068e.cls yJ0_charAt_5068e yJ0_charAt_5068e ∈ gW := ⟨wn_yJ0_charAt_5068e, wv_yJ0_charAt_5068e⟩
set_option maxRecDepth 100000 in
theorem wn_yJ0_coder_7d493 : Cond.instanceMethod yJ0_coder_7d493 ∈ gW := gW_t3 8 rfl rfl
set_option maxRecDepth 100000 in
theorem wv_yJ0_coder_7d493 : Cond.selects RJ0 yJ0_coder_7d493 yJ0_coder_7d493 ∈ gW := gW_t3 9 rfl rfl
theorem iv_yJ0_coder_7d493 : Cond.instanceMethod yJ0_coder_7d493 ∈ gW ∧ Cond.selects yJ0_coder_7d493.cls yJ0_coder_7d493 yJ0_coder_7d493 ∈ gW := ⟨wn_yJ0_coder_7d493, wv_yJ0_coder_7d493⟩
set_option maxRecDepth 100000 in
theorem wn_yJ0_isLatin1_aae02 : Cond.instanceMethod yJ0_isLatin1_aae02 ∈ gW := gW_t3 18 rfl rfl
set_option maxRecDepth 100000 in
theorem wv_yJ0_isLatin1_aae02 : Cond.selects RJ0 yJ0_isLatin1_aae02 yJ0_isLatin1_aae02 ∈ gW := gW_t3 19 rfl rfl
theorem iv_yJ0_isLatin1_aae02 : Cond.instanceMethod yJ0_isLatin1_aae02 ∈ gW ∧ Cond.selects yJ0_isLatin1_aae02.cls yJ0_isLatin1_aae02 yJ0_isLatin1_aae02 ∈ gW := ⟨wn_yJ0_isLatin1_aae02, wv_yJ0_isLatin1_aae02⟩
set_option maxRecDepth 100000 in
theorem wm_RJ0_335 : Cond.methodLink RJ0 335 yJ0_coder_7d493 ∈ gW := gW_t3 7 rfl rfl
set_option maxRecDepth 100000 in
theorem wc_yJ0_coder_7d493 : Cond.code yJ0_coder_7d493 cJ0_coder_7d493 1 (some .byte) ∈ gW := gW_t3 10 rfl rfl
set_option maxRecDepth 100000 in
theorem wi_java_lang_String : Cond.initialized RJ0 ∈ gW := gW_t1 11 rfl rfl
theorem cv_RJ0_335 : CV RJ0 335 yJ0_coder_7d493 cJ0_coder_7d493 1 (some .byte) 0 := ⟨wm_RJ0_335, wc_yJ0_coder_7d493, wi_java_lang_String, ⟨by decide, by decide⟩, by decide +kernel⟩
set_option maxRecDepth 100000 in
theorem wm_RJ0_492 : Cond.methodLink RJ0 492 yJ0_isLatin1_aae02 ∈ gW := gW_t3 17 rfl rfl
set_option maxRecDepth 100000 in
theorem wc_yJ0_isLatin1_aae02 : Cond.code yJ0_isLatin1_aae02 cJ0_isLatin1_aae02 1 (some .boolean) ∈ gW := gW_t3 20 rfl rfl
theorem cv_RJ0_492 : CV RJ0 492 yJ0_isLatin1_aae02 cJ0_isLatin1_aae02 1 (some .boolean) 0 := ⟨wm_RJ0_492, wc_yJ0_isLatin1_aae02, wi_java_lang_String, ⟨by decide, by decide⟩, by decide +kernel⟩
set_option maxRecDepth 100000 in
theorem wm_RJ0_495 : Cond.methodLink RJ0 495 yJ1_charAt_3b067 ∈ gW := gW_t3 21 rfl rfl
set_option maxRecDepth 100000 in
theorem wc_yJ1_charAt_3b067 : Cond.code yJ1_charAt_3b067 cJ1_charAt_3b067 2 (some .char) ∈ gW := gW_t3 23 rfl rfl
set_option maxRecDepth 100000 in
theorem wi_java_lang_StringLatin1 : Cond.initialized RJ1 ∈ gW := gW_t1 12 rfl rfl
theorem cv_RJ0_495 : CV RJ0 495 yJ1_charAt_3b067 cJ1_charAt_3b067 2 (some .char) 2 := ⟨wm_RJ0_495, wc_yJ1_charAt_3b067, wi_java_lang_StringLatin1, ⟨by decide, by decide⟩, by decide +kernel⟩
set_option maxRecDepth 100000 in
theorem wm_RJ1_9 : Cond.methodLink RJ1 9 yJ0_checkIndex_df160 ∈ gW := gW_t3 24 rfl rfl
set_option maxRecDepth 100000 in
theorem wc_yJ0_checkIndex_df160 : Cond.code yJ0_checkIndex_df160 cJ0_checkIndex_df160 2 none ∈ gW := gW_t3 26 rfl rfl
theorem cv_RJ1_9 : CV RJ1 9 yJ0_checkIndex_df160 cJ0_checkIndex_df160 2 none 2 := ⟨wm_RJ1_9, wc_yJ0_checkIndex_df160, wi_java_lang_String, ⟨by decide, by decide⟩, by decide +kernel⟩
set_option maxRecDepth 100000 in
theorem wm_RJ0_1059 : Cond.methodLink RJ0 1059 yJ3_checkIndex_8e157 ∈ gW := gW_t3 29 rfl rfl
set_option maxRecDepth 100000 in
theorem wc_yJ3_checkIndex_8e157 : Cond.code yJ3_checkIndex_8e157 cJ3_checkIndex_8e157 3 (some .int) ∈ gW := gW_t3 31 rfl rfl
set_option maxRecDepth 100000 in
theorem wi_jdk_internal_util_Preconditions : Cond.initialized RJ3 ∈ gW := gW_t1 13 rfl rfl
theorem cv_RJ0_1059 : CV RJ0 1059 yJ3_checkIndex_8e157 cJ3_checkIndex_8e157 3 (some .int) 3 := ⟨wm_RJ0_1059, wc_yJ3_checkIndex_8e157, wi_jdk_internal_util_Preconditions, ⟨by decide, by decide⟩, by decide +kernel⟩
set_option maxRecDepth 100000 in
theorem ws_yJ1_charAt_3b067 : Cond.static yJ1_charAt_3b067 ∈ gW := gW_t3 22 rfl rfl
set_option maxRecDepth 100000 in
theorem ws_yJ0_checkIndex_df160 : Cond.static yJ0_checkIndex_df160 ∈ gW := gW_t3 25 rfl rfl
set_option maxRecDepth 100000 in
theorem ws_yJ3_checkIndex_8e157 : Cond.static yJ3_checkIndex_8e157 ∈ gW := gW_t3 30 rfl rfl
set_option maxRecDepth 100000 in
theorem wf_RX1_18 : Cond.fieldLink RX1 18 "TwoWidths$Land" "works" "[I" ∈ gW := gW_t1 54 rfl rfl
theorem wl_X1 : ∀ w ∈ u_ws RX1 TX1 11, w ∈ gW := gW_all [132, 134, 136, 138, 140, 142, 144, 146, 148, 150, 152] (by decide +kernel) (by decide +kernel)
theorem fo_RX1_18 : FO RX1 18 1 6 := ⟨RX1, TX1, 11, rfl, by decide, wf_RX1_18, wl_X1⟩
set_option maxRecDepth 100000 in
theorem wm_RX1_63 : Cond.methodLink RX1 63 yX1_ofWork ∈ gW := gW_t4 4 rfl rfl
set_option maxRecDepth 100000 in
theorem wc_yX1_ofWork : Cond.code yX1_ofWork cX1_ofWork 3 (some .int) ∈ gW := gW_t2 115 rfl rfl
set_option maxRecDepth 100000 in
theorem wi_TwoWidths_Land : Cond.initialized RX1 ∈ gW := gW_t1 2 rfl rfl
theorem cv_RX1_63 : CV RX1 63 yX1_ofWork cX1_ofWork 3 (some .int) 2 := ⟨wm_RX1_63, wc_yX1_ofWork, wi_TwoWidths_Land, ⟨by decide, by decide⟩, by decide +kernel⟩
set_option maxRecDepth 100000 in
theorem wn_yX1_ofWork : Cond.instanceMethod yX1_ofWork ∈ gW := gW_t2 113 rfl rfl
set_option maxRecDepth 100000 in
theorem wv_yX1_ofWork : Cond.selects RX1 yX1_ofWork yX1_ofWork ∈ gW := gW_t2 114 rfl rfl
theorem iv_yX1_ofWork : Cond.instanceMethod yX1_ofWork ∈ gW ∧ Cond.selects yX1_ofWork.cls yX1_ofWork yX1_ofWork ∈ gW := ⟨wn_yX1_ofWork, wv_yX1_ofWork⟩
set_option maxRecDepth 100000 in
theorem wf_RX1_37 : Cond.fieldLink RX1 37 "TwoWidths$Land" "workCount" "I" ∈ gW := gW_t1 44 rfl rfl
theorem fo_RX1_37 : FO RX1 37 1 2 := ⟨RX1, TX1, 11, rfl, by decide, wf_RX1_37, wl_X1⟩
set_option maxRecDepth 100000 in
theorem wm_RX1_67 : Cond.methodLink RX1 67 yX1_isDone ∈ gW := gW_t4 0 rfl rfl
set_option maxRecDepth 100000 in
theorem wc_yX1_isDone : Cond.code yX1_isDone cX1_isDone 2 (some .boolean) ∈ gW := gW_t4 3 rfl rfl
theorem cv_RX1_67 : CV RX1 67 yX1_isDone cX1_isDone 2 (some .boolean) 1 := ⟨wm_RX1_67, wc_yX1_isDone, wi_TwoWidths_Land, ⟨by decide, by decide⟩, by decide +kernel⟩
set_option maxRecDepth 100000 in
theorem wn_yX1_isDone : Cond.instanceMethod yX1_isDone ∈ gW := gW_t4 1 rfl rfl
set_option maxRecDepth 100000 in
theorem wv_yX1_isDone : Cond.selects RX1 yX1_isDone yX1_isDone ∈ gW := gW_t4 2 rfl rfl
theorem iv_yX1_isDone : Cond.instanceMethod yX1_isDone ∈ gW ∧ Cond.selects yX1_isDone.cls yX1_isDone yX1_isDone ∈ gW := ⟨wn_yX1_isDone, wv_yX1_isDone⟩
set_option maxRecDepth 100000 in
theorem wf_RX1_43 : Cond.fieldLink RX1 43 "TwoWidths$Land" "isKnown" "Z" ∈ gW := gW_t1 62 rfl rfl
theorem fo_RX1_43 : FO RX1 43 1 10 := ⟨RX1, TX1, 11, rfl, by decide, wf_RX1_43, wl_X1⟩
set_option maxRecDepth 100000 in
theorem wf_RX1_27 : Cond.fieldLink RX1 27 "TwoWidths$Land" "knownFree" "[I" ∈ gW := gW_t1 61 rfl rfl
theorem fo_RX1_27 : FO RX1 27 1 9 := ⟨RX1, TX1, 11, rfl, by decide, wf_RX1_27, wl_X1⟩
set_option maxRecDepth 100000 in
theorem wc_yX6_within : Cond.code yX6_within cX6_within 3 (some .boolean) ∈ gW := gW_t2 39 rfl rfl
set_option maxRecDepth 100000 in
theorem wi_TwoWidths : Cond.initialized RX6 ∈ gW := gW_t1 1 rfl rfl
set_option maxRecDepth 100000 in
theorem ws_yX6_within : Cond.static yX6_within ∈ gW := gW_t2 38 rfl rfl
set_option maxRecDepth 100000 in
theorem cn_RX1_59 : CN RX1 59 yX6_within RX6 cX6_within 3 (some .boolean) 3 := ⟨nest_mem 411 rfl, wc_yX6_within, wi_TwoWidths, ws_yX6_within, ⟨by decide, by decide⟩, by decide +kernel⟩
theorem fp_RX1_43 : FP RX1 43 1 10 .boolean false := ⟨RX1, TX1, 11, tyX1, rfl, by decide, wf_RX1_43, wl_X1, tyX1_ok, nmX1, rfl, by decide +kernel, fun h => by first | rfl | cases h⟩
set_option maxRecDepth 100000 in
theorem wm_RX1_47 : Cond.methodLink RX1 47 yJ7_fill_53178 ∈ gW := gW_t1 31 rfl rfl
set_option maxRecDepth 100000 in
theorem wc_yJ7_fill_53178 : Cond.code yJ7_fill_53178 cJ7_fill_53178 4 none ∈ gW := gW_t1 33 rfl rfl
set_option maxRecDepth 100000 in
theorem wi_java_util_Arrays : Cond.initialized RJ7 ∈ gW := gW_t1 3 rfl rfl
theorem cv_RX1_47 : CV RX1 47 yJ7_fill_53178 cJ7_fill_53178 4 none 2 := ⟨wm_RX1_47, wc_yJ7_fill_53178, wi_java_util_Arrays, ⟨by decide, by decide⟩, by decide +kernel⟩
set_option maxRecDepth 100000 in
theorem ws_yJ7_fill_53178 : Cond.static yJ7_fill_53178 ∈ gW := gW_t1 32 rfl rfl
set_option maxRecDepth 100000 in
theorem wf_RX1_30 : Cond.fieldLink RX1 30 "TwoWidths$Land" "lineCount" "I" ∈ gW := gW_t1 34 rfl rfl
theorem fo_RX1_30 : FO RX1 30 1 0 := ⟨RX1, TX1, 11, rfl, by decide, wf_RX1_30, wl_X1⟩
theorem fp_RX1_30 : FP RX1 30 1 0 .int false := ⟨RX1, TX1, 11, tyX1, rfl, by decide, wf_RX1_30, wl_X1, tyX1_ok, nmX1, rfl, by decide +kernel, fun h => by first | rfl | cases h⟩
set_option maxRecDepth 100000 in
theorem wf_RX1_34 : Cond.fieldLink RX1 34 "TwoWidths$Land" "goodsCount" "I" ∈ gW := gW_t1 40 rfl rfl
theorem fo_RX1_34 : FO RX1 34 1 1 := ⟨RX1, TX1, 11, rfl, by decide, wf_RX1_34, wl_X1⟩
theorem fp_RX1_34 : FP RX1 34 1 1 .int false := ⟨RX1, TX1, 11, tyX1, rfl, by decide, wf_RX1_34, wl_X1, tyX1_ok, nmX1, rfl, by decide +kernel, fun h => by first | rfl | cases h⟩
theorem fp_RX1_37 : FP RX1 37 1 2 .int false := ⟨RX1, TX1, 11, tyX1, rfl, by decide, wf_RX1_37, wl_X1, tyX1_ok, nmX1, rfl, by decide +kernel, fun h => by first | rfl | cases h⟩
set_option maxRecDepth 100000 in
theorem wf_RX1_40 : Cond.fieldLink RX1 40 "TwoWidths$Land" "years" "I" ∈ gW := gW_t1 48 rfl rfl
theorem fo_RX1_40 : FO RX1 40 1 3 := ⟨RX1, TX1, 11, rfl, by decide, wf_RX1_40, wl_X1⟩
theorem fp_RX1_40 : FP RX1 40 1 3 .int false := ⟨RX1, TX1, 11, tyX1, rfl, by decide, wf_RX1_40, wl_X1, tyX1_ok, nmX1, rfl, by decide +kernel, fun h => by first | rfl | cases h⟩
set_option maxRecDepth 100000 in
theorem wf_RX1_9 : Cond.fieldLink RX1 9 "TwoWidths$Land" "lines" "[I" ∈ gW := gW_t1 52 rfl rfl
theorem fo_RX1_9 : FO RX1 9 1 4 := ⟨RX1, TX1, 11, rfl, by decide, wf_RX1_9, wl_X1⟩
set_option maxRecDepth 100000 in
theorem wf_RX1_15 : Cond.fieldLink RX1 15 "TwoWidths$Land" "goods" "[I" ∈ gW := gW_t1 53 rfl rfl
theorem fo_RX1_15 : FO RX1 15 1 5 := ⟨RX1, TX1, 11, rfl, by decide, wf_RX1_15, wl_X1⟩
set_option maxRecDepth 100000 in
theorem wf_RX1_21 : Cond.fieldLink RX1 21 "TwoWidths$Land" "change" "[I" ∈ gW := gW_t1 55 rfl rfl
theorem fo_RX1_21 : FO RX1 21 1 7 := ⟨RX1, TX1, 11, rfl, by decide, wf_RX1_21, wl_X1⟩
set_option maxRecDepth 100000 in
theorem wf_RX1_24 : Cond.fieldLink RX1 24 "TwoWidths$Land" "coin" "[I" ∈ gW := gW_t1 58 rfl rfl
theorem fo_RX1_24 : FO RX1 24 1 8 := ⟨RX1, TX1, 11, rfl, by decide, wf_RX1_24, wl_X1⟩
set_option maxRecDepth 100000 in
theorem wm_RX1_53 : Cond.methodLink RX1 53 arraycopyName ∈ gW := gW_t2 217 rfl rfl
set_option maxRecDepth 100000 in
theorem wa_native : Cond.native arraycopyName ∈ gW := gW_t2 85 rfl rfl
set_option maxRecDepth 100000 in
theorem wa_static : Cond.static arraycopyName ∈ gW := gW_t2 84 rfl rfl
set_option maxRecDepth 100000 in
theorem wi_java_lang_System : Cond.initialized RJ10 ∈ gW := gW_t1 10 rfl rfl
theorem cc_RX1_53 : CC RX1 53 := ⟨wm_RX1_53, wa_native, wa_static, wi_java_lang_System⟩
set_option maxRecDepth 100000 in
theorem wm_RX1_88 : Cond.methodLink RX1 88 yX1_putWidths ∈ gW := gW_t4 15 rfl rfl
set_option maxRecDepth 100000 in
theorem wc_yX1_putWidths : Cond.code yX1_putWidths cX1_putWidths 3 none ∈ gW := gW_t4 18 rfl rfl
theorem cv_RX1_88 : CV RX1 88 yX1_putWidths cX1_putWidths 3 none 2 := ⟨wm_RX1_88, wc_yX1_putWidths, wi_TwoWidths_Land, ⟨by decide, by decide⟩, by decide +kernel⟩
set_option maxRecDepth 100000 in
theorem wn_yX1_putWidths : Cond.instanceMethod yX1_putWidths ∈ gW := gW_t4 16 rfl rfl
set_option maxRecDepth 100000 in
theorem wv_yX1_putWidths : Cond.selects RX1 yX1_putWidths yX1_putWidths ∈ gW := gW_t4 17 rfl rfl
theorem iv_yX1_putWidths : Cond.instanceMethod yX1_putWidths ∈ gW ∧ Cond.selects yX1_putWidths.cls yX1_putWidths yX1_putWidths ∈ gW := ⟨wn_yX1_putWidths, wv_yX1_putWidths⟩
set_option maxRecDepth 100000 in
theorem wm_RX1_71 : Cond.methodLink RX1 71 yX1_ofLine ∈ gW := gW_t3 138 rfl rfl
set_option maxRecDepth 100000 in
theorem wc_yX1_ofLine : Cond.code yX1_ofLine cX1_ofLine 3 (some .int) ∈ gW := gW_t2 192 rfl rfl
theorem cv_RX1_71 : CV RX1 71 yX1_ofLine cX1_ofLine 3 (some .int) 2 := ⟨wm_RX1_71, wc_yX1_ofLine, wi_TwoWidths_Land, ⟨by decide, by decide⟩, by decide +kernel⟩
set_option maxRecDepth 100000 in
theorem wn_yX1_ofLine : Cond.instanceMethod yX1_ofLine ∈ gW := gW_t2 190 rfl rfl
set_option maxRecDepth 100000 in
theorem wv_yX1_ofLine : Cond.selects RX1 yX1_ofLine yX1_ofLine ∈ gW := gW_t2 191 rfl rfl
theorem iv_yX1_ofLine : Cond.instanceMethod yX1_ofLine ∈ gW ∧ Cond.selects yX1_ofLine.cls yX1_ofLine yX1_ofLine ∈ gW := ⟨wn_yX1_ofLine, wv_yX1_ofLine⟩
set_option maxRecDepth 100000 in
theorem wm_RX1_92 : Cond.methodLink RX1 92 yX1_hasLine ∈ gW := gW_t4 19 rfl rfl
set_option maxRecDepth 100000 in
theorem wc_yX1_hasLine : Cond.code yX1_hasLine cX1_hasLine 2 (some .boolean) ∈ gW := gW_t2 188 rfl rfl
theorem cv_RX1_92 : CV RX1 92 yX1_hasLine cX1_hasLine 2 (some .boolean) 1 := ⟨wm_RX1_92, wc_yX1_hasLine, wi_TwoWidths_Land, ⟨by decide, by decide⟩, by decide +kernel⟩
set_option maxRecDepth 100000 in
theorem wn_yX1_hasLine : Cond.instanceMethod yX1_hasLine ∈ gW := gW_t2 186 rfl rfl
set_option maxRecDepth 100000 in
theorem wv_yX1_hasLine : Cond.selects RX1 yX1_hasLine yX1_hasLine ∈ gW := gW_t2 187 rfl rfl
theorem iv_yX1_hasLine : Cond.instanceMethod yX1_hasLine ∈ gW ∧ Cond.selects yX1_hasLine.cls yX1_hasLine yX1_hasLine ∈ gW := ⟨wn_yX1_hasLine, wv_yX1_hasLine⟩
set_option maxRecDepth 100000 in
theorem wm_RX1_95 : Cond.methodLink RX1 95 yX1_putChange ∈ gW := gW_t4 20 rfl rfl
set_option maxRecDepth 100000 in
theorem wc_yX1_putChange : Cond.code yX1_putChange cX1_putChange 3 none ∈ gW := gW_t2 168 rfl rfl
theorem cv_RX1_95 : CV RX1 95 yX1_putChange cX1_putChange 3 none 2 := ⟨wm_RX1_95, wc_yX1_putChange, wi_TwoWidths_Land, ⟨by decide, by decide⟩, by decide +kernel⟩
set_option maxRecDepth 100000 in
theorem wn_yX1_putChange : Cond.instanceMethod yX1_putChange ∈ gW := gW_t2 166 rfl rfl
set_option maxRecDepth 100000 in
theorem wv_yX1_putChange : Cond.selects RX1 yX1_putChange yX1_putChange ∈ gW := gW_t2 167 rfl rfl
theorem iv_yX1_putChange : Cond.instanceMethod yX1_putChange ∈ gW ∧ Cond.selects yX1_putChange.cls yX1_putChange yX1_putChange ∈ gW := ⟨wn_yX1_putChange, wv_yX1_putChange⟩
set_option maxRecDepth 100000 in
theorem wm_RX1_98 : Cond.methodLink RX1 98 yX1_addLine ∈ gW := gW_t4 21 rfl rfl
set_option maxRecDepth 100000 in
theorem wc_yX1_addLine : Cond.code yX1_addLine cX1_addLine 8 none ∈ gW := gW_t2 131 rfl rfl
theorem cv_RX1_98 : CV RX1 98 yX1_addLine cX1_addLine 8 none 6 := ⟨wm_RX1_98, wc_yX1_addLine, wi_TwoWidths_Land, ⟨by decide, by decide⟩, by decide +kernel⟩
set_option maxRecDepth 100000 in
theorem wn_yX1_addLine : Cond.instanceMethod yX1_addLine ∈ gW := gW_t2 129 rfl rfl
set_option maxRecDepth 100000 in
theorem wv_yX1_addLine : Cond.selects RX1 yX1_addLine yX1_addLine ∈ gW := gW_t2 130 rfl rfl
theorem iv_yX1_addLine : Cond.instanceMethod yX1_addLine ∈ gW ∧ Cond.selects yX1_addLine.cls yX1_addLine yX1_addLine ∈ gW := ⟨wn_yX1_addLine, wv_yX1_addLine⟩
set_option maxRecDepth 100000 in
theorem wm_RX1_85 : Cond.methodLink RX1 85 yX1_hasWork ∈ gW := gW_t4 14 rfl rfl
set_option maxRecDepth 100000 in
theorem wc_yX1_hasWork : Cond.code yX1_hasWork cX1_hasWork 2 (some .boolean) ∈ gW := gW_t2 101 rfl rfl
theorem cv_RX1_85 : CV RX1 85 yX1_hasWork cX1_hasWork 2 (some .boolean) 1 := ⟨wm_RX1_85, wc_yX1_hasWork, wi_TwoWidths_Land, ⟨by decide, by decide⟩, by decide +kernel⟩
set_option maxRecDepth 100000 in
theorem wn_yX1_hasWork : Cond.instanceMethod yX1_hasWork ∈ gW := gW_t2 99 rfl rfl
set_option maxRecDepth 100000 in
theorem wv_yX1_hasWork : Cond.selects RX1 yX1_hasWork yX1_hasWork ∈ gW := gW_t2 100 rfl rfl
theorem iv_yX1_hasWork : Cond.instanceMethod yX1_hasWork ∈ gW ∧ Cond.selects yX1_hasWork.cls yX1_hasWork yX1_hasWork ∈ gW := ⟨wn_yX1_hasWork, wv_yX1_hasWork⟩
set_option maxRecDepth 100000 in
theorem wf_RX5_43 : Cond.fieldLink RX5 43 "TwoWidths$Land" "change" "[I" ∈ gW := gW_t1 56 rfl rfl
theorem fo_RX5_43 : FO RX5 43 1 7 := ⟨RX1, TX1, 11, rfl, by decide, wf_RX5_43, wl_X1⟩
set_option maxRecDepth 100000 in
theorem wf_RX5_24 : Cond.fieldLink RX5 24 "TwoWidths$Ways" "change" "[I" ∈ gW := gW_t1 158 rfl rfl
theorem wl_X5 : ∀ w ∈ u_ws RX5 TX5 14, w ∈ gW := gW_all [239, 241, 243, 245, 247, 249, 251, 253, 255, 257, 259, 261, 263, 265] (by decide +kernel) (by decide +kernel)
theorem fo_RX5_24 : FO RX5 24 5 4 := ⟨RX5, TX5, 14, rfl, by decide, wf_RX5_24, wl_X5⟩
set_option maxRecDepth 100000 in
theorem wf_RX5_39 : Cond.fieldLink RX5 39 "TwoWidths$Ways" "aim" "I" ∈ gW := gW_t1 169 rfl rfl
theorem fp_RX5_39 : FP RX5 39 5 13 .int false := ⟨RX5, TX5, 14, tyX5, rfl, by decide, wf_RX5_39, wl_X5, tyX5_ok, nmX5, rfl, by decide +kernel, fun h => by first | rfl | cases h⟩
set_option maxRecDepth 100000 in
theorem wf_RX5_52 : Cond.fieldLink RX5 52 "TwoWidths$Ways" "edgeCount" "I" ∈ gW := gW_t1 168 rfl rfl
theorem fp_RX5_52 : FP RX5 52 5 12 .int false := ⟨RX5, TX5, 14, tyX5, rfl, by decide, wf_RX5_52, wl_X5, tyX5_ok, nmX5, rfl, by decide +kernel, fun h => by first | rfl | cases h⟩
set_option maxRecDepth 100000 in
theorem wf_RX5_55 : Cond.fieldLink RX5 55 "TwoWidths$Land" "lineCount" "I" ∈ gW := gW_t1 35 rfl rfl
theorem fo_RX5_55 : FO RX5 55 1 0 := ⟨RX1, TX1, 11, rfl, by decide, wf_RX5_55, wl_X1⟩
set_option maxRecDepth 100000 in
theorem wf_RX5_9 : Cond.fieldLink RX5 9 "TwoWidths$Ways" "edgeA" "[I" ∈ gW := gW_t1 154 rfl rfl
theorem fo_RX5_9 : FO RX5 9 5 0 := ⟨RX5, TX5, 14, rfl, by decide, wf_RX5_9, wl_X5⟩
theorem fo_RX5_52 : FO RX5 52 5 12 := ⟨RX5, TX5, 14, rfl, by decide, wf_RX5_52, wl_X5⟩
set_option maxRecDepth 100000 in
theorem wf_RX5_15 : Cond.fieldLink RX5 15 "TwoWidths$Ways" "edgeB" "[I" ∈ gW := gW_t1 155 rfl rfl
theorem fo_RX5_15 : FO RX5 15 5 1 := ⟨RX5, TX5, 14, rfl, by decide, wf_RX5_15, wl_X5⟩
set_option maxRecDepth 100000 in
theorem wf_RX5_18 : Cond.fieldLink RX5 18 "TwoWidths$Ways" "edgeCost" "[I" ∈ gW := gW_t1 156 rfl rfl
theorem fo_RX5_18 : FO RX5 18 5 2 := ⟨RX5, TX5, 14, rfl, by decide, wf_RX5_18, wl_X5⟩
set_option maxRecDepth 100000 in
theorem wf_RX5_62 : Cond.fieldLink RX5 62 "TwoWidths$Land" "coin" "[I" ∈ gW := gW_t1 59 rfl rfl
theorem fo_RX5_62 : FO RX5 62 1 8 := ⟨RX1, TX1, 11, rfl, by decide, wf_RX5_62, wl_X1⟩
set_option maxRecDepth 100000 in
theorem wf_RX5_21 : Cond.fieldLink RX5 21 "TwoWidths$Ways" "edgeLine" "[I" ∈ gW := gW_t1 157 rfl rfl
theorem fo_RX5_21 : FO RX5 21 5 3 := ⟨RX5, TX5, 14, rfl, by decide, wf_RX5_21, wl_X5⟩
set_option maxRecDepth 100000 in
theorem wm_RX5_58 : Cond.methodLink RX5 58 yX1_ofLine ∈ gW := gW_t3 144 rfl rfl
theorem cv_RX5_58 : CV RX5 58 yX1_ofLine cX1_ofLine 3 (some .int) 2 := ⟨wm_RX5_58, wc_yX1_ofLine, wi_TwoWidths_Land, ⟨by decide, by decide⟩, by decide +kernel⟩
set_option maxRecDepth 100000 in
theorem wm_RX5_46 : Cond.methodLink RX5 46 arraycopyName ∈ gW := gW_t3 143 rfl rfl
theorem cc_RX5_46 : CC RX5 46 := ⟨wm_RX5_46, wa_native, wa_static, wi_java_lang_System⟩
set_option maxRecDepth 100000 in
theorem wf_RX5_27 : Cond.fieldLink RX5 27 "TwoWidths$Ways" "away" "[I" ∈ gW := gW_t1 159 rfl rfl
theorem fo_RX5_27 : FO RX5 27 5 5 := ⟨RX5, TX5, 14, rfl, by decide, wf_RX5_27, wl_X5⟩
theorem fo_RX5_39 : FO RX5 39 5 13 := ⟨RX5, TX5, 14, rfl, by decide, wf_RX5_39, wl_X5⟩
set_option maxRecDepth 100000 in
theorem wk_RX5_65 : Cond.constant RX5 65 (1000000) ∈ gW := gW_t3 149 rfl rfl
set_option maxRecDepth 100000 in
theorem wm_RX5_76 : Cond.methodLink RX5 76 yX5_nearByChanges ∈ gW := gW_t3 155 rfl rfl
set_option maxRecDepth 100000 in
theorem wc_yX5_nearByChanges : Cond.code yX5_nearByChanges cX5_nearByChanges 6 none ∈ gW := gW_t3 158 rfl rfl
set_option maxRecDepth 100000 in
theorem wi_TwoWidths_Ways : Cond.initialized RX5 ∈ gW := gW_t1 8 rfl rfl
theorem cv_RX5_76 : CV RX5 76 yX5_nearByChanges cX5_nearByChanges 6 none 0 := ⟨wm_RX5_76, wc_yX5_nearByChanges, wi_TwoWidths_Ways, ⟨by decide, by decide⟩, by decide +kernel⟩
set_option maxRecDepth 100000 in
theorem wn_yX5_nearByChanges : Cond.instanceMethod yX5_nearByChanges ∈ gW := gW_t3 157 rfl rfl
set_option maxRecDepth 100000 in
theorem wv_yX5_nearByChanges : Cond.selects RX5 yX5_nearByChanges yX5_nearByChanges ∈ gW := gW_mem 17 rfl rfl
theorem iv_yX5_nearByChanges : Cond.instanceMethod yX5_nearByChanges ∈ gW ∧ Cond.selects yX5_nearByChanges.cls yX5_nearByChanges yX5_nearByChanges ∈ gW := ⟨wn_yX5_nearByChanges, wv_yX5_nearByChanges⟩
set_option maxRecDepth 100000 in
theorem wm_RX5_72 : Cond.methodLink RX5 72 yX5_nearByLines ∈ gW := gW_t3 151 rfl rfl
set_option maxRecDepth 100000 in
theorem wc_yX5_nearByLines : Cond.code yX5_nearByLines cX5_nearByLines 6 (some .boolean) ∈ gW := gW_t3 154 rfl rfl
theorem cv_RX5_72 : CV RX5 72 yX5_nearByLines cX5_nearByLines 6 (some .boolean) 0 := ⟨wm_RX5_72, wc_yX5_nearByLines, wi_TwoWidths_Ways, ⟨by decide, by decide⟩, by decide +kernel⟩
set_option maxRecDepth 100000 in
theorem wn_yX5_nearByLines : Cond.instanceMethod yX5_nearByLines ∈ gW := gW_t3 153 rfl rfl
set_option maxRecDepth 100000 in
theorem wv_yX5_nearByLines : Cond.selects RX5 yX5_nearByLines yX5_nearByLines ∈ gW := gW_mem 16 rfl rfl
theorem iv_yX5_nearByLines : Cond.instanceMethod yX5_nearByLines ∈ gW ∧ Cond.selects yX5_nearByLines.cls yX5_nearByLines yX5_nearByLines ∈ gW := ⟨wn_yX5_nearByLines, wv_yX5_nearByLines⟩
set_option maxRecDepth 100000 in
theorem wm_RX5_66 : Cond.methodLink RX5 66 yJ7_fill_53178 ∈ gW := gW_t3 150 rfl rfl
theorem cv_RX5_66 : CV RX5 66 yJ7_fill_53178 cJ7_fill_53178 4 none 2 := ⟨wm_RX5_66, wc_yJ7_fill_53178, wi_java_util_Arrays, ⟨by decide, by decide⟩, by decide +kernel⟩
set_option maxRecDepth 100000 in
theorem wf_RX4_12 : Cond.fieldLink RX4 12 "TwoWidths$Traffic" "ways" "LTwoWidths$Ways;" ∈ gW := gW_t1 199 rfl rfl
theorem wl_X4 : ∀ w ∈ u_ws RX4 TX4 5, w ∈ gW := gW_all [279, 281, 283, 285, 287] (by decide +kernel) (by decide +kernel)
theorem fo_RX4_12 : FO RX4 12 4 0 := ⟨RX4, TX4, 5, rfl, by decide, wf_RX4_12, wl_X4⟩
set_option maxRecDepth 100000 in
theorem wf_RX4_43 : Cond.fieldLink RX4 43 "TwoWidths$Land" "goodsCount" "I" ∈ gW := gW_t1 41 rfl rfl
theorem fo_RX4_43 : FO RX4 43 1 1 := ⟨RX1, TX1, 11, rfl, by decide, wf_RX4_43, wl_X1⟩
set_option maxRecDepth 100000 in
theorem wm_RX4_47 : Cond.methodLink RX4 47 yX1_ofGoods ∈ gW := gW_t4 27 rfl rfl
set_option maxRecDepth 100000 in
theorem wc_yX1_ofGoods : Cond.code yX1_ofGoods cX1_ofGoods 3 (some .int) ∈ gW := gW_t3 121 rfl rfl
theorem cv_RX4_47 : CV RX4 47 yX1_ofGoods cX1_ofGoods 3 (some .int) 2 := ⟨wm_RX4_47, wc_yX1_ofGoods, wi_TwoWidths_Land, ⟨by decide, by decide⟩, by decide +kernel⟩
set_option maxRecDepth 100000 in
theorem wn_yX1_ofGoods : Cond.instanceMethod yX1_ofGoods ∈ gW := gW_t3 119 rfl rfl
set_option maxRecDepth 100000 in
theorem wv_yX1_ofGoods : Cond.selects RX1 yX1_ofGoods yX1_ofGoods ∈ gW := gW_t3 120 rfl rfl
theorem iv_yX1_ofGoods : Cond.instanceMethod yX1_ofGoods ∈ gW ∧ Cond.selects yX1_ofGoods.cls yX1_ofGoods yX1_ofGoods ∈ gW := ⟨wn_yX1_ofGoods, wv_yX1_ofGoods⟩
set_option maxRecDepth 100000 in
theorem wm_RX4_39 : Cond.methodLink RX4 39 yX5_costFrom ∈ gW := gW_t3 159 rfl rfl
set_option maxRecDepth 100000 in
theorem wc_yX5_costFrom : Cond.code yX5_costFrom cX5_costFrom 4 (some .int) ∈ gW := gW_t3 162 rfl rfl
theorem cv_RX4_39 : CV RX4 39 yX5_costFrom cX5_costFrom 4 (some .int) 1 := ⟨wm_RX4_39, wc_yX5_costFrom, wi_TwoWidths_Ways, ⟨by decide, by decide⟩, by decide +kernel⟩
set_option maxRecDepth 100000 in
theorem wn_yX5_costFrom : Cond.instanceMethod yX5_costFrom ∈ gW := gW_t3 160 rfl rfl
set_option maxRecDepth 100000 in
theorem wv_yX5_costFrom : Cond.selects RX5 yX5_costFrom yX5_costFrom ∈ gW := gW_t3 161 rfl rfl
theorem iv_yX5_costFrom : Cond.instanceMethod yX5_costFrom ∈ gW ∧ Cond.selects yX5_costFrom.cls yX5_costFrom yX5_costFrom ∈ gW := ⟨wn_yX5_costFrom, wv_yX5_costFrom⟩
set_option maxRecDepth 100000 in
theorem wm_RX4_35 : Cond.methodLink RX4 35 yX5_aimAt ∈ gW := gW_t3 145 rfl rfl
set_option maxRecDepth 100000 in
theorem wc_yX5_aimAt : Cond.code yX5_aimAt cX5_aimAt 3 none ∈ gW := gW_t3 148 rfl rfl
theorem cv_RX4_35 : CV RX4 35 yX5_aimAt cX5_aimAt 3 none 1 := ⟨wm_RX4_35, wc_yX5_aimAt, wi_TwoWidths_Ways, ⟨by decide, by decide⟩, by decide +kernel⟩
set_option maxRecDepth 100000 in
theorem wn_yX5_aimAt : Cond.instanceMethod yX5_aimAt ∈ gW := gW_t3 146 rfl rfl
set_option maxRecDepth 100000 in
theorem wv_yX5_aimAt : Cond.selects RX5 yX5_aimAt yX5_aimAt ∈ gW := gW_t3 147 rfl rfl
theorem iv_yX5_aimAt : Cond.instanceMethod yX5_aimAt ∈ gW ∧ Cond.selects yX5_aimAt.cls yX5_aimAt yX5_aimAt ∈ gW := ⟨wn_yX5_aimAt, wv_yX5_aimAt⟩
set_option maxRecDepth 100000 in
theorem wm_RX4_31 : Cond.methodLink RX4 31 yX5_prepare ∈ gW := gW_t3 139 rfl rfl
set_option maxRecDepth 100000 in
theorem wc_yX5_prepare : Cond.code yX5_prepare cX5_prepare 6 none ∈ gW := gW_t3 142 rfl rfl
theorem cv_RX4_31 : CV RX4 31 yX5_prepare cX5_prepare 6 none 2 := ⟨wm_RX4_31, wc_yX5_prepare, wi_TwoWidths_Ways, ⟨by decide, by decide⟩, by decide +kernel⟩
set_option maxRecDepth 100000 in
theorem wn_yX5_prepare : Cond.instanceMethod yX5_prepare ∈ gW := gW_t3 140 rfl rfl
set_option maxRecDepth 100000 in
theorem wv_yX5_prepare : Cond.selects RX5 yX5_prepare yX5_prepare ∈ gW := gW_t3 141 rfl rfl
theorem iv_yX5_prepare : Cond.instanceMethod yX5_prepare ∈ gW ∧ Cond.selects yX5_prepare.cls yX5_prepare yX5_prepare ∈ gW := ⟨wn_yX5_prepare, wv_yX5_prepare⟩
set_option maxRecDepth 100000 in
theorem wf_RX0_12 : Cond.fieldLink RX0 12 "TwoWidths$Choice" "traffic" "LTwoWidths$Traffic;" ∈ gW := gW_t1 223 rfl rfl
theorem wl_X0 : ∀ w ∈ u_ws RX0 TX0 4, w ∈ gW := gW_all [299, 301, 303, 305] (by decide +kernel) (by decide +kernel)
theorem fo_RX0_12 : FO RX0 12 0 0 := ⟨RX0, TX0, 4, rfl, by decide, wf_RX0_12, wl_X0⟩
set_option maxRecDepth 100000 in
theorem wm_RX0_59 : Cond.methodLink RX0 59 yX1_keepFree ∈ gW := gW_t4 28 rfl rfl
set_option maxRecDepth 100000 in
theorem wc_yX1_keepFree : Cond.code yX1_keepFree cX1_keepFree 3 none ∈ gW := gW_t4 31 rfl rfl
theorem cv_RX0_59 : CV RX0 59 yX1_keepFree cX1_keepFree 3 none 2 := ⟨wm_RX0_59, wc_yX1_keepFree, wi_TwoWidths_Land, ⟨by decide, by decide⟩, by decide +kernel⟩
set_option maxRecDepth 100000 in
theorem wn_yX1_keepFree : Cond.instanceMethod yX1_keepFree ∈ gW := gW_t4 29 rfl rfl
set_option maxRecDepth 100000 in
theorem wv_yX1_keepFree : Cond.selects RX1 yX1_keepFree yX1_keepFree ∈ gW := gW_t4 30 rfl rfl
theorem iv_yX1_keepFree : Cond.instanceMethod yX1_keepFree ∈ gW ∧ Cond.selects yX1_keepFree.cls yX1_keepFree yX1_keepFree ∈ gW := ⟨wn_yX1_keepFree, wv_yX1_keepFree⟩
set_option maxRecDepth 100000 in
theorem wm_RX0_55 : Cond.methodLink RX0 55 yX4_freeBy ∈ gW := gW_t4 23 rfl rfl
set_option maxRecDepth 100000 in
theorem wc_yX4_freeBy : Cond.code yX4_freeBy cX4_freeBy 7 (some .int) ∈ gW := gW_t4 26 rfl rfl
set_option maxRecDepth 100000 in
theorem wi_TwoWidths_Traffic : Cond.initialized RX4 ∈ gW := gW_t1 7 rfl rfl
theorem cv_RX0_55 : CV RX0 55 yX4_freeBy cX4_freeBy 7 (some .int) 2 := ⟨wm_RX0_55, wc_yX4_freeBy, wi_TwoWidths_Traffic, ⟨by decide, by decide⟩, by decide +kernel⟩
set_option maxRecDepth 100000 in
theorem wn_yX4_freeBy : Cond.instanceMethod yX4_freeBy ∈ gW := gW_t4 24 rfl rfl
set_option maxRecDepth 100000 in
theorem wv_yX4_freeBy : Cond.selects RX4 yX4_freeBy yX4_freeBy ∈ gW := gW_t4 25 rfl rfl
theorem iv_yX4_freeBy : Cond.instanceMethod yX4_freeBy ∈ gW ∧ Cond.selects yX4_freeBy.cls yX4_freeBy yX4_freeBy ∈ gW := ⟨wn_yX4_freeBy, wv_yX4_freeBy⟩
set_option maxRecDepth 100000 in
theorem wm_RX0_52 : Cond.methodLink RX0 52 yX1_linesThere ∈ gW := gW_t4 22 rfl rfl
set_option maxRecDepth 100000 in
theorem wc_yX1_linesThere : Cond.code yX1_linesThere cX1_linesThere 3 (some .int) ∈ gW := gW_t3 137 rfl rfl
theorem cv_RX0_52 : CV RX0 52 yX1_linesThere cX1_linesThere 3 (some .int) 0 := ⟨wm_RX0_52, wc_yX1_linesThere, wi_TwoWidths_Land, ⟨by decide, by decide⟩, by decide +kernel⟩
set_option maxRecDepth 100000 in
theorem wn_yX1_linesThere : Cond.instanceMethod yX1_linesThere ∈ gW := gW_t3 135 rfl rfl
set_option maxRecDepth 100000 in
theorem wv_yX1_linesThere : Cond.selects RX1 yX1_linesThere yX1_linesThere ∈ gW := gW_t3 136 rfl rfl
theorem iv_yX1_linesThere : Cond.instanceMethod yX1_linesThere ∈ gW ∧ Cond.selects yX1_linesThere.cls yX1_linesThere yX1_linesThere ∈ gW := ⟨wn_yX1_linesThere, wv_yX1_linesThere⟩
set_option maxRecDepth 100000 in
theorem wf_RX0_44 : Cond.fieldLink RX0 44 "TwoWidths$Land" "workCount" "I" ∈ gW := gW_t1 45 rfl rfl
theorem fo_RX0_44 : FO RX0 44 1 2 := ⟨RX1, TX1, 11, rfl, by decide, wf_RX0_44, wl_X1⟩
set_option maxRecDepth 100000 in
theorem wm_RX0_48 : Cond.methodLink RX0 48 yX1_perform ∈ gW := gW_t4 10 rfl rfl
set_option maxRecDepth 100000 in
theorem wc_yX1_perform : Cond.code yX1_perform cX1_perform 4 none ∈ gW := gW_t4 13 rfl rfl
theorem cv_RX0_48 : CV RX0 48 yX1_perform cX1_perform 4 none 1 := ⟨wm_RX0_48, wc_yX1_perform, wi_TwoWidths_Land, ⟨by decide, by decide⟩, by decide +kernel⟩
set_option maxRecDepth 100000 in
theorem wn_yX1_perform : Cond.instanceMethod yX1_perform ∈ gW := gW_t4 11 rfl rfl
set_option maxRecDepth 100000 in
theorem wv_yX1_perform : Cond.selects RX1 yX1_perform yX1_perform ∈ gW := gW_t4 12 rfl rfl
theorem iv_yX1_perform : Cond.instanceMethod yX1_perform ∈ gW ∧ Cond.selects yX1_perform.cls yX1_perform yX1_perform ∈ gW := ⟨wn_yX1_perform, wv_yX1_perform⟩
set_option maxRecDepth 100000 in
theorem wf_RX0_29 : Cond.fieldLink RX0 29 "TwoWidths$Choice" "trial" "LTwoWidths$Land;" ∈ gW := gW_t1 229 rfl rfl
theorem fo_RX0_29 : FO RX0 29 0 3 := ⟨RX0, TX0, 4, rfl, by decide, wf_RX0_29, wl_X0⟩
set_option maxRecDepth 100000 in
theorem wm_RX0_40 : Cond.methodLink RX0 40 yX1_take ∈ gW := gW_t4 9 rfl rfl
set_option maxRecDepth 100000 in
theorem wc_yX1_take : Cond.code yX1_take cX1_take 2 none ∈ gW := gW_t2 216 rfl rfl
theorem cv_RX0_40 : CV RX0 40 yX1_take cX1_take 2 none 1 := ⟨wm_RX0_40, wc_yX1_take, wi_TwoWidths_Land, ⟨by decide, by decide⟩, by decide +kernel⟩
set_option maxRecDepth 100000 in
theorem wn_yX1_take : Cond.instanceMethod yX1_take ∈ gW := gW_t2 214 rfl rfl
set_option maxRecDepth 100000 in
theorem wv_yX1_take : Cond.selects RX1 yX1_take yX1_take ∈ gW := gW_t2 215 rfl rfl
theorem iv_yX1_take : Cond.instanceMethod yX1_take ∈ gW ∧ Cond.selects yX1_take.cls yX1_take yX1_take ∈ gW := ⟨wn_yX1_take, wv_yX1_take⟩
set_option maxRecDepth 100000 in
theorem wm_RX0_36 : Cond.methodLink RX0 36 yX1_freeKnown ∈ gW := gW_t4 5 rfl rfl
set_option maxRecDepth 100000 in
theorem wc_yX1_freeKnown : Cond.code yX1_freeKnown cX1_freeKnown 2 (some .int) ∈ gW := gW_t4 8 rfl rfl
theorem cv_RX0_36 : CV RX0 36 yX1_freeKnown cX1_freeKnown 2 (some .int) 1 := ⟨wm_RX0_36, wc_yX1_freeKnown, wi_TwoWidths_Land, ⟨by decide, by decide⟩, by decide +kernel⟩
set_option maxRecDepth 100000 in
theorem wn_yX1_freeKnown : Cond.instanceMethod yX1_freeKnown ∈ gW := gW_t4 6 rfl rfl
set_option maxRecDepth 100000 in
theorem wv_yX1_freeKnown : Cond.selects RX1 yX1_freeKnown yX1_freeKnown ∈ gW := gW_t4 7 rfl rfl
theorem iv_yX1_freeKnown : Cond.instanceMethod yX1_freeKnown ∈ gW ∧ Cond.selects yX1_freeKnown.cls yX1_freeKnown yX1_freeKnown ∈ gW := ⟨wn_yX1_freeKnown, wv_yX1_freeKnown⟩
set_option maxRecDepth 100000 in
theorem wm_RX0_32 : Cond.methodLink RX0 32 yX1_doneWorks ∈ gW := gW_t3 236 rfl rfl
set_option maxRecDepth 100000 in
theorem wc_yX1_doneWorks : Cond.code yX1_doneWorks cX1_doneWorks 3 (some .int) ∈ gW := gW_t3 239 rfl rfl
theorem cv_RX0_32 : CV RX0 32 yX1_doneWorks cX1_doneWorks 3 (some .int) 0 := ⟨wm_RX0_32, wc_yX1_doneWorks, wi_TwoWidths_Land, ⟨by decide, by decide⟩, by decide +kernel⟩
set_option maxRecDepth 100000 in
theorem wn_yX1_doneWorks : Cond.instanceMethod yX1_doneWorks ∈ gW := gW_t3 237 rfl rfl
set_option maxRecDepth 100000 in
theorem wv_yX1_doneWorks : Cond.selects RX1 yX1_doneWorks yX1_doneWorks ∈ gW := gW_t3 238 rfl rfl
theorem iv_yX1_doneWorks : Cond.instanceMethod yX1_doneWorks ∈ gW ∧ Cond.selects yX1_doneWorks.cls yX1_doneWorks yX1_doneWorks ∈ gW := ⟨wn_yX1_doneWorks, wv_yX1_doneWorks⟩
set_option maxRecDepth 100000 in
theorem wf_RX0_63 : Cond.fieldLink RX0 63 "TwoWidths$Land" "years" "I" ∈ gW := gW_t1 49 rfl rfl
theorem fo_RX0_63 : FO RX0 63 1 3 := ⟨RX1, TX1, 11, rfl, by decide, wf_RX0_63, wl_X1⟩
set_option maxRecDepth 100000 in
theorem wm_RX0_73 : Cond.methodLink RX0 73 yX1_ofWork ∈ gW := gW_t4 62 rfl rfl
theorem cv_RX0_73 : CV RX0 73 yX1_ofWork cX1_ofWork 3 (some .int) 2 := ⟨wm_RX0_73, wc_yX1_ofWork, wi_TwoWidths_Land, ⟨by decide, by decide⟩, by decide +kernel⟩
set_option maxRecDepth 100000 in
theorem wm_RX0_69 : Cond.methodLink RX0 69 yX1_isDone ∈ gW := gW_t4 61 rfl rfl
theorem cv_RX0_69 : CV RX0 69 yX1_isDone cX1_isDone 2 (some .boolean) 1 := ⟨wm_RX0_69, wc_yX1_isDone, wi_TwoWidths_Land, ⟨by decide, by decide⟩, by decide +kernel⟩
set_option maxRecDepth 100000 in
theorem wm_RX0_66 : Cond.methodLink RX0 66 yX0_freeWith ∈ gW := gW_t4 60 rfl rfl
set_option maxRecDepth 100000 in
theorem wc_yX0_freeWith : Cond.code yX0_freeWith cX0_freeWith 7 (some .int) ∈ gW := gW_t3 235 rfl rfl
set_option maxRecDepth 100000 in
theorem wi_TwoWidths_Choice : Cond.initialized RX0 ∈ gW := gW_t1 6 rfl rfl
theorem cv_RX0_66 : CV RX0 66 yX0_freeWith cX0_freeWith 7 (some .int) 2 := ⟨wm_RX0_66, wc_yX0_freeWith, wi_TwoWidths_Choice, ⟨by decide, by decide⟩, by decide +kernel⟩
set_option maxRecDepth 100000 in
theorem wn_yX0_freeWith : Cond.instanceMethod yX0_freeWith ∈ gW := gW_t3 233 rfl rfl
set_option maxRecDepth 100000 in
theorem wv_yX0_freeWith : Cond.selects RX0 yX0_freeWith yX0_freeWith ∈ gW := gW_t3 234 rfl rfl
theorem iv_yX0_freeWith : Cond.instanceMethod yX0_freeWith ∈ gW ∧ Cond.selects yX0_freeWith.cls yX0_freeWith yX0_freeWith ∈ gW := ⟨wn_yX0_freeWith, wv_yX0_freeWith⟩
set_option maxRecDepth 100000 in
theorem wm_RX0_77 : Cond.methodLink RX0 77 yX0_totalOf ∈ gW := gW_t4 71 rfl rfl
set_option maxRecDepth 100000 in
theorem wc_yX0_totalOf : Cond.code yX0_totalOf cX0_totalOf 5 (some .int) ∈ gW := gW_t4 59 rfl rfl
theorem cv_RX0_77 : CV RX0 77 yX0_totalOf cX0_totalOf 5 (some .int) 2 := ⟨wm_RX0_77, wc_yX0_totalOf, wi_TwoWidths_Choice, ⟨by decide, by decide⟩, by decide +kernel⟩
set_option maxRecDepth 100000 in
theorem wn_yX0_totalOf : Cond.instanceMethod yX0_totalOf ∈ gW := gW_t4 57 rfl rfl
set_option maxRecDepth 100000 in
theorem wv_yX0_totalOf : Cond.selects RX0 yX0_totalOf yX0_totalOf ∈ gW := gW_t4 58 rfl rfl
theorem iv_yX0_totalOf : Cond.instanceMethod yX0_totalOf ∈ gW ∧ Cond.selects yX0_totalOf.cls yX0_totalOf yX0_totalOf ∈ gW := ⟨wn_yX0_totalOf, wv_yX0_totalOf⟩
set_option maxRecDepth 100000 in
theorem wm_RX0_80 : Cond.methodLink RX0 80 yX0_worthIn ∈ gW := gW_t4 94 rfl rfl
set_option maxRecDepth 100000 in
theorem wc_yX0_worthIn : Cond.code yX0_worthIn cX0_worthIn 4 (some .int) ∈ gW := gW_t4 85 rfl rfl
theorem cv_RX0_80 : CV RX0 80 yX0_worthIn cX0_worthIn 4 (some .int) 3 := ⟨wm_RX0_80, wc_yX0_worthIn, wi_TwoWidths_Choice, ⟨by decide, by decide⟩, by decide +kernel⟩
set_option maxRecDepth 100000 in
theorem wn_yX0_worthIn : Cond.instanceMethod yX0_worthIn ∈ gW := gW_t4 83 rfl rfl
set_option maxRecDepth 100000 in
theorem wv_yX0_worthIn : Cond.selects RX0 yX0_worthIn yX0_worthIn ∈ gW := gW_t4 84 rfl rfl
theorem iv_yX0_worthIn : Cond.instanceMethod yX0_worthIn ∈ gW ∧ Cond.selects yX0_worthIn.cls yX0_worthIn yX0_worthIn ∈ gW := ⟨wn_yX0_worthIn, wv_yX0_worthIn⟩
set_option maxRecDepth 100000 in
theorem wm_RX1_102 : Cond.methodLink RX1 102 yX1_perform ∈ gW := gW_t4 108 rfl rfl
theorem cv_RX1_102 : CV RX1 102 yX1_perform cX1_perform 4 none 1 := ⟨wm_RX1_102, wc_yX1_perform, wi_TwoWidths_Land, ⟨by decide, by decide⟩, by decide +kernel⟩
set_option maxRecDepth 100000 in
theorem wf_RX0_21 : Cond.fieldLink RX0 21 "TwoWidths$Choice" "after" "LTwoWidths$Land;" ∈ gW := gW_t1 225 rfl rfl
theorem fo_RX0_21 : FO RX0 21 0 1 := ⟨RX0, TX0, 4, rfl, by decide, wf_RX0_21, wl_X0⟩
set_option maxRecDepth 100000 in
theorem wm_RX0_84 : Cond.methodLink RX0 84 yX0_firstOf ∈ gW := gW_t4 103 rfl rfl
set_option maxRecDepth 100000 in
theorem wc_yX0_firstOf : Cond.code yX0_firstOf cX0_firstOf 6 (some .int) ∈ gW := gW_t4 93 rfl rfl
theorem cv_RX0_84 : CV RX0 84 yX0_firstOf cX0_firstOf 6 (some .int) 1 := ⟨wm_RX0_84, wc_yX0_firstOf, wi_TwoWidths_Choice, ⟨by decide, by decide⟩, by decide +kernel⟩
set_option maxRecDepth 100000 in
theorem wn_yX0_firstOf : Cond.instanceMethod yX0_firstOf ∈ gW := gW_t4 91 rfl rfl
set_option maxRecDepth 100000 in
theorem wv_yX0_firstOf : Cond.selects RX0 yX0_firstOf yX0_firstOf ∈ gW := gW_t4 92 rfl rfl
theorem iv_yX0_firstOf : Cond.instanceMethod yX0_firstOf ∈ gW ∧ Cond.selects yX0_firstOf.cls yX0_firstOf yX0_firstOf ∈ gW := ⟨wn_yX0_firstOf, wv_yX0_firstOf⟩
set_option maxRecDepth 100000 in
theorem wm_RX0_88 : Cond.methodLink RX0 88 yX1_performForGood ∈ gW := gW_t4 104 rfl rfl
set_option maxRecDepth 100000 in
theorem wc_yX1_performForGood : Cond.code yX1_performForGood cX1_performForGood 2 none ∈ gW := gW_t4 107 rfl rfl
theorem cv_RX0_88 : CV RX0 88 yX1_performForGood cX1_performForGood 2 none 1 := ⟨wm_RX0_88, wc_yX1_performForGood, wi_TwoWidths_Land, ⟨by decide, by decide⟩, by decide +kernel⟩
set_option maxRecDepth 100000 in
theorem wn_yX1_performForGood : Cond.instanceMethod yX1_performForGood ∈ gW := gW_t4 105 rfl rfl
set_option maxRecDepth 100000 in
theorem wv_yX1_performForGood : Cond.selects RX1 yX1_performForGood yX1_performForGood ∈ gW := gW_t4 106 rfl rfl
theorem iv_yX1_performForGood : Cond.instanceMethod yX1_performForGood ∈ gW ∧ Cond.selects yX1_performForGood.cls yX1_performForGood yX1_performForGood ∈ gW := ⟨wn_yX1_performForGood, wv_yX1_performForGood⟩
set_option maxRecDepth 100000 in
theorem wm_RX0_91 : Cond.methodLink RX0 91 yX0_alwaysCostsMore ∈ gW := gW_t4 125 rfl rfl
set_option maxRecDepth 100000 in
theorem wc_yX0_alwaysCostsMore : Cond.code yX0_alwaysCostsMore cX0_alwaysCostsMore 5 (some .boolean) ∈ gW := gW_t4 128 rfl rfl
theorem cv_RX0_91 : CV RX0 91 yX0_alwaysCostsMore cX0_alwaysCostsMore 5 (some .boolean) 2 := ⟨wm_RX0_91, wc_yX0_alwaysCostsMore, wi_TwoWidths_Choice, ⟨by decide, by decide⟩, by decide +kernel⟩
set_option maxRecDepth 100000 in
theorem wn_yX0_alwaysCostsMore : Cond.instanceMethod yX0_alwaysCostsMore ∈ gW := gW_t4 127 rfl rfl
set_option maxRecDepth 100000 in
theorem wv_yX0_alwaysCostsMore : Cond.selects RX0 yX0_alwaysCostsMore yX0_alwaysCostsMore ∈ gW := gW_mem 27 rfl rfl
theorem iv_yX0_alwaysCostsMore : Cond.instanceMethod yX0_alwaysCostsMore ∈ gW ∧ Cond.selects yX0_alwaysCostsMore.cls yX0_alwaysCostsMore yX0_alwaysCostsMore ∈ gW := ⟨wn_yX0_alwaysCostsMore, wv_yX0_alwaysCostsMore⟩
set_option maxRecDepth 100000 in
theorem wf_RX0_95 : Cond.fieldLink RX0 95 "TwoWidths$Land" "lineCount" "I" ∈ gW := gW_t1 39 rfl rfl
theorem fo_RX0_95 : FO RX0 95 1 0 := ⟨RX1, TX1, 11, rfl, by decide, wf_RX0_95, wl_X1⟩
set_option maxRecDepth 100000 in
theorem wm_RX0_101 : Cond.methodLink RX0 101 yX1_putWidths ∈ gW := gW_t4 138 rfl rfl
theorem cv_RX0_101 : CV RX0 101 yX1_putWidths cX1_putWidths 3 none 2 := ⟨wm_RX0_101, wc_yX1_putWidths, wi_TwoWidths_Land, ⟨by decide, by decide⟩, by decide +kernel⟩
set_option maxRecDepth 100000 in
theorem wm_RX0_98 : Cond.methodLink RX0 98 yX1_ofLine ∈ gW := gW_t4 137 rfl rfl
theorem cv_RX0_98 : CV RX0 98 yX1_ofLine cX1_ofLine 3 (some .int) 2 := ⟨wm_RX0_98, wc_yX1_ofLine, wi_TwoWidths_Land, ⟨by decide, by decide⟩, by decide +kernel⟩
set_option maxRecDepth 100000 in
theorem wf_RX5_79 : Cond.fieldLink RX5 79 "TwoWidths$Ways" "stepCount" "I" ∈ gW := gW_t1 163 rfl rfl
theorem fo_RX5_79 : FO RX5 79 5 8 := ⟨RX5, TX5, 14, rfl, by decide, wf_RX5_79, wl_X5⟩
set_option maxRecDepth 100000 in
theorem wf_RX5_30 : Cond.fieldLink RX5 30 "TwoWidths$Ways" "steps" "[I" ∈ gW := gW_t1 160 rfl rfl
theorem fo_RX5_30 : FO RX5 30 5 6 := ⟨RX5, TX5, 14, rfl, by decide, wf_RX5_30, wl_X5⟩
set_option maxRecDepth 100000 in
theorem wf_RX5_33 : Cond.fieldLink RX5 33 "TwoWidths$Ways" "nodes" "[I" ∈ gW := gW_t1 161 rfl rfl
theorem fo_RX5_33 : FO RX5 33 5 7 := ⟨RX5, TX5, 14, rfl, by decide, wf_RX5_33, wl_X5⟩
theorem fp_RX5_79 : FP RX5 79 5 8 .int false := ⟨RX5, TX5, 14, tyX5, rfl, by decide, wf_RX5_79, wl_X5, tyX5_ok, nmX5, rfl, by decide +kernel, fun h => by first | rfl | cases h⟩
set_option maxRecDepth 100000 in
theorem wf_RX5_109 : Cond.fieldLink RX5 109 "TwoWidths$Ways" "seen" "J" ∈ gW := gW_t1 167 rfl rfl
theorem fo_RX5_109 : FO RX5 109 5 11 := ⟨RX5, TX5, 14, rfl, by decide, wf_RX5_109, wl_X5⟩
theorem fp_RX5_109 : FP RX5 109 5 11 .long false := ⟨RX5, TX5, 14, tyX5, rfl, by decide, wf_RX5_109, wl_X5, tyX5_ok, nmX5, rfl, by decide +kernel, fun h => by first | rfl | cases h⟩
set_option maxRecDepth 100000 in
theorem wf_RX5_36 : Cond.fieldLink RX5 36 "TwoWidths$Ways" "open" "[I" ∈ gW := gW_t1 165 rfl rfl
theorem fo_RX5_36 : FO RX5 36 5 9 := ⟨RX5, TX5, 14, rfl, by decide, wf_RX5_36, wl_X5⟩
set_option maxRecDepth 100000 in
theorem wf_RX5_113 : Cond.fieldLink RX5 113 "TwoWidths$Ways" "openCount" "I" ∈ gW := gW_t1 166 rfl rfl
theorem fo_RX5_113 : FO RX5 113 5 10 := ⟨RX5, TX5, 14, rfl, by decide, wf_RX5_113, wl_X5⟩
theorem fp_RX5_113 : FP RX5 113 5 10 .int false := ⟨RX5, TX5, 14, tyX5, rfl, by decide, wf_RX5_113, wl_X5, tyX5_ok, nmX5, rfl, by decide +kernel, fun h => by first | rfl | cases h⟩
set_option maxRecDepth 100000 in
theorem wm_RX5_116 : Cond.methodLink RX5 116 yX5_openIfCheapest ∈ gW := gW_t3 191 rfl rfl
set_option maxRecDepth 100000 in
theorem wc_yX5_openIfCheapest : Cond.code yX5_openIfCheapest cX5_openIfCheapest 5 none ∈ gW := gW_t3 194 rfl rfl
theorem cv_RX5_116 : CV RX5 116 yX5_openIfCheapest cX5_openIfCheapest 5 none 3 := ⟨wm_RX5_116, wc_yX5_openIfCheapest, wi_TwoWidths_Ways, ⟨by decide, by decide⟩, by decide +kernel⟩
set_option maxRecDepth 100000 in
theorem wn_yX5_openIfCheapest : Cond.instanceMethod yX5_openIfCheapest ∈ gW := gW_t3 193 rfl rfl
set_option maxRecDepth 100000 in
theorem wv_yX5_openIfCheapest : Cond.selects RX5 yX5_openIfCheapest yX5_openIfCheapest ∈ gW := gW_mem 22 rfl rfl
theorem iv_yX5_openIfCheapest : Cond.instanceMethod yX5_openIfCheapest ∈ gW ∧ Cond.selects yX5_openIfCheapest.cls yX5_openIfCheapest yX5_openIfCheapest ∈ gW := ⟨wn_yX5_openIfCheapest, wv_yX5_openIfCheapest⟩
set_option maxRecDepth 100000 in
theorem wm_RX5_102 : Cond.methodLink RX5 102 yX5_otherEnd ∈ gW := gW_t3 195 rfl rfl
set_option maxRecDepth 100000 in
theorem wc_yX5_otherEnd : Cond.code yX5_otherEnd cX5_otherEnd 3 (some .int) ∈ gW := gW_t3 198 rfl rfl
theorem cv_RX5_102 : CV RX5 102 yX5_otherEnd cX5_otherEnd 3 (some .int) 2 := ⟨wm_RX5_102, wc_yX5_otherEnd, wi_TwoWidths_Ways, ⟨by decide, by decide⟩, by decide +kernel⟩
set_option maxRecDepth 100000 in
theorem wn_yX5_otherEnd : Cond.instanceMethod yX5_otherEnd ∈ gW := gW_t3 197 rfl rfl
set_option maxRecDepth 100000 in
theorem wv_yX5_otherEnd : Cond.selects RX5 yX5_otherEnd yX5_otherEnd ∈ gW := gW_mem 23 rfl rfl
theorem iv_yX5_otherEnd : Cond.instanceMethod yX5_otherEnd ∈ gW ∧ Cond.selects yX5_otherEnd.cls yX5_otherEnd yX5_otherEnd ∈ gW := ⟨wn_yX5_otherEnd, wv_yX5_otherEnd⟩
set_option maxRecDepth 100000 in
theorem wm_RX5_105 : Cond.methodLink RX5 105 yX5_arrives ∈ gW := gW_t3 187 rfl rfl
set_option maxRecDepth 100000 in
theorem wc_yX5_arrives : Cond.code yX5_arrives cX5_arrives 9 (some .boolean) ∈ gW := gW_t3 190 rfl rfl
theorem cv_RX5_105 : CV RX5 105 yX5_arrives cX5_arrives 9 (some .boolean) 2 := ⟨wm_RX5_105, wc_yX5_arrives, wi_TwoWidths_Ways, ⟨by decide, by decide⟩, by decide +kernel⟩
set_option maxRecDepth 100000 in
theorem wn_yX5_arrives : Cond.instanceMethod yX5_arrives ∈ gW := gW_t3 189 rfl rfl
set_option maxRecDepth 100000 in
theorem wv_yX5_arrives : Cond.selects RX5 yX5_arrives yX5_arrives ∈ gW := gW_mem 21 rfl rfl
theorem iv_yX5_arrives : Cond.instanceMethod yX5_arrives ∈ gW ∧ Cond.selects yX5_arrives.cls yX5_arrives yX5_arrives ∈ gW := ⟨wn_yX5_arrives, wv_yX5_arrives⟩
set_option maxRecDepth 100000 in
theorem wm_RX5_90 : Cond.methodLink RX5 90 yX5_note ∈ gW := gW_t3 175 rfl rfl
set_option maxRecDepth 100000 in
theorem wc_yX5_note : Cond.code yX5_note cX5_note 3 none ∈ gW := gW_t3 178 rfl rfl
theorem cv_RX5_90 : CV RX5 90 yX5_note cX5_note 3 none 2 := ⟨wm_RX5_90, wc_yX5_note, wi_TwoWidths_Ways, ⟨by decide, by decide⟩, by decide +kernel⟩
set_option maxRecDepth 100000 in
theorem wn_yX5_note : Cond.instanceMethod yX5_note ∈ gW := gW_t3 177 rfl rfl
set_option maxRecDepth 100000 in
theorem wv_yX5_note : Cond.selects RX5 yX5_note yX5_note ∈ gW := gW_mem 18 rfl rfl
theorem iv_yX5_note : Cond.instanceMethod yX5_note ∈ gW ∧ Cond.selects yX5_note.cls yX5_note yX5_note ∈ gW := ⟨wn_yX5_note, wv_yX5_note⟩
set_option maxRecDepth 100000 in
theorem wm_RX5_98 : Cond.methodLink RX5 98 yX5_leads ∈ gW := gW_t3 183 rfl rfl
set_option maxRecDepth 100000 in
theorem wc_yX5_leads : Cond.code yX5_leads cX5_leads 6 (some .boolean) ∈ gW := gW_t3 186 rfl rfl
theorem cv_RX5_98 : CV RX5 98 yX5_leads cX5_leads 6 (some .boolean) 4 := ⟨wm_RX5_98, wc_yX5_leads, wi_TwoWidths_Ways, ⟨by decide, by decide⟩, by decide +kernel⟩
set_option maxRecDepth 100000 in
theorem wn_yX5_leads : Cond.instanceMethod yX5_leads ∈ gW := gW_t3 185 rfl rfl
set_option maxRecDepth 100000 in
theorem wv_yX5_leads : Cond.selects RX5 yX5_leads yX5_leads ∈ gW := gW_mem 20 rfl rfl
theorem iv_yX5_leads : Cond.instanceMethod yX5_leads ∈ gW ∧ Cond.selects yX5_leads.cls yX5_leads yX5_leads ∈ gW := ⟨wn_yX5_leads, wv_yX5_leads⟩
set_option maxRecDepth 100000 in
theorem wm_RX5_94 : Cond.methodLink RX5 94 yX5_stepOn ∈ gW := gW_t3 179 rfl rfl
set_option maxRecDepth 100000 in
theorem wc_yX5_stepOn : Cond.code yX5_stepOn cX5_stepOn 7 (some .int) ∈ gW := gW_t3 182 rfl rfl
theorem cv_RX5_94 : CV RX5 94 yX5_stepOn cX5_stepOn 7 (some .int) 2 := ⟨wm_RX5_94, wc_yX5_stepOn, wi_TwoWidths_Ways, ⟨by decide, by decide⟩, by decide +kernel⟩
set_option maxRecDepth 100000 in
theorem wn_yX5_stepOn : Cond.instanceMethod yX5_stepOn ∈ gW := gW_t3 181 rfl rfl
set_option maxRecDepth 100000 in
theorem wv_yX5_stepOn : Cond.selects RX5 yX5_stepOn yX5_stepOn ∈ gW := gW_mem 19 rfl rfl
theorem iv_yX5_stepOn : Cond.instanceMethod yX5_stepOn ∈ gW ∧ Cond.selects yX5_stepOn.cls yX5_stepOn yX5_stepOn ∈ gW := ⟨wn_yX5_stepOn, wv_yX5_stepOn⟩
set_option maxRecDepth 100000 in
theorem wm_RX5_86 : Cond.methodLink RX5 86 yX5_costFrom ∈ gW := gW_t3 174 rfl rfl
theorem cv_RX5_86 : CV RX5 86 yX5_costFrom cX5_costFrom 4 (some .int) 1 := ⟨wm_RX5_86, wc_yX5_costFrom, wi_TwoWidths_Ways, ⟨by decide, by decide⟩, by decide +kernel⟩
set_option maxRecDepth 100000 in
theorem wm_RX5_82 : Cond.methodLink RX5 82 yX5_aimAt ∈ gW := gW_t3 173 rfl rfl
theorem cv_RX5_82 : CV RX5 82 yX5_aimAt cX5_aimAt 3 none 1 := ⟨wm_RX5_82, wc_yX5_aimAt, wi_TwoWidths_Ways, ⟨by decide, by decide⟩, by decide +kernel⟩
set_option maxRecDepth 100000 in
theorem cn_RX5_120 : CN RX5 120 yX6_within RX6 cX6_within 3 (some .boolean) 3 := ⟨nest_mem 756 rfl, wc_yX6_within, wi_TwoWidths, ws_yX6_within, ⟨by decide, by decide⟩, by decide +kernel⟩
set_option maxRecDepth 100000 in
theorem wf_RX4_74 : Cond.fieldLink RX4 74 "TwoWidths$Ways" "stepCount" "I" ∈ gW := gW_t1 162 rfl rfl
theorem fo_RX4_74 : FO RX4 74 5 8 := ⟨RX5, TX5, 14, rfl, by decide, wf_RX4_74, wl_X5⟩
set_option maxRecDepth 100000 in
theorem wm_RX4_60 : Cond.methodLink RX4 60 yX1_ofLine ∈ gW := gW_t4 40 rfl rfl
theorem cv_RX4_60 : CV RX4 60 yX1_ofLine cX1_ofLine 3 (some .int) 2 := ⟨wm_RX4_60, wc_yX1_ofLine, wi_TwoWidths_Land, ⟨by decide, by decide⟩, by decide +kernel⟩
set_option maxRecDepth 100000 in
theorem wm_RX4_95 : Cond.methodLink RX4 95 yX1_hasLine ∈ gW := gW_t4 156 rfl rfl
theorem cv_RX4_95 : CV RX4 95 yX1_hasLine cX1_hasLine 2 (some .boolean) 1 := ⟨wm_RX4_95, wc_yX1_hasLine, wi_TwoWidths_Land, ⟨by decide, by decide⟩, by decide +kernel⟩
set_option maxRecDepth 100000 in
theorem wm_RX4_77 : Cond.methodLink RX4 77 yX5_lineOn ∈ gW := gW_t4 50 rfl rfl
set_option maxRecDepth 100000 in
theorem wc_yX5_lineOn : Cond.code yX5_lineOn cX5_lineOn 2 (some .int) ∈ gW := gW_t3 206 rfl rfl
theorem cv_RX4_77 : CV RX4 77 yX5_lineOn cX5_lineOn 2 (some .int) 1 := ⟨wm_RX4_77, wc_yX5_lineOn, wi_TwoWidths_Ways, ⟨by decide, by decide⟩, by decide +kernel⟩
set_option maxRecDepth 100000 in
theorem wn_yX5_lineOn : Cond.instanceMethod yX5_lineOn ∈ gW := gW_t3 204 rfl rfl
set_option maxRecDepth 100000 in
theorem wv_yX5_lineOn : Cond.selects RX5 yX5_lineOn yX5_lineOn ∈ gW := gW_t3 205 rfl rfl
theorem iv_yX5_lineOn : Cond.instanceMethod yX5_lineOn ∈ gW ∧ Cond.selects yX5_lineOn.cls yX5_lineOn yX5_lineOn ∈ gW := ⟨wn_yX5_lineOn, wv_yX5_lineOn⟩
set_option maxRecDepth 100000 in
theorem wm_RX4_91 : Cond.methodLink RX4 91 yX4_payOwners ∈ gW := gW_t4 152 rfl rfl
set_option maxRecDepth 100000 in
theorem wc_yX4_payOwners : Cond.code yX4_payOwners cX4_payOwners 6 none ∈ gW := gW_t4 155 rfl rfl
theorem cv_RX4_91 : CV RX4 91 yX4_payOwners cX4_payOwners 6 none 3 := ⟨wm_RX4_91, wc_yX4_payOwners, wi_TwoWidths_Traffic, ⟨by decide, by decide⟩, by decide +kernel⟩
set_option maxRecDepth 100000 in
theorem wn_yX4_payOwners : Cond.instanceMethod yX4_payOwners ∈ gW := gW_t4 154 rfl rfl
set_option maxRecDepth 100000 in
theorem wv_yX4_payOwners : Cond.selects RX4 yX4_payOwners yX4_payOwners ∈ gW := gW_mem 28 rfl rfl
theorem iv_yX4_payOwners : Cond.instanceMethod yX4_payOwners ∈ gW ∧ Cond.selects yX4_payOwners.cls yX4_payOwners yX4_payOwners ∈ gW := ⟨wn_yX4_payOwners, wv_yX4_payOwners⟩
set_option maxRecDepth 100000 in
theorem wm_RX4_67 : Cond.methodLink RX4 67 yX5_trace ∈ gW := gW_t4 45 rfl rfl
set_option maxRecDepth 100000 in
theorem wc_yX5_trace : Cond.code yX5_trace cX5_trace 9 (some .boolean) ∈ gW := gW_t3 172 rfl rfl
theorem cv_RX4_67 : CV RX4 67 yX5_trace cX5_trace 9 (some .boolean) 2 := ⟨wm_RX4_67, wc_yX5_trace, wi_TwoWidths_Ways, ⟨by decide, by decide⟩, by decide +kernel⟩
set_option maxRecDepth 100000 in
theorem wn_yX5_trace : Cond.instanceMethod yX5_trace ∈ gW := gW_t3 170 rfl rfl
set_option maxRecDepth 100000 in
theorem wv_yX5_trace : Cond.selects RX5 yX5_trace yX5_trace ∈ gW := gW_t3 171 rfl rfl
theorem iv_yX5_trace : Cond.instanceMethod yX5_trace ∈ gW ∧ Cond.selects yX5_trace.cls yX5_trace yX5_trace ∈ gW := ⟨wn_yX5_trace, wv_yX5_trace⟩
set_option maxRecDepth 100000 in
theorem wm_RX4_25 : Cond.methodLink RX4 25 yX1_linesThere ∈ gW := gW_t3 134 rfl rfl
theorem cv_RX4_25 : CV RX4 25 yX1_linesThere cX1_linesThere 3 (some .int) 0 := ⟨wm_RX4_25, wc_yX1_linesThere, wi_TwoWidths_Land, ⟨by decide, by decide⟩, by decide +kernel⟩
set_option maxRecDepth 100000 in
theorem wm_RX4_85 : Cond.methodLink RX4 85 yJ7_fill_53178 ∈ gW := gW_t4 151 rfl rfl
theorem cv_RX4_85 : CV RX4 85 yJ7_fill_53178 cJ7_fill_53178 4 none 2 := ⟨wm_RX4_85, wc_yJ7_fill_53178, wi_java_util_Arrays, ⟨by decide, by decide⟩, by decide +kernel⟩
set_option maxRecDepth 100000 in
theorem wf_RX0_25 : Cond.fieldLink RX0 25 "TwoWidths$Choice" "gained" "[I" ∈ gW := gW_t1 227 rfl rfl
theorem fo_RX0_25 : FO RX0 25 0 2 := ⟨RX0, TX0, 4, rfl, by decide, wf_RX0_25, wl_X0⟩
set_option maxRecDepth 100000 in
theorem wf_RX0_108 : Cond.fieldLink RX0 108 "TwoWidths$Traffic" "earned" "[I" ∈ gW := gW_t1 204 rfl rfl
theorem fo_RX0_108 : FO RX0 108 4 2 := ⟨RX4, TX4, 5, rfl, by decide, wf_RX0_108, wl_X4⟩
set_option maxRecDepth 100000 in
theorem wm_RX0_104 : Cond.methodLink RX0 104 yX4_earn ∈ gW := gW_t4 165 rfl rfl
set_option maxRecDepth 100000 in
theorem wc_yX4_earn : Cond.code yX4_earn cX4_earn 4 none ∈ gW := gW_t4 150 rfl rfl
theorem cv_RX0_104 : CV RX0 104 yX4_earn cX4_earn 4 none 2 := ⟨wm_RX0_104, wc_yX4_earn, wi_TwoWidths_Traffic, ⟨by decide, by decide⟩, by decide +kernel⟩
set_option maxRecDepth 100000 in
theorem wn_yX4_earn : Cond.instanceMethod yX4_earn ∈ gW := gW_t4 148 rfl rfl
set_option maxRecDepth 100000 in
theorem wv_yX4_earn : Cond.selects RX4 yX4_earn yX4_earn ∈ gW := gW_t4 149 rfl rfl
theorem iv_yX4_earn : Cond.instanceMethod yX4_earn ∈ gW ∧ Cond.selects yX4_earn.cls yX4_earn yX4_earn ∈ gW := ⟨wn_yX4_earn, wv_yX4_earn⟩
set_option maxRecDepth 100000 in
theorem wm_RX0_111 : Cond.methodLink RX0 111 yX0_workTold ∈ gW := gW_t4 215 rfl rfl
set_option maxRecDepth 100000 in
theorem wc_yX0_workTold : Cond.code yX0_workTold cX0_workTold 3 (some .int) ∈ gW := gW_t4 217 rfl rfl
theorem cv_RX0_111 : CV RX0 111 yX0_workTold cX0_workTold 3 (some .int) 2 := ⟨wm_RX0_111, wc_yX0_workTold, wi_TwoWidths_Choice, ⟨by decide, by decide⟩, by decide +kernel⟩
set_option maxRecDepth 100000 in
theorem ws_yX0_workTold : Cond.static yX0_workTold ∈ gW := gW_t4 216 rfl rfl
set_option maxRecDepth 100000 in
theorem wm_RX0_118 : Cond.methodLink RX0 118 yX1_hasWork ∈ gW := gW_t4 226 rfl rfl
theorem cv_RX0_118 : CV RX0 118 yX1_hasWork cX1_hasWork 2 (some .boolean) 1 := ⟨wm_RX0_118, wc_yX1_hasWork, wi_TwoWidths_Land, ⟨by decide, by decide⟩, by decide +kernel⟩
set_option maxRecDepth 100000 in
theorem wm_RX0_115 : Cond.methodLink RX0 115 yX0_costOfYear ∈ gW := gW_t4 222 rfl rfl
set_option maxRecDepth 100000 in
theorem wc_yX0_costOfYear : Cond.code yX0_costOfYear cX0_costOfYear 4 (some .int) ∈ gW := gW_t4 225 rfl rfl
theorem cv_RX0_115 : CV RX0 115 yX0_costOfYear cX0_costOfYear 4 (some .int) 2 := ⟨wm_RX0_115, wc_yX0_costOfYear, wi_TwoWidths_Choice, ⟨by decide, by decide⟩, by decide +kernel⟩
set_option maxRecDepth 100000 in
theorem wn_yX0_costOfYear : Cond.instanceMethod yX0_costOfYear ∈ gW := gW_t4 223 rfl rfl
set_option maxRecDepth 100000 in
theorem wv_yX0_costOfYear : Cond.selects RX0 yX0_costOfYear yX0_costOfYear ∈ gW := gW_t4 224 rfl rfl
theorem iv_yX0_costOfYear : Cond.instanceMethod yX0_costOfYear ∈ gW ∧ Cond.selects yX0_costOfYear.cls yX0_costOfYear yX0_costOfYear ∈ gW := ⟨wn_yX0_costOfYear, wv_yX0_costOfYear⟩
set_option maxRecDepth 100000 in
theorem wf_RX6_326 : Cond.fieldLink RX6 326 "TwoWidths" "ABOVE" "[I" ∈ gW := gW_t2 119 rfl rfl
set_option maxRecDepth 100000 in
theorem wm_RX6_64 : Cond.methodLink RX6 64 yX6_within ∈ gW := gW_t2 40 rfl rfl
theorem cv_RX6_64 : CV RX6 64 yX6_within cX6_within 3 (some .boolean) 3 := ⟨wm_RX6_64, wc_yX6_within, wi_TwoWidths, ⟨by decide, by decide⟩, by decide +kernel⟩
set_option maxRecDepth 100000 in
theorem wm_RX1_82 : Cond.methodLink RX1 82 yX1_greatestB ∈ gW := gW_t2 153 rfl rfl
set_option maxRecDepth 100000 in
theorem wc_yX1_greatestB : Cond.code yX1_greatestB cX1_greatestB 2 (some .int) ∈ gW := gW_t2 156 rfl rfl
theorem cv_RX1_82 : CV RX1 82 yX1_greatestB cX1_greatestB 2 (some .int) 1 := ⟨wm_RX1_82, wc_yX1_greatestB, wi_TwoWidths_Land, ⟨by decide, by decide⟩, by decide +kernel⟩
set_option maxRecDepth 100000 in
theorem wn_yX1_greatestB : Cond.instanceMethod yX1_greatestB ∈ gW := gW_t2 154 rfl rfl
set_option maxRecDepth 100000 in
theorem wv_yX1_greatestB : Cond.selects RX1 yX1_greatestB yX1_greatestB ∈ gW := gW_t2 155 rfl rfl
theorem iv_yX1_greatestB : Cond.instanceMethod yX1_greatestB ∈ gW ∧ Cond.selects yX1_greatestB.cls yX1_greatestB yX1_greatestB ∈ gW := ⟨wn_yX1_greatestB, wv_yX1_greatestB⟩
set_option maxRecDepth 100000 in
theorem wm_RX1_78 : Cond.methodLink RX1 78 yX1_greatestA ∈ gW := gW_t2 149 rfl rfl
set_option maxRecDepth 100000 in
theorem wc_yX1_greatestA : Cond.code yX1_greatestA cX1_greatestA 2 (some .int) ∈ gW := gW_t2 152 rfl rfl
theorem cv_RX1_78 : CV RX1 78 yX1_greatestA cX1_greatestA 2 (some .int) 1 := ⟨wm_RX1_78, wc_yX1_greatestA, wi_TwoWidths_Land, ⟨by decide, by decide⟩, by decide +kernel⟩
set_option maxRecDepth 100000 in
theorem wn_yX1_greatestA : Cond.instanceMethod yX1_greatestA ∈ gW := gW_t2 150 rfl rfl
set_option maxRecDepth 100000 in
theorem wv_yX1_greatestA : Cond.selects RX1 yX1_greatestA yX1_greatestA ∈ gW := gW_t2 151 rfl rfl
theorem iv_yX1_greatestA : Cond.instanceMethod yX1_greatestA ∈ gW ∧ Cond.selects yX1_greatestA.cls yX1_greatestA yX1_greatestA ∈ gW := ⟨wn_yX1_greatestA, wv_yX1_greatestA⟩
set_option maxRecDepth 100000 in
theorem wc_yX6_isUnder : Cond.code yX6_isUnder cX6_isUnder 4 (some .boolean) ∈ gW := gW_t2 118 rfl rfl
set_option maxRecDepth 100000 in
theorem ws_yX6_isUnder : Cond.static yX6_isUnder ∈ gW := gW_t2 117 rfl rfl
set_option maxRecDepth 100000 in
theorem cn_RX1_74 : CN RX1 74 yX6_isUnder RX6 cX6_isUnder 4 (some .boolean) 2 := ⟨nest_mem 457 rfl, wc_yX6_isUnder, wi_TwoWidths, ws_yX6_isUnder, ⟨by decide, by decide⟩, by decide +kernel⟩
set_option maxRecDepth 100000 in
theorem cn_RX2_29 : CN RX2 29 yX6_within RX6 cX6_within 3 (some .boolean) 3 := ⟨nest_mem 346 rfl, wc_yX6_within, wi_TwoWidths, ws_yX6_within, ⟨by decide, by decide⟩, by decide +kernel⟩
set_option maxRecDepth 100000 in
theorem wf_RX2_16 : Cond.fieldLink RX2 16 "TwoWidths$Shelves" "held" "[I" ∈ gW := gW_t1 124 rfl rfl
theorem wl_X2 : ∀ w ∈ u_ws RX2 TX2 3, w ∈ gW := gW_all [197, 199, 201] (by decide +kernel) (by decide +kernel)
theorem fo_RX2_16 : FO RX2 16 2 1 := ⟨RX2, TX2, 3, rfl, by decide, wf_RX2_16, wl_X2⟩
set_option maxRecDepth 100000 in
theorem wm_RX2_33 : Cond.methodLink RX2 33 yX2_hasWork ∈ gW := gW_t2 111 rfl rfl
set_option maxRecDepth 100000 in
theorem wc_yX2_hasWork : Cond.code yX2_hasWork cX2_hasWork 2 (some .boolean) ∈ gW := gW_t2 63 rfl rfl
set_option maxRecDepth 100000 in
theorem wi_TwoWidths_Shelves : Cond.initialized RX2 ∈ gW := gW_t1 5 rfl rfl
theorem cv_RX2_33 : CV RX2 33 yX2_hasWork cX2_hasWork 2 (some .boolean) 1 := ⟨wm_RX2_33, wc_yX2_hasWork, wi_TwoWidths_Shelves, ⟨by decide, by decide⟩, by decide +kernel⟩
set_option maxRecDepth 100000 in
theorem wn_yX2_hasWork : Cond.instanceMethod yX2_hasWork ∈ gW := gW_t2 61 rfl rfl
set_option maxRecDepth 100000 in
theorem wv_yX2_hasWork : Cond.selects RX2 yX2_hasWork yX2_hasWork ∈ gW := gW_t2 62 rfl rfl
theorem iv_yX2_hasWork : Cond.instanceMethod yX2_hasWork ∈ gW ∧ Cond.selects yX2_hasWork.cls yX2_hasWork yX2_hasWork ∈ gW := ⟨wn_yX2_hasWork, wv_yX2_hasWork⟩
set_option maxRecDepth 100000 in
theorem wf_RX2_20 : Cond.fieldLink RX2 20 "TwoWidths$Shelves" "sizes" "[I" ∈ gW := gW_t1 126 rfl rfl
theorem fo_RX2_20 : FO RX2 20 2 2 := ⟨RX2, TX2, 3, rfl, by decide, wf_RX2_20, wl_X2⟩
set_option maxRecDepth 100000 in
theorem wf_RX2_13 : Cond.fieldLink RX2 13 "TwoWidths$Shelves" "elements" "[[J" ∈ gW := gW_t1 122 rfl rfl
theorem fo_RX2_13 : FO RX2 13 2 0 := ⟨RX2, TX2, 3, rfl, by decide, wf_RX2_13, wl_X2⟩
set_option maxRecDepth 100000 in
theorem wm_RX2_37 : Cond.methodLink RX2 37 yJ7_fill_d0a16 ∈ gW := gW_t2 49 rfl rfl
set_option maxRecDepth 100000 in
theorem wc_yJ7_fill_d0a16 : Cond.code yJ7_fill_d0a16 cJ7_fill_d0a16 5 none ∈ gW := gW_t2 51 rfl rfl
theorem cv_RX2_37 : CV RX2 37 yJ7_fill_d0a16 cJ7_fill_d0a16 5 none 2 := ⟨wm_RX2_37, wc_yJ7_fill_d0a16, wi_java_util_Arrays, ⟨by decide, by decide⟩, by decide +kernel⟩
set_option maxRecDepth 100000 in
theorem ws_yJ7_fill_d0a16 : Cond.static yJ7_fill_d0a16 ∈ gW := gW_t2 50 rfl rfl
set_option maxRecDepth 100000 in
theorem wm_RX2_40 : Cond.methodLink RX2 40 yX2_fitted ∈ gW := gW_t2 72 rfl rfl
set_option maxRecDepth 100000 in
theorem wc_yX2_fitted : Cond.code yX2_fitted cX2_fitted 3 (some .long) ∈ gW := gW_t2 74 rfl rfl
theorem cv_RX2_40 : CV RX2 40 yX2_fitted cX2_fitted 3 (some .long) 2 := ⟨wm_RX2_40, wc_yX2_fitted, wi_TwoWidths_Shelves, ⟨by decide, by decide⟩, by decide +kernel⟩
set_option maxRecDepth 100000 in
theorem ws_yX2_fitted : Cond.static yX2_fitted ∈ gW := gW_t2 73 rfl rfl
set_option maxRecDepth 100000 in
theorem wm_RX2_44 : Cond.methodLink RX2 44 yX2_workIn ∈ gW := gW_t5 16 rfl rfl
set_option maxRecDepth 100000 in
theorem wc_yX2_workIn : Cond.code yX2_workIn cX2_workIn 2 (some .int) ∈ gW := gW_t2 110 rfl rfl
theorem cv_RX2_44 : CV RX2 44 yX2_workIn cX2_workIn 2 (some .int) 1 := ⟨wm_RX2_44, wc_yX2_workIn, wi_TwoWidths_Shelves, ⟨by decide, by decide⟩, by decide +kernel⟩
set_option maxRecDepth 100000 in
theorem wn_yX2_workIn : Cond.instanceMethod yX2_workIn ∈ gW := gW_t2 108 rfl rfl
set_option maxRecDepth 100000 in
theorem wv_yX2_workIn : Cond.selects RX2 yX2_workIn yX2_workIn ∈ gW := gW_t2 109 rfl rfl
theorem iv_yX2_workIn : Cond.instanceMethod yX2_workIn ∈ gW ∧ Cond.selects yX2_workIn.cls yX2_workIn yX2_workIn ∈ gW := ⟨wn_yX2_workIn, wv_yX2_workIn⟩
set_option maxRecDepth 100000 in
theorem wf_RX3_15 : Cond.fieldLink RX3 15 "TwoWidths$Tape" "size" "I" ∈ gW := gW_t1 94 rfl rfl
theorem wl_X3 : ∀ w ∈ u_ws RX3 TX3 6, w ∈ gW := gW_all [169, 171, 173, 175, 177, 179] (by decide +kernel) (by decide +kernel)
theorem fo_RX3_15 : FO RX3 15 3 1 := ⟨RX3, TX3, 6, rfl, by decide, wf_RX3_15, wl_X3⟩
set_option maxRecDepth 100000 in
theorem wf_RX3_11 : Cond.fieldLink RX3 11 "TwoWidths$Tape" "bytes" "[I" ∈ gW := gW_t1 93 rfl rfl
theorem fo_RX3_11 : FO RX3 11 3 0 := ⟨RX3, TX3, 6, rfl, by decide, wf_RX3_11, wl_X3⟩
theorem fp_RX3_15 : FP RX3 15 3 1 .int false := ⟨RX3, TX3, 6, tyX3, rfl, by decide, wf_RX3_15, wl_X3, tyX3_ok, nmX3, rfl, by decide +kernel, fun h => by first | rfl | cases h⟩
set_option maxRecDepth 100000 in
theorem wf_RX3_19 : Cond.fieldLink RX3 19 "TwoWidths$Tape" "end" "I" ∈ gW := gW_t1 97 rfl rfl
theorem fo_RX3_19 : FO RX3 19 3 3 := ⟨RX3, TX3, 6, rfl, by decide, wf_RX3_19, wl_X3⟩
set_option maxRecDepth 100000 in
theorem wf_RX3_29 : Cond.fieldLink RX3 29 "TwoWidths$Tape" "start" "I" ∈ gW := gW_t1 96 rfl rfl
theorem fo_RX3_29 : FO RX3 29 3 2 := ⟨RX3, TX3, 6, rfl, by decide, wf_RX3_29, wl_X3⟩
theorem fp_RX3_29 : FP RX3 29 3 2 .int false := ⟨RX3, TX3, 6, tyX3, rfl, by decide, wf_RX3_29, wl_X3, tyX3_ok, nmX3, rfl, by decide +kernel, fun h => by first | rfl | cases h⟩
set_option maxRecDepth 100000 in
theorem wf_RX3_32 : Cond.fieldLink RX3 32 "TwoWidths$Tape" "token" "I" ∈ gW := gW_t1 98 rfl rfl
theorem fp_RX3_32 : FP RX3 32 3 4 .int false := ⟨RX3, TX3, 6, tyX3, rfl, by decide, wf_RX3_32, wl_X3, tyX3_ok, nmX3, rfl, by decide +kernel, fun h => by first | rfl | cases h⟩
theorem fo_RX3_32 : FO RX3 32 3 4 := ⟨RX3, TX3, 6, rfl, by decide, wf_RX3_32, wl_X3⟩
theorem fp_RX3_19 : FP RX3 19 3 3 .int false := ⟨RX3, TX3, 6, tyX3, rfl, by decide, wf_RX3_19, wl_X3, tyX3_ok, nmX3, rfl, by decide +kernel, fun h => by first | rfl | cases h⟩
set_option maxRecDepth 100000 in
theorem wf_RX3_131 : Cond.fieldLink RX3 131 "TwoWidths$Tape" "value" "I" ∈ gW := gW_t1 99 rfl rfl
theorem fp_RX3_131 : FP RX3 131 3 5 .int false := ⟨RX3, TX3, 6, tyX3, rfl, by decide, wf_RX3_131, wl_X3, tyX3_ok, nmX3, rfl, by decide +kernel, fun h => by first | rfl | cases h⟩
set_option maxRecDepth 100000 in
theorem wm_RX3_151 : Cond.methodLink RX3 151 yX3_valueHere ∈ gW := gW_t2 230 rfl rfl
set_option maxRecDepth 100000 in
theorem wc_yX3_valueHere : Cond.code yX3_valueHere cX3_valueHere 3 (some .int) ∈ gW := gW_t2 233 rfl rfl
set_option maxRecDepth 100000 in
theorem wi_TwoWidths_Tape : Cond.initialized RX3 ∈ gW := gW_t1 4 rfl rfl
theorem cv_RX3_151 : CV RX3 151 yX3_valueHere cX3_valueHere 3 (some .int) 0 := ⟨wm_RX3_151, wc_yX3_valueHere, wi_TwoWidths_Tape, ⟨by decide, by decide⟩, by decide +kernel⟩
set_option maxRecDepth 100000 in
theorem wn_yX3_valueHere : Cond.instanceMethod yX3_valueHere ∈ gW := gW_t2 232 rfl rfl
set_option maxRecDepth 100000 in
theorem wv_yX3_valueHere : Cond.selects RX3 yX3_valueHere yX3_valueHere ∈ gW := gW_mem 4 rfl rfl
theorem iv_yX3_valueHere : Cond.instanceMethod yX3_valueHere ∈ gW ∧ Cond.selects yX3_valueHere.cls yX3_valueHere yX3_valueHere ∈ gW := ⟨wn_yX3_valueHere, wv_yX3_valueHere⟩
set_option maxRecDepth 100000 in
theorem wm_RX3_148 : Cond.methodLink RX3 148 yX3_tokenAt ∈ gW := gW_t2 226 rfl rfl
set_option maxRecDepth 100000 in
theorem wc_yX3_tokenAt : Cond.code yX3_tokenAt cX3_tokenAt 3 (some .int) ∈ gW := gW_t2 229 rfl rfl
theorem cv_RX3_148 : CV RX3 148 yX3_tokenAt cX3_tokenAt 3 (some .int) 1 := ⟨wm_RX3_148, wc_yX3_tokenAt, wi_TwoWidths_Tape, ⟨by decide, by decide⟩, by decide +kernel⟩
set_option maxRecDepth 100000 in
theorem wn_yX3_tokenAt : Cond.instanceMethod yX3_tokenAt ∈ gW := gW_t2 228 rfl rfl
set_option maxRecDepth 100000 in
theorem wv_yX3_tokenAt : Cond.selects RX3 yX3_tokenAt yX3_tokenAt ∈ gW := gW_mem 3 rfl rfl
theorem iv_yX3_tokenAt : Cond.instanceMethod yX3_tokenAt ∈ gW ∧ Cond.selects yX3_tokenAt.cls yX3_tokenAt yX3_tokenAt ∈ gW := ⟨wn_yX3_tokenAt, wv_yX3_tokenAt⟩
set_option maxRecDepth 100000 in
theorem wm_RX3_144 : Cond.methodLink RX3 144 yJ0_charAt_5068e ∈ gW := gW_t3 13 rfl rfl
set_option maxRecDepth 100000 in
theorem wc_yJ0_charAt_5068e : Cond.code yJ0_charAt_5068e cJ0_charAt_5068e 2 (some .char) ∈ gW := gW_t3 16 rfl rfl
theorem cv_RX3_144 : CV RX3 144 yJ0_charAt_5068e cJ0_charAt_5068e 2 (some .char) 1 := ⟨wm_RX3_144, wc_yJ0_charAt_5068e, wi_java_lang_String, ⟨by decide, by decide⟩, by decide +kernel⟩
set_option maxRecDepth 100000 in
theorem wm_RX3_138 : Cond.methodLink RX3 138 yJ0_length_8abf5 ∈ gW := gW_t3 3 rfl rfl
set_option maxRecDepth 100000 in
theorem wc_yJ0_length_8abf5 : Cond.code yJ0_length_8abf5 cJ0_length_8abf5 1 (some .int) ∈ gW := gW_t3 6 rfl rfl
theorem cv_RX3_138 : CV RX3 138 yJ0_length_8abf5 cJ0_length_8abf5 1 (some .int) 0 := ⟨wm_RX3_138, wc_yJ0_length_8abf5, wi_java_lang_String, ⟨by decide, by decide⟩, by decide +kernel⟩
theorem fo_RX3_131 : FO RX3 131 3 5 := ⟨RX3, TX3, 6, rfl, by decide, wf_RX3_131, wl_X3⟩
set_option maxRecDepth 100000 in
theorem wm_RX3_22 : Cond.methodLink RX3 22 yX3_next ∈ gW := gW_t2 222 rfl rfl
set_option maxRecDepth 100000 in
theorem wc_yX3_next : Cond.code yX3_next cX3_next 2 none ∈ gW := gW_t2 225 rfl rfl
theorem cv_RX3_22 : CV RX3 22 yX3_next cX3_next 2 none 0 := ⟨wm_RX3_22, wc_yX3_next, wi_TwoWidths_Tape, ⟨by decide, by decide⟩, by decide +kernel⟩
set_option maxRecDepth 100000 in
theorem wn_yX3_next : Cond.instanceMethod yX3_next ∈ gW := gW_t2 224 rfl rfl
set_option maxRecDepth 100000 in
theorem wv_yX3_next : Cond.selects RX3 yX3_next yX3_next ∈ gW := gW_mem 2 rfl rfl
theorem iv_yX3_next : Cond.instanceMethod yX3_next ∈ gW ∧ Cond.selects yX3_next.cls yX3_next yX3_next ∈ gW := ⟨wn_yX3_next, wv_yX3_next⟩
set_option maxRecDepth 100000 in
theorem cn_RX3_134 : CN RX3 134 yX6_within RX6 cX6_within 3 (some .boolean) 3 := ⟨nest_mem 608 rfl, wc_yX6_within, wi_TwoWidths, ws_yX6_within, ⟨by decide, by decide⟩, by decide +kernel⟩
set_option maxRecDepth 100000 in
theorem wm_RX3_80 : Cond.methodLink RX3 80 yX3_number ∈ gW := gW_t3 55 rfl rfl
set_option maxRecDepth 100000 in
theorem wc_yX3_number : Cond.code yX3_number cX3_number 4 (some .int) ∈ gW := gW_t3 58 rfl rfl
theorem cv_RX3_80 : CV RX3 80 yX3_number cX3_number 4 (some .int) 2 := ⟨wm_RX3_80, wc_yX3_number, wi_TwoWidths_Tape, ⟨by decide, by decide⟩, by decide +kernel⟩
set_option maxRecDepth 100000 in
theorem wn_yX3_number : Cond.instanceMethod yX3_number ∈ gW := gW_t3 57 rfl rfl
set_option maxRecDepth 100000 in
theorem wv_yX3_number : Cond.selects RX3 yX3_number yX3_number ∈ gW := gW_mem 8 rfl rfl
theorem iv_yX3_number : Cond.instanceMethod yX3_number ∈ gW ∧ Cond.selects yX3_number.cls yX3_number yX3_number ∈ gW := ⟨wn_yX3_number, wv_yX3_number⟩
set_option maxRecDepth 100000 in
theorem wm_RX3_37 : Cond.methodLink RX3 37 yX3_isWord ∈ gW := gW_t2 239 rfl rfl
set_option maxRecDepth 100000 in
theorem wc_yX3_isWord : Cond.code yX3_isWord cX3_isWord 3 (some .boolean) ∈ gW := gW_t3 2 rfl rfl
theorem cv_RX3_37 : CV RX3 37 yX3_isWord cX3_isWord 3 (some .boolean) 1 := ⟨wm_RX3_37, wc_yX3_isWord, wi_TwoWidths_Tape, ⟨by decide, by decide⟩, by decide +kernel⟩
set_option maxRecDepth 100000 in
theorem wn_yX3_isWord : Cond.instanceMethod yX3_isWord ∈ gW := gW_t3 1 rfl rfl
set_option maxRecDepth 100000 in
theorem wv_yX3_isWord : Cond.selects RX3 yX3_isWord yX3_isWord ∈ gW := gW_mem 6 rfl rfl
theorem iv_yX3_isWord : Cond.instanceMethod yX3_isWord ∈ gW ∧ Cond.selects yX3_isWord.cls yX3_isWord yX3_isWord ∈ gW := ⟨wn_yX3_isWord, wv_yX3_isWord⟩
set_option maxRecDepth 100000 in
theorem wm_RX3_99 : Cond.methodLink RX3 99 yX1_addLine ∈ gW := gW_t3 72 rfl rfl
theorem cv_RX3_99 : CV RX3 99 yX1_addLine cX1_addLine 8 none 6 := ⟨wm_RX3_99, wc_yX1_addLine, wi_TwoWidths_Land, ⟨by decide, by decide⟩, by decide +kernel⟩
set_option maxRecDepth 100000 in
theorem wm_RX3_93 : Cond.methodLink RX3 93 yX3_perhaps ∈ gW := gW_t3 67 rfl rfl
set_option maxRecDepth 100000 in
theorem wc_yX3_perhaps : Cond.code yX3_perhaps cX3_perhaps 5 (some .int) ∈ gW := gW_t3 70 rfl rfl
theorem cv_RX3_93 : CV RX3 93 yX3_perhaps cX3_perhaps 5 (some .int) 4 := ⟨wm_RX3_93, wc_yX3_perhaps, wi_TwoWidths_Tape, ⟨by decide, by decide⟩, by decide +kernel⟩
set_option maxRecDepth 100000 in
theorem wn_yX3_perhaps : Cond.instanceMethod yX3_perhaps ∈ gW := gW_t3 69 rfl rfl
set_option maxRecDepth 100000 in
theorem wv_yX3_perhaps : Cond.selects RX3 yX3_perhaps yX3_perhaps ∈ gW := gW_mem 10 rfl rfl
theorem iv_yX3_perhaps : Cond.instanceMethod yX3_perhaps ∈ gW ∧ Cond.selects yX3_perhaps.cls yX3_perhaps yX3_perhaps ∈ gW := ⟨wn_yX3_perhaps, wv_yX3_perhaps⟩
set_option maxRecDepth 100000 in
theorem wm_RX3_84 : Cond.methodLink RX3 84 yX3_numberUnlike ∈ gW := gW_t3 60 rfl rfl
set_option maxRecDepth 100000 in
theorem wc_yX3_numberUnlike : Cond.code yX3_numberUnlike cX3_numberUnlike 3 (some .int) ∈ gW := gW_t3 63 rfl rfl
theorem cv_RX3_84 : CV RX3 84 yX3_numberUnlike cX3_numberUnlike 3 (some .int) 2 := ⟨wm_RX3_84, wc_yX3_numberUnlike, wi_TwoWidths_Tape, ⟨by decide, by decide⟩, by decide +kernel⟩
set_option maxRecDepth 100000 in
theorem wn_yX3_numberUnlike : Cond.instanceMethod yX3_numberUnlike ∈ gW := gW_t3 62 rfl rfl
set_option maxRecDepth 100000 in
theorem wv_yX3_numberUnlike : Cond.selects RX3 yX3_numberUnlike yX3_numberUnlike ∈ gW := gW_mem 9 rfl rfl
theorem iv_yX3_numberUnlike : Cond.instanceMethod yX3_numberUnlike ∈ gW ∧ Cond.selects yX3_numberUnlike.cls yX3_numberUnlike yX3_numberUnlike ∈ gW := ⟨wn_yX3_numberUnlike, wv_yX3_numberUnlike⟩
set_option maxRecDepth 100000 in
theorem wm_RX3_103 : Cond.methodLink RX3 103 yX1_addGoods ∈ gW := gW_t3 78 rfl rfl
set_option maxRecDepth 100000 in
theorem wc_yX1_addGoods : Cond.code yX1_addGoods cX1_addGoods 5 none ∈ gW := gW_t2 139 rfl rfl
theorem cv_RX3_103 : CV RX3 103 yX1_addGoods cX1_addGoods 5 none 3 := ⟨wm_RX3_103, wc_yX1_addGoods, wi_TwoWidths_Land, ⟨by decide, by decide⟩, by decide +kernel⟩
set_option maxRecDepth 100000 in
theorem wn_yX1_addGoods : Cond.instanceMethod yX1_addGoods ∈ gW := gW_t2 137 rfl rfl
set_option maxRecDepth 100000 in
theorem wv_yX1_addGoods : Cond.selects RX1 yX1_addGoods yX1_addGoods ∈ gW := gW_t2 138 rfl rfl
theorem iv_yX1_addGoods : Cond.instanceMethod yX1_addGoods ∈ gW ∧ Cond.selects yX1_addGoods.cls yX1_addGoods yX1_addGoods ∈ gW := ⟨wn_yX1_addGoods, wv_yX1_addGoods⟩
set_option maxRecDepth 100000 in
theorem wm_RX3_118 : Cond.methodLink RX3 118 yX1_addWork ∈ gW := gW_t3 87 rfl rfl
set_option maxRecDepth 100000 in
theorem wc_yX1_addWork : Cond.code yX1_addWork cX1_addWork 6 none ∈ gW := gW_t2 160 rfl rfl
theorem cv_RX3_118 : CV RX3 118 yX1_addWork cX1_addWork 6 none 4 := ⟨wm_RX3_118, wc_yX1_addWork, wi_TwoWidths_Land, ⟨by decide, by decide⟩, by decide +kernel⟩
set_option maxRecDepth 100000 in
theorem wn_yX1_addWork : Cond.instanceMethod yX1_addWork ∈ gW := gW_t2 158 rfl rfl
set_option maxRecDepth 100000 in
theorem wv_yX1_addWork : Cond.selects RX1 yX1_addWork yX1_addWork ∈ gW := gW_t2 159 rfl rfl
theorem iv_yX1_addWork : Cond.instanceMethod yX1_addWork ∈ gW ∧ Cond.selects yX1_addWork.cls yX1_addWork yX1_addWork ∈ gW := ⟨wn_yX1_addWork, wv_yX1_addWork⟩
set_option maxRecDepth 100000 in
theorem cn_RX3_114 : CN RX3 114 yX6_isUnder RX6 cX6_isUnder 4 (some .boolean) 2 := ⟨nest_mem 635 rfl, wc_yX6_isUnder, wi_TwoWidths, ws_yX6_isUnder, ⟨by decide, by decide⟩, by decide +kernel⟩
set_option maxRecDepth 100000 in
theorem wm_RX3_111 : Cond.methodLink RX3 111 yX1_greatestB ∈ gW := gW_t3 85 rfl rfl
theorem cv_RX3_111 : CV RX3 111 yX1_greatestB cX1_greatestB 2 (some .int) 1 := ⟨wm_RX3_111, wc_yX1_greatestB, wi_TwoWidths_Land, ⟨by decide, by decide⟩, by decide +kernel⟩
set_option maxRecDepth 100000 in
theorem wm_RX3_107 : Cond.methodLink RX3 107 yX1_greatestA ∈ gW := gW_t3 84 rfl rfl
theorem cv_RX3_107 : CV RX3 107 yX1_greatestA cX1_greatestA 2 (some .int) 1 := ⟨wm_RX3_107, wc_yX1_greatestA, wi_TwoWidths_Land, ⟨by decide, by decide⟩, by decide +kernel⟩
set_option maxRecDepth 100000 in
theorem wm_RX3_122 : Cond.methodLink RX3 122 yX1_putChange ∈ gW := gW_t3 93 rfl rfl
theorem cv_RX3_122 : CV RX3 122 yX1_putChange cX1_putChange 3 none 2 := ⟨wm_RX3_122, wc_yX1_putChange, wi_TwoWidths_Land, ⟨by decide, by decide⟩, by decide +kernel⟩
set_option maxRecDepth 100000 in
theorem wm_RX3_126 : Cond.methodLink RX3 126 yX1_putCoin ∈ gW := gW_t3 99 rfl rfl
set_option maxRecDepth 100000 in
theorem wc_yX1_putCoin : Cond.code yX1_putCoin cX1_putCoin 3 none ∈ gW := gW_t2 176 rfl rfl
theorem cv_RX3_126 : CV RX3 126 yX1_putCoin cX1_putCoin 3 none 2 := ⟨wm_RX3_126, wc_yX1_putCoin, wi_TwoWidths_Land, ⟨by decide, by decide⟩, by decide +kernel⟩
set_option maxRecDepth 100000 in
theorem wn_yX1_putCoin : Cond.instanceMethod yX1_putCoin ∈ gW := gW_t2 174 rfl rfl
set_option maxRecDepth 100000 in
theorem wv_yX1_putCoin : Cond.selects RX1 yX1_putCoin yX1_putCoin ∈ gW := gW_t2 175 rfl rfl
theorem iv_yX1_putCoin : Cond.instanceMethod yX1_putCoin ∈ gW ∧ Cond.selects yX1_putCoin.cls yX1_putCoin yX1_putCoin ∈ gW := ⟨wn_yX1_putCoin, wv_yX1_putCoin⟩
set_option maxRecDepth 100000 in
theorem wf_RX3_129 : Cond.fieldLink RX3 129 "TwoWidths$Land" "years" "I" ∈ gW := gW_t1 50 rfl rfl
theorem fp_RX3_129 : FP RX3 129 1 3 .int false := ⟨RX1, TX1, 11, tyX1, rfl, by decide, wf_RX3_129, wl_X1, tyX1_ok, nmX1, rfl, by decide +kernel, fun h => by first | rfl | cases h⟩
set_option maxRecDepth 100000 in
theorem wm_RX3_77 : Cond.methodLink RX3 77 yX3_readYears ∈ gW := gW_t3 101 rfl rfl
set_option maxRecDepth 100000 in
theorem wc_yX3_readYears : Cond.code yX3_readYears cX3_readYears 3 (some .boolean) ∈ gW := gW_t3 104 rfl rfl
theorem cv_RX3_77 : CV RX3 77 yX3_readYears cX3_readYears 3 (some .boolean) 1 := ⟨wm_RX3_77, wc_yX3_readYears, wi_TwoWidths_Tape, ⟨by decide, by decide⟩, by decide +kernel⟩
set_option maxRecDepth 100000 in
theorem wn_yX3_readYears : Cond.instanceMethod yX3_readYears ∈ gW := gW_t3 103 rfl rfl
set_option maxRecDepth 100000 in
theorem wv_yX3_readYears : Cond.selects RX3 yX3_readYears yX3_readYears ∈ gW := gW_mem 15 rfl rfl
theorem iv_yX3_readYears : Cond.instanceMethod yX3_readYears ∈ gW ∧ Cond.selects yX3_readYears.cls yX3_readYears yX3_readYears ∈ gW := ⟨wn_yX3_readYears, wv_yX3_readYears⟩
set_option maxRecDepth 100000 in
theorem wm_RX3_72 : Cond.methodLink RX3 72 yX3_readCoin ∈ gW := gW_t3 95 rfl rfl
set_option maxRecDepth 100000 in
theorem wc_yX3_readCoin : Cond.code yX3_readCoin cX3_readCoin 4 (some .boolean) ∈ gW := gW_t3 98 rfl rfl
theorem cv_RX3_72 : CV RX3 72 yX3_readCoin cX3_readCoin 4 (some .boolean) 1 := ⟨wm_RX3_72, wc_yX3_readCoin, wi_TwoWidths_Tape, ⟨by decide, by decide⟩, by decide +kernel⟩
set_option maxRecDepth 100000 in
theorem wn_yX3_readCoin : Cond.instanceMethod yX3_readCoin ∈ gW := gW_t3 97 rfl rfl
set_option maxRecDepth 100000 in
theorem wv_yX3_readCoin : Cond.selects RX3 yX3_readCoin yX3_readCoin ∈ gW := gW_mem 14 rfl rfl
theorem iv_yX3_readCoin : Cond.instanceMethod yX3_readCoin ∈ gW ∧ Cond.selects yX3_readCoin.cls yX3_readCoin yX3_readCoin ∈ gW := ⟨wn_yX3_readCoin, wv_yX3_readCoin⟩
set_option maxRecDepth 100000 in
theorem wm_RX3_67 : Cond.methodLink RX3 67 yX3_readChange ∈ gW := gW_t3 89 rfl rfl
set_option maxRecDepth 100000 in
theorem wc_yX3_readChange : Cond.code yX3_readChange cX3_readChange 4 (some .boolean) ∈ gW := gW_t3 92 rfl rfl
theorem cv_RX3_67 : CV RX3 67 yX3_readChange cX3_readChange 4 (some .boolean) 1 := ⟨wm_RX3_67, wc_yX3_readChange, wi_TwoWidths_Tape, ⟨by decide, by decide⟩, by decide +kernel⟩
set_option maxRecDepth 100000 in
theorem wn_yX3_readChange : Cond.instanceMethod yX3_readChange ∈ gW := gW_t3 91 rfl rfl
set_option maxRecDepth 100000 in
theorem wv_yX3_readChange : Cond.selects RX3 yX3_readChange yX3_readChange ∈ gW := gW_mem 13 rfl rfl
theorem iv_yX3_readChange : Cond.instanceMethod yX3_readChange ∈ gW ∧ Cond.selects yX3_readChange.cls yX3_readChange yX3_readChange ∈ gW := ⟨wn_yX3_readChange, wv_yX3_readChange⟩
set_option maxRecDepth 100000 in
theorem wf_RX3_59 : Cond.fieldLink RX3 59 "TwoWidths$Land" "workCount" "I" ∈ gW := gW_t1 46 rfl rfl
theorem fo_RX3_59 : FO RX3 59 1 2 := ⟨RX1, TX1, 11, rfl, by decide, wf_RX3_59, wl_X1⟩
set_option maxRecDepth 100000 in
theorem wm_RX3_62 : Cond.methodLink RX3 62 yX3_readWork ∈ gW := gW_t3 80 rfl rfl
set_option maxRecDepth 100000 in
theorem wc_yX3_readWork : Cond.code yX3_readWork cX3_readWork 7 (some .boolean) ∈ gW := gW_t3 83 rfl rfl
theorem cv_RX3_62 : CV RX3 62 yX3_readWork cX3_readWork 7 (some .boolean) 1 := ⟨wm_RX3_62, wc_yX3_readWork, wi_TwoWidths_Tape, ⟨by decide, by decide⟩, by decide +kernel⟩
set_option maxRecDepth 100000 in
theorem wn_yX3_readWork : Cond.instanceMethod yX3_readWork ∈ gW := gW_t3 82 rfl rfl
set_option maxRecDepth 100000 in
theorem wv_yX3_readWork : Cond.selects RX3 yX3_readWork yX3_readWork ∈ gW := gW_mem 12 rfl rfl
theorem iv_yX3_readWork : Cond.instanceMethod yX3_readWork ∈ gW ∧ Cond.selects yX3_readWork.cls yX3_readWork yX3_readWork ∈ gW := ⟨wn_yX3_readWork, wv_yX3_readWork⟩
set_option maxRecDepth 100000 in
theorem wf_RX3_51 : Cond.fieldLink RX3 51 "TwoWidths$Land" "goodsCount" "I" ∈ gW := gW_t1 42 rfl rfl
theorem fo_RX3_51 : FO RX3 51 1 1 := ⟨RX1, TX1, 11, rfl, by decide, wf_RX3_51, wl_X1⟩
set_option maxRecDepth 100000 in
theorem wm_RX3_54 : Cond.methodLink RX3 54 yX3_readGoods ∈ gW := gW_t3 74 rfl rfl
set_option maxRecDepth 100000 in
theorem wc_yX3_readGoods : Cond.code yX3_readGoods cX3_readGoods 5 (some .boolean) ∈ gW := gW_t3 77 rfl rfl
theorem cv_RX3_54 : CV RX3 54 yX3_readGoods cX3_readGoods 5 (some .boolean) 1 := ⟨wm_RX3_54, wc_yX3_readGoods, wi_TwoWidths_Tape, ⟨by decide, by decide⟩, by decide +kernel⟩
set_option maxRecDepth 100000 in
theorem wn_yX3_readGoods : Cond.instanceMethod yX3_readGoods ∈ gW := gW_t3 76 rfl rfl
set_option maxRecDepth 100000 in
theorem wv_yX3_readGoods : Cond.selects RX3 yX3_readGoods yX3_readGoods ∈ gW := gW_mem 11 rfl rfl
theorem iv_yX3_readGoods : Cond.instanceMethod yX3_readGoods ∈ gW ∧ Cond.selects yX3_readGoods.cls yX3_readGoods yX3_readGoods ∈ gW := ⟨wn_yX3_readGoods, wv_yX3_readGoods⟩
set_option maxRecDepth 100000 in
theorem wf_RX3_41 : Cond.fieldLink RX3 41 "TwoWidths$Land" "lineCount" "I" ∈ gW := gW_t1 36 rfl rfl
theorem fo_RX3_41 : FO RX3 41 1 0 := ⟨RX1, TX1, 11, rfl, by decide, wf_RX3_41, wl_X1⟩
set_option maxRecDepth 100000 in
theorem wm_RX3_46 : Cond.methodLink RX3 46 yX3_readLine ∈ gW := gW_t3 51 rfl rfl
set_option maxRecDepth 100000 in
theorem wc_yX3_readLine : Cond.code yX3_readLine cX3_readLine 8 (some .boolean) ∈ gW := gW_t3 54 rfl rfl
theorem cv_RX3_46 : CV RX3 46 yX3_readLine cX3_readLine 8 (some .boolean) 1 := ⟨wm_RX3_46, wc_yX3_readLine, wi_TwoWidths_Tape, ⟨by decide, by decide⟩, by decide +kernel⟩
set_option maxRecDepth 100000 in
theorem wn_yX3_readLine : Cond.instanceMethod yX3_readLine ∈ gW := gW_t3 53 rfl rfl
set_option maxRecDepth 100000 in
theorem wv_yX3_readLine : Cond.selects RX3 yX3_readLine yX3_readLine ∈ gW := gW_mem 7 rfl rfl
theorem iv_yX3_readLine : Cond.instanceMethod yX3_readLine ∈ gW ∧ Cond.selects yX3_readLine.cls yX3_readLine yX3_readLine ∈ gW := ⟨wn_yX3_readLine, wv_yX3_readLine⟩
set_option maxRecDepth 100000 in
theorem wm_RX3_25 : Cond.methodLink RX3 25 yX3_readStatement ∈ gW := gW_t2 234 rfl rfl
set_option maxRecDepth 100000 in
theorem wc_yX3_readStatement : Cond.code yX3_readStatement cX3_readStatement 2 (some .boolean) ∈ gW := gW_t2 237 rfl rfl
theorem cv_RX3_25 : CV RX3 25 yX3_readStatement cX3_readStatement 2 (some .boolean) 1 := ⟨wm_RX3_25, wc_yX3_readStatement, wi_TwoWidths_Tape, ⟨by decide, by decide⟩, by decide +kernel⟩
set_option maxRecDepth 100000 in
theorem wn_yX3_readStatement : Cond.instanceMethod yX3_readStatement ∈ gW := gW_t2 236 rfl rfl
set_option maxRecDepth 100000 in
theorem wv_yX3_readStatement : Cond.selects RX3 yX3_readStatement yX3_readStatement ∈ gW := gW_mem 5 rfl rfl
theorem iv_yX3_readStatement : Cond.instanceMethod yX3_readStatement ∈ gW ∧ Cond.selects yX3_readStatement.cls yX3_readStatement yX3_readStatement ∈ gW := ⟨wn_yX3_readStatement, wv_yX3_readStatement⟩
set_option maxRecDepth 100000 in
theorem wf_RX4_57 : Cond.fieldLink RX4 57 "TwoWidths$Land" "lineCount" "I" ∈ gW := gW_t1 37 rfl rfl
theorem fo_RX4_57 : FO RX4 57 1 0 := ⟨RX1, TX1, 11, rfl, by decide, wf_RX4_57, wl_X1⟩
set_option maxRecDepth 100000 in
theorem wf_RX4_18 : Cond.fieldLink RX4 18 "TwoWidths$Traffic" "left" "[I" ∈ gW := gW_t1 201 rfl rfl
theorem fo_RX4_18 : FO RX4 18 4 1 := ⟨RX4, TX4, 5, rfl, by decide, wf_RX4_18, wl_X4⟩
set_option maxRecDepth 100000 in
theorem wm_RX4_80 : Cond.methodLink RX4 80 Lib.Math.max.name ∈ gW := gW_t4 51 rfl rfl
set_option maxRecDepth 100000 in
theorem wx_max : Cond.static Lib.Math.max.name ∈ gW := gW_t3 221 rfl rfl
set_option maxRecDepth 100000 in
theorem wi_java_lang_Math : Cond.initialized RJ9 ∈ gW := gW_t1 15 rfl rfl
set_option maxRecDepth 100000 in
theorem wcm_RX4_max : Cond.code Lib.Math.max.name Lib.Math.max.code 2 (some .int) ∈ gW := gW_t3 222 (by decide +kernel) rfl
theorem mm_RX4_80 : CMx RX4 80 := ⟨wm_RX4_80, wx_max, wi_java_lang_Math, wcm_RX4_max⟩
set_option maxRecDepth 100000 in
theorem wf_RX4_51 : Cond.fieldLink RX4 51 "TwoWidths$Traffic" "turnCost" "I" ∈ gW := gW_t1 206 rfl rfl
theorem fp_RX4_51 : FP RX4 51 4 3 .int false := ⟨RX4, TX4, 5, tyX4, rfl, by decide, wf_RX4_51, wl_X4, tyX4_ok, nmX4, rfl, by decide +kernel, fun h => by first | rfl | cases h⟩
set_option maxRecDepth 100000 in
theorem wf_RX4_54 : Cond.fieldLink RX4 54 "TwoWidths$Traffic" "turnWayless" "I" ∈ gW := gW_t1 208 rfl rfl
theorem fp_RX4_54 : FP RX4 54 4 4 .int false := ⟨RX4, TX4, 5, tyX4, rfl, by decide, wf_RX4_54, wl_X4, tyX4_ok, nmX4, rfl, by decide +kernel, fun h => by first | rfl | cases h⟩
theorem fo_RX4_51 : FO RX4 51 4 3 := ⟨RX4, TX4, 5, rfl, by decide, wf_RX4_51, wl_X4⟩
theorem fo_RX4_54 : FO RX4 54 4 4 := ⟨RX4, TX4, 5, rfl, by decide, wf_RX4_54, wl_X4⟩
set_option maxRecDepth 100000 in
theorem wm_RX4_71 : Cond.methodLink RX4 71 yX4_load ∈ gW := gW_t4 46 rfl rfl
set_option maxRecDepth 100000 in
theorem wc_yX4_load : Cond.code yX4_load cX4_load 4 none ∈ gW := gW_t4 49 rfl rfl
theorem cv_RX4_71 : CV RX4 71 yX4_load cX4_load 4 none 1 := ⟨wm_RX4_71, wc_yX4_load, wi_TwoWidths_Traffic, ⟨by decide, by decide⟩, by decide +kernel⟩
set_option maxRecDepth 100000 in
theorem wn_yX4_load : Cond.instanceMethod yX4_load ∈ gW := gW_t4 48 rfl rfl
set_option maxRecDepth 100000 in
theorem wv_yX4_load : Cond.selects RX4 yX4_load yX4_load ∈ gW := gW_mem 25 rfl rfl
theorem iv_yX4_load : Cond.instanceMethod yX4_load ∈ gW ∧ Cond.selects yX4_load.cls yX4_load yX4_load ∈ gW := ⟨wn_yX4_load, wv_yX4_load⟩
set_option maxRecDepth 100000 in
theorem wm_RX4_63 : Cond.methodLink RX4 63 yX4_linesBearing ∈ gW := gW_t4 41 rfl rfl
set_option maxRecDepth 100000 in
theorem wc_yX4_linesBearing : Cond.code yX4_linesBearing cX4_linesBearing 5 (some .int) ∈ gW := gW_t4 44 rfl rfl
theorem cv_RX4_63 : CV RX4 63 yX4_linesBearing cX4_linesBearing 5 (some .int) 2 := ⟨wm_RX4_63, wc_yX4_linesBearing, wi_TwoWidths_Traffic, ⟨by decide, by decide⟩, by decide +kernel⟩
set_option maxRecDepth 100000 in
theorem wn_yX4_linesBearing : Cond.instanceMethod yX4_linesBearing ∈ gW := gW_t4 43 rfl rfl
set_option maxRecDepth 100000 in
theorem wv_yX4_linesBearing : Cond.selects RX4 yX4_linesBearing yX4_linesBearing ∈ gW := gW_mem 24 rfl rfl
theorem iv_yX4_linesBearing : Cond.instanceMethod yX4_linesBearing ∈ gW ∧ Cond.selects yX4_linesBearing.cls yX4_linesBearing yX4_linesBearing ∈ gW := ⟨wn_yX4_linesBearing, wv_yX4_linesBearing⟩
set_option maxRecDepth 100000 in
theorem wm_RX4_111 : Cond.methodLink RX4 111 yX5_placeAfter ∈ gW := gW_t4 183 rfl rfl
set_option maxRecDepth 100000 in
theorem wc_yX5_placeAfter : Cond.code yX5_placeAfter cX5_placeAfter 2 (some .int) ∈ gW := gW_t4 186 rfl rfl
theorem cv_RX4_111 : CV RX4 111 yX5_placeAfter cX5_placeAfter 2 (some .int) 1 := ⟨wm_RX4_111, wc_yX5_placeAfter, wi_TwoWidths_Ways, ⟨by decide, by decide⟩, by decide +kernel⟩
set_option maxRecDepth 100000 in
theorem wn_yX5_placeAfter : Cond.instanceMethod yX5_placeAfter ∈ gW := gW_t4 184 rfl rfl
set_option maxRecDepth 100000 in
theorem wv_yX5_placeAfter : Cond.selects RX5 yX5_placeAfter yX5_placeAfter ∈ gW := gW_t4 185 rfl rfl
theorem iv_yX5_placeAfter : Cond.instanceMethod yX5_placeAfter ∈ gW ∧ Cond.selects yX5_placeAfter.cls yX5_placeAfter yX5_placeAfter ∈ gW := ⟨wn_yX5_placeAfter, wv_yX5_placeAfter⟩
set_option maxRecDepth 100000 in
theorem wm_RX4_108 : Cond.methodLink RX4 108 yX5_isChange ∈ gW := gW_t4 182 rfl rfl
set_option maxRecDepth 100000 in
theorem wc_yX5_isChange : Cond.code yX5_isChange cX5_isChange 2 (some .boolean) ∈ gW := gW_t3 219 rfl rfl
theorem cv_RX4_108 : CV RX4 108 yX5_isChange cX5_isChange 2 (some .boolean) 1 := ⟨wm_RX4_108, wc_yX5_isChange, wi_TwoWidths_Ways, ⟨by decide, by decide⟩, by decide +kernel⟩
set_option maxRecDepth 100000 in
theorem wn_yX5_isChange : Cond.instanceMethod yX5_isChange ∈ gW := gW_t3 217 rfl rfl
set_option maxRecDepth 100000 in
theorem wv_yX5_isChange : Cond.selects RX5 yX5_isChange yX5_isChange ∈ gW := gW_t3 218 rfl rfl
theorem iv_yX5_isChange : Cond.instanceMethod yX5_isChange ∈ gW ∧ Cond.selects yX5_isChange.cls yX5_isChange yX5_isChange ∈ gW := ⟨wn_yX5_isChange, wv_yX5_isChange⟩
set_option maxRecDepth 100000 in
theorem wm_RX4_105 : Cond.methodLink RX4 105 Lib.Math.min.name ∈ gW := gW_t4 191 rfl rfl
set_option maxRecDepth 100000 in
theorem wx_min : Cond.static Lib.Math.min.name ∈ gW := gW_t4 192 rfl rfl
set_option maxRecDepth 100000 in
theorem wcm_RX4_min : Cond.code Lib.Math.min.name Lib.Math.min.code 2 (some .int) ∈ gW := gW_t4 193 (by decide +kernel) rfl
theorem mm_RX4_105 : CMn RX4 105 := ⟨wm_RX4_105, wx_min, wi_java_lang_Math, wcm_RX4_min⟩
set_option maxRecDepth 100000 in
theorem wm_RX4_102 : Cond.methodLink RX4 102 yX4_stepsTo ∈ gW := gW_t4 187 rfl rfl
set_option maxRecDepth 100000 in
theorem wc_yX4_stepsTo : Cond.code yX4_stepsTo cX4_stepsTo 4 (some .int) ∈ gW := gW_t4 190 rfl rfl
theorem cv_RX4_102 : CV RX4 102 yX4_stepsTo cX4_stepsTo 4 (some .int) 1 := ⟨wm_RX4_102, wc_yX4_stepsTo, wi_TwoWidths_Traffic, ⟨by decide, by decide⟩, by decide +kernel⟩
set_option maxRecDepth 100000 in
theorem wn_yX4_stepsTo : Cond.instanceMethod yX4_stepsTo ∈ gW := gW_t4 189 rfl rfl
set_option maxRecDepth 100000 in
theorem wv_yX4_stepsTo : Cond.selects RX4 yX4_stepsTo yX4_stepsTo ∈ gW := gW_mem 30 rfl rfl
theorem iv_yX4_stepsTo : Cond.instanceMethod yX4_stepsTo ∈ gW ∧ Cond.selects yX4_stepsTo.cls yX4_stepsTo yX4_stepsTo ∈ gW := ⟨wn_yX4_stepsTo, wv_yX4_stepsTo⟩
set_option maxRecDepth 100000 in
theorem wm_RX4_99 : Cond.methodLink RX4 99 yX4_changesAt ∈ gW := gW_t4 178 rfl rfl
set_option maxRecDepth 100000 in
theorem wc_yX4_changesAt : Cond.code yX4_changesAt cX4_changesAt 4 (some .int) ∈ gW := gW_t4 181 rfl rfl
theorem cv_RX4_99 : CV RX4 99 yX4_changesAt cX4_changesAt 4 (some .int) 1 := ⟨wm_RX4_99, wc_yX4_changesAt, wi_TwoWidths_Traffic, ⟨by decide, by decide⟩, by decide +kernel⟩
set_option maxRecDepth 100000 in
theorem wn_yX4_changesAt : Cond.instanceMethod yX4_changesAt ∈ gW := gW_t4 180 rfl rfl
set_option maxRecDepth 100000 in
theorem wv_yX4_changesAt : Cond.selects RX4 yX4_changesAt yX4_changesAt ∈ gW := gW_mem 29 rfl rfl
theorem iv_yX4_changesAt : Cond.instanceMethod yX4_changesAt ∈ gW ∧ Cond.selects yX4_changesAt.cls yX4_changesAt yX4_changesAt ∈ gW := ⟨wn_yX4_changesAt, wv_yX4_changesAt⟩
set_option maxRecDepth 100000 in
theorem wm_RX4_114 : Cond.methodLink RX4 114 yX4_freeBy ∈ gW := gW_t4 202 rfl rfl
theorem cv_RX4_114 : CV RX4 114 yX4_freeBy cX4_freeBy 7 (some .int) 2 := ⟨wm_RX4_114, wc_yX4_freeBy, wi_TwoWidths_Traffic, ⟨by decide, by decide⟩, by decide +kernel⟩
set_option maxRecDepth 100000 in
theorem wm_RX5_124 : Cond.methodLink RX5 124 yX5_isChange ∈ gW := gW_t3 216 rfl rfl
theorem cv_RX5_124 : CV RX5 124 yX5_isChange cX5_isChange 2 (some .boolean) 1 := ⟨wm_RX5_124, wc_yX5_isChange, wi_TwoWidths_Ways, ⟨by decide, by decide⟩, by decide +kernel⟩
set_option maxRecDepth 100000 in
theorem wm_RX5_132 : Cond.methodLink RX5 132 Lib.Math.max.name ∈ gW := gW_t3 220 rfl rfl
set_option maxRecDepth 100000 in
theorem wcm_RX5_max : Cond.code Lib.Math.max.name Lib.Math.max.code 2 (some .int) ∈ gW := gW_t3 222 (by decide +kernel) rfl
theorem mm_RX5_132 : CMx RX5 132 := ⟨wm_RX5_132, wx_max, wi_java_lang_Math, wcm_RX5_max⟩
set_option maxRecDepth 100000 in
theorem wm_RX5_128 : Cond.methodLink RX5 128 yX5_changesOnWay ∈ gW := gW_t3 212 rfl rfl
set_option maxRecDepth 100000 in
theorem wc_yX5_changesOnWay : Cond.code yX5_changesOnWay cX5_changesOnWay 3 (some .int) ∈ gW := gW_t3 215 rfl rfl
theorem cv_RX5_128 : CV RX5 128 yX5_changesOnWay cX5_changesOnWay 3 (some .int) 0 := ⟨wm_RX5_128, wc_yX5_changesOnWay, wi_TwoWidths_Ways, ⟨by decide, by decide⟩, by decide +kernel⟩
set_option maxRecDepth 100000 in
theorem wn_yX5_changesOnWay : Cond.instanceMethod yX5_changesOnWay ∈ gW := gW_t3 213 rfl rfl
set_option maxRecDepth 100000 in
theorem wv_yX5_changesOnWay : Cond.selects RX5 yX5_changesOnWay yX5_changesOnWay ∈ gW := gW_t3 214 rfl rfl
theorem iv_yX5_changesOnWay : Cond.instanceMethod yX5_changesOnWay ∈ gW ∧ Cond.selects yX5_changesOnWay.cls yX5_changesOnWay yX5_changesOnWay ∈ gW := ⟨wn_yX5_changesOnWay, wv_yX5_changesOnWay⟩
set_option maxRecDepth 100000 in
theorem wm_RX5_137 : Cond.methodLink RX5 137 yX5_lineOn ∈ gW := gW_t3 203 rfl rfl
theorem cv_RX5_137 : CV RX5 137 yX5_lineOn cX5_lineOn 2 (some .int) 1 := ⟨wm_RX5_137, wc_yX5_lineOn, wi_TwoWidths_Ways, ⟨by decide, by decide⟩, by decide +kernel⟩
set_option maxRecDepth 100000 in
theorem wf_RX6_45 : Cond.fieldLink RX6 45 "TwoWidths" "refused" "[I" ∈ gW := gW_t2 5 rfl rfl
theorem wl_X6 : ∀ w ∈ u_ws RX6 TX6 10, w ∈ gW := gW_all [318, 320, 322, 324, 326, 328, 330, 332, 334, 336] (by decide +kernel) (by decide +kernel)
theorem fo_RX6_45 : FO RX6 45 6 6 := ⟨RX6, TX6, 10, rfl, by decide, wf_RX6_45, wl_X6⟩
set_option maxRecDepth 100000 in
theorem wm_RX6_68 : Cond.methodLink RX6 68 yX6_refuse ∈ gW := gW_t2 41 rfl rfl
set_option maxRecDepth 100000 in
theorem wc_yX6_refuse : Cond.code yX6_refuse cX6_refuse 2 (some .int) ∈ gW := gW_t2 44 rfl rfl
theorem cv_RX6_68 : CV RX6 68 yX6_refuse cX6_refuse 2 (some .int) 1 := ⟨wm_RX6_68, wc_yX6_refuse, wi_TwoWidths, ⟨by decide, by decide⟩, by decide +kernel⟩
set_option maxRecDepth 100000 in
theorem wn_yX6_refuse : Cond.instanceMethod yX6_refuse ∈ gW := gW_t2 43 rfl rfl
set_option maxRecDepth 100000 in
theorem wv_yX6_refuse : Cond.selects RX6 yX6_refuse yX6_refuse ∈ gW := gW_mem 0 rfl rfl
theorem iv_yX6_refuse : Cond.instanceMethod yX6_refuse ∈ gW ∧ Cond.selects yX6_refuse.cls yX6_refuse yX6_refuse ∈ gW := ⟨wn_yX6_refuse, wv_yX6_refuse⟩
set_option maxRecDepth 100000 in
theorem wf_RX6_29 : Cond.fieldLink RX6 29 "TwoWidths" "shelves" "LTwoWidths$Shelves;" ∈ gW := gW_t2 2 rfl rfl
theorem fo_RX6_29 : FO RX6 29 6 3 := ⟨RX6, TX6, 10, rfl, by decide, wf_RX6_29, wl_X6⟩
set_option maxRecDepth 100000 in
theorem wm_RX6_72 : Cond.methodLink RX6 72 yX2_putRow ∈ gW := gW_t2 45 rfl rfl
set_option maxRecDepth 100000 in
theorem wc_yX2_putRow : Cond.code yX2_putRow cX2_putRow 4 none ∈ gW := gW_t2 48 rfl rfl
theorem cv_RX6_72 : CV RX6 72 yX2_putRow cX2_putRow 4 none 3 := ⟨wm_RX6_72, wc_yX2_putRow, wi_TwoWidths_Shelves, ⟨by decide, by decide⟩, by decide +kernel⟩
set_option maxRecDepth 100000 in
theorem wn_yX2_putRow : Cond.instanceMethod yX2_putRow ∈ gW := gW_t2 46 rfl rfl
set_option maxRecDepth 100000 in
theorem wv_yX2_putRow : Cond.selects RX2 yX2_putRow yX2_putRow ∈ gW := gW_t2 47 rfl rfl
theorem iv_yX2_putRow : Cond.instanceMethod yX2_putRow ∈ gW ∧ Cond.selects yX2_putRow.cls yX2_putRow yX2_putRow ∈ gW := ⟨wn_yX2_putRow, wv_yX2_putRow⟩
set_option maxRecDepth 100000 in
theorem wm_RX6_60 : Cond.methodLink RX6 60 yX2_has ∈ gW := gW_t2 34 rfl rfl
set_option maxRecDepth 100000 in
theorem wc_yX2_has : Cond.code yX2_has cX2_has 1 (some .boolean) ∈ gW := gW_t2 36 rfl rfl
theorem cv_RX6_60 : CV RX6 60 yX2_has cX2_has 1 (some .boolean) 1 := ⟨wm_RX6_60, wc_yX2_has, wi_TwoWidths_Shelves, ⟨by decide, by decide⟩, by decide +kernel⟩
set_option maxRecDepth 100000 in
theorem ws_yX2_has : Cond.static yX2_has ∈ gW := gW_t2 35 rfl rfl
set_option maxRecDepth 100000 in
theorem wm_RX6_106 : Cond.methodLink RX6 106 yX2_hasRow ∈ gW := gW_t2 64 rfl rfl
set_option maxRecDepth 100000 in
theorem wc_yX2_hasRow : Cond.code yX2_hasRow cX2_hasRow 2 (some .boolean) ∈ gW := gW_t2 67 rfl rfl
theorem cv_RX6_106 : CV RX6 106 yX2_hasRow cX2_hasRow 2 (some .boolean) 1 := ⟨wm_RX6_106, wc_yX2_hasRow, wi_TwoWidths_Shelves, ⟨by decide, by decide⟩, by decide +kernel⟩
set_option maxRecDepth 100000 in
theorem wn_yX2_hasRow : Cond.instanceMethod yX2_hasRow ∈ gW := gW_t2 65 rfl rfl
set_option maxRecDepth 100000 in
theorem wv_yX2_hasRow : Cond.selects RX2 yX2_hasRow yX2_hasRow ∈ gW := gW_t2 66 rfl rfl
theorem iv_yX2_hasRow : Cond.instanceMethod yX2_hasRow ∈ gW ∧ Cond.selects yX2_hasRow.cls yX2_hasRow yX2_hasRow ∈ gW := ⟨wn_yX2_hasRow, wv_yX2_hasRow⟩
set_option maxRecDepth 100000 in
theorem wm_RX6_86 : Cond.methodLink RX6 86 yX2_hasWork ∈ gW := gW_t2 60 rfl rfl
theorem cv_RX6_86 : CV RX6 86 yX2_hasWork cX2_hasWork 2 (some .boolean) 1 := ⟨wm_RX6_86, wc_yX2_hasWork, wi_TwoWidths_Shelves, ⟨by decide, by decide⟩, by decide +kernel⟩
set_option maxRecDepth 100000 in
theorem wf_RX6_79 : Cond.fieldLink RX6 79 "TwoWidths$Shelves" "sizes" "[I" ∈ gW := gW_t1 127 rfl rfl
theorem fo_RX6_79 : FO RX6 79 2 2 := ⟨RX2, TX2, 3, rfl, by decide, wf_RX6_79, wl_X2⟩
set_option maxRecDepth 100000 in
theorem wm_RX6_82 : Cond.methodLink RX6 82 yX2_put ∈ gW := gW_t2 68 rfl rfl
set_option maxRecDepth 100000 in
theorem wc_yX2_put : Cond.code yX2_put cX2_put 5 none ∈ gW := gW_t2 71 rfl rfl
theorem cv_RX6_82 : CV RX6 82 yX2_put cX2_put 5 none 3 := ⟨wm_RX6_82, wc_yX2_put, wi_TwoWidths_Shelves, ⟨by decide, by decide⟩, by decide +kernel⟩
set_option maxRecDepth 100000 in
theorem wn_yX2_put : Cond.instanceMethod yX2_put ∈ gW := gW_t2 69 rfl rfl
set_option maxRecDepth 100000 in
theorem wv_yX2_put : Cond.selects RX2 yX2_put yX2_put ∈ gW := gW_t2 70 rfl rfl
theorem iv_yX2_put : Cond.instanceMethod yX2_put ∈ gW ∧ Cond.selects yX2_put.cls yX2_put yX2_put ∈ gW := ⟨wn_yX2_put, wv_yX2_put⟩
set_option maxRecDepth 100000 in
theorem wm_RX6_76 : Cond.methodLink RX6 76 yX6_noRow ∈ gW := gW_t2 56 rfl rfl
set_option maxRecDepth 100000 in
theorem wc_yX6_noRow : Cond.code yX6_noRow cX6_noRow 2 (some .int) ∈ gW := gW_t2 59 rfl rfl
theorem cv_RX6_76 : CV RX6 76 yX6_noRow cX6_noRow 2 (some .int) 1 := ⟨wm_RX6_76, wc_yX6_noRow, wi_TwoWidths, ⟨by decide, by decide⟩, by decide +kernel⟩
set_option maxRecDepth 100000 in
theorem wn_yX6_noRow : Cond.instanceMethod yX6_noRow ∈ gW := gW_t2 58 rfl rfl
set_option maxRecDepth 100000 in
theorem wv_yX6_noRow : Cond.selects RX6 yX6_noRow yX6_noRow ∈ gW := gW_mem 1 rfl rfl
theorem iv_yX6_noRow : Cond.instanceMethod yX6_noRow ∈ gW ∧ Cond.selects yX6_noRow.cls yX6_noRow yX6_noRow ∈ gW := ⟨wn_yX6_noRow, wv_yX6_noRow⟩
set_option maxRecDepth 100000 in
theorem wf_RX6_93 : Cond.fieldLink RX6 93 "TwoWidths$Shelves" "held" "[I" ∈ gW := gW_t1 125 rfl rfl
theorem fo_RX6_93 : FO RX6 93 2 1 := ⟨RX2, TX2, 3, rfl, by decide, wf_RX6_93, wl_X2⟩
set_option maxRecDepth 100000 in
theorem wf_RX6_96 : Cond.fieldLink RX6 96 "TwoWidths$Shelves" "elements" "[[J" ∈ gW := gW_t1 123 rfl rfl
theorem fo_RX6_96 : FO RX6 96 2 0 := ⟨RX2, TX2, 3, rfl, by decide, wf_RX6_96, wl_X2⟩
set_option maxRecDepth 100000 in
theorem wm_RX6_100 : Cond.methodLink RX6 100 arraycopyName ∈ gW := gW_t2 83 rfl rfl
theorem cc_RX6_100 : CC RX6 100 := ⟨wm_RX6_100, wa_native, wa_static, wi_java_lang_System⟩
set_option maxRecDepth 100000 in
theorem wm_RX6_89 : Cond.methodLink RX6 89 yX2_differ ∈ gW := gW_t2 79 rfl rfl
set_option maxRecDepth 100000 in
theorem wc_yX2_differ : Cond.code yX2_differ cX2_differ 3 (some .boolean) ∈ gW := gW_t2 82 rfl rfl
theorem cv_RX6_89 : CV RX6 89 yX2_differ cX2_differ 3 (some .boolean) 2 := ⟨wm_RX6_89, wc_yX2_differ, wi_TwoWidths_Shelves, ⟨by decide, by decide⟩, by decide +kernel⟩
set_option maxRecDepth 100000 in
theorem wn_yX2_differ : Cond.instanceMethod yX2_differ ∈ gW := gW_t2 80 rfl rfl
set_option maxRecDepth 100000 in
theorem wv_yX2_differ : Cond.selects RX2 yX2_differ yX2_differ ∈ gW := gW_t2 81 rfl rfl
theorem iv_yX2_differ : Cond.instanceMethod yX2_differ ∈ gW ∧ Cond.selects yX2_differ.cls yX2_differ yX2_differ ∈ gW := ⟨wn_yX2_differ, wv_yX2_differ⟩
set_option maxRecDepth 100000 in
theorem wf_RX6_12 : Cond.fieldLink RX6 12 "TwoWidths" "state" "LTwoWidths$Land;" ∈ gW := gW_t1 239 rfl rfl
theorem fo_RX6_12 : FO RX6 12 6 0 := ⟨RX6, TX6, 10, rfl, by decide, wf_RX6_12, wl_X6⟩
set_option maxRecDepth 100000 in
theorem wm_RX6_109 : Cond.methodLink RX6 109 yX1_hasWork ∈ gW := gW_t2 98 rfl rfl
theorem cv_RX6_109 : CV RX6 109 yX1_hasWork cX1_hasWork 2 (some .boolean) 1 := ⟨wm_RX6_109, wc_yX1_hasWork, wi_TwoWidths_Land, ⟨by decide, by decide⟩, by decide +kernel⟩
set_option maxRecDepth 100000 in
theorem wm_RX6_113 : Cond.methodLink RX6 113 yX1_ofWork ∈ gW := gW_t2 112 rfl rfl
theorem cv_RX6_113 : CV RX6 113 yX1_ofWork cX1_ofWork 3 (some .int) 2 := ⟨wm_RX6_113, wc_yX1_ofWork, wi_TwoWidths_Land, ⟨by decide, by decide⟩, by decide +kernel⟩
set_option maxRecDepth 100000 in
theorem wm_RX6_117 : Cond.methodLink RX6 117 yX6_isUnder ∈ gW := gW_t2 116 rfl rfl
theorem cv_RX6_117 : CV RX6 117 yX6_isUnder cX6_isUnder 4 (some .boolean) 2 := ⟨wm_RX6_117, wc_yX6_isUnder, wi_TwoWidths, ⟨by decide, by decide⟩, by decide +kernel⟩
set_option maxRecDepth 100000 in
theorem wm_RX6_110 : Cond.methodLink RX6 110 yX2_workIn ∈ gW := gW_t2 107 rfl rfl
theorem cv_RX6_110 : CV RX6 110 yX2_workIn cX2_workIn 2 (some .int) 1 := ⟨wm_RX6_110, wc_yX2_workIn, wi_TwoWidths_Shelves, ⟨by decide, by decide⟩, by decide +kernel⟩
set_option maxRecDepth 100000 in
theorem wf_RX6_123 : Cond.fieldLink RX6 123 "TwoWidths$Land" "lineCount" "I" ∈ gW := gW_t1 38 rfl rfl
theorem fo_RX6_123 : FO RX6 123 1 0 := ⟨RX1, TX1, 11, rfl, by decide, wf_RX6_123, wl_X1⟩
set_option maxRecDepth 100000 in
theorem wm_RX6_126 : Cond.methodLink RX6 126 yX1_addLine ∈ gW := gW_t2 128 rfl rfl
theorem cv_RX6_126 : CV RX6 126 yX1_addLine cX1_addLine 8 none 6 := ⟨wm_RX6_126, wc_yX1_addLine, wi_TwoWidths_Land, ⟨by decide, by decide⟩, by decide +kernel⟩
set_option maxRecDepth 100000 in
theorem wm_RX6_120 : Cond.methodLink RX6 120 yX6_isPlace ∈ gW := gW_t2 125 rfl rfl
set_option maxRecDepth 100000 in
theorem wc_yX6_isPlace : Cond.code yX6_isPlace cX6_isPlace 1 (some .boolean) ∈ gW := gW_t2 127 rfl rfl
theorem cv_RX6_120 : CV RX6 120 yX6_isPlace cX6_isPlace 1 (some .boolean) 1 := ⟨wm_RX6_120, wc_yX6_isPlace, wi_TwoWidths, ⟨by decide, by decide⟩, by decide +kernel⟩
set_option maxRecDepth 100000 in
theorem ws_yX6_isPlace : Cond.static yX6_isPlace ∈ gW := gW_t2 126 rfl rfl
set_option maxRecDepth 100000 in
theorem wf_RX6_130 : Cond.fieldLink RX6 130 "TwoWidths$Land" "goodsCount" "I" ∈ gW := gW_t1 43 rfl rfl
theorem fo_RX6_130 : FO RX6 130 1 1 := ⟨RX1, TX1, 11, rfl, by decide, wf_RX6_130, wl_X1⟩
set_option maxRecDepth 100000 in
theorem wm_RX6_133 : Cond.methodLink RX6 133 yX1_addGoods ∈ gW := gW_t2 136 rfl rfl
theorem cv_RX6_133 : CV RX6 133 yX1_addGoods cX1_addGoods 5 none 3 := ⟨wm_RX6_133, wc_yX1_addGoods, wi_TwoWidths_Land, ⟨by decide, by decide⟩, by decide +kernel⟩
set_option maxRecDepth 100000 in
theorem wf_RX6_139 : Cond.fieldLink RX6 139 "TwoWidths$Land" "workCount" "I" ∈ gW := gW_t1 47 rfl rfl
theorem fo_RX6_139 : FO RX6 139 1 2 := ⟨RX1, TX1, 11, rfl, by decide, wf_RX6_139, wl_X1⟩
set_option maxRecDepth 100000 in
theorem wm_RX6_142 : Cond.methodLink RX6 142 yX1_addWork ∈ gW := gW_t2 157 rfl rfl
theorem cv_RX6_142 : CV RX6 142 yX1_addWork cX1_addWork 6 none 4 := ⟨wm_RX6_142, wc_yX1_addWork, wi_TwoWidths_Land, ⟨by decide, by decide⟩, by decide +kernel⟩
set_option maxRecDepth 100000 in
theorem wm_RX6_136 : Cond.methodLink RX6 136 yX1_allowsWork ∈ gW := gW_t2 144 rfl rfl
set_option maxRecDepth 100000 in
theorem wc_yX1_allowsWork : Cond.code yX1_allowsWork cX1_allowsWork 4 (some .boolean) ∈ gW := gW_t2 147 rfl rfl
theorem cv_RX6_136 : CV RX6 136 yX1_allowsWork cX1_allowsWork 4 (some .boolean) 3 := ⟨wm_RX6_136, wc_yX1_allowsWork, wi_TwoWidths_Land, ⟨by decide, by decide⟩, by decide +kernel⟩
set_option maxRecDepth 100000 in
theorem wn_yX1_allowsWork : Cond.instanceMethod yX1_allowsWork ∈ gW := gW_t2 145 rfl rfl
set_option maxRecDepth 100000 in
theorem wv_yX1_allowsWork : Cond.selects RX1 yX1_allowsWork yX1_allowsWork ∈ gW := gW_t2 146 rfl rfl
theorem iv_yX1_allowsWork : Cond.instanceMethod yX1_allowsWork ∈ gW ∧ Cond.selects yX1_allowsWork.cls yX1_allowsWork yX1_allowsWork ∈ gW := ⟨wn_yX1_allowsWork, wv_yX1_allowsWork⟩
set_option maxRecDepth 100000 in
theorem wf_RX6_146 : Cond.fieldLink RX6 146 "TwoWidths$Land" "change" "[I" ∈ gW := gW_t1 57 rfl rfl
theorem fo_RX6_146 : FO RX6 146 1 7 := ⟨RX1, TX1, 11, rfl, by decide, wf_RX6_146, wl_X1⟩
set_option maxRecDepth 100000 in
theorem wm_RX6_149 : Cond.methodLink RX6 149 yX1_putChange ∈ gW := gW_t2 165 rfl rfl
theorem cv_RX6_149 : CV RX6 149 yX1_putChange cX1_putChange 3 none 2 := ⟨wm_RX6_149, wc_yX1_putChange, wi_TwoWidths_Land, ⟨by decide, by decide⟩, by decide +kernel⟩
set_option maxRecDepth 100000 in
theorem wf_RX6_153 : Cond.fieldLink RX6 153 "TwoWidths$Land" "coin" "[I" ∈ gW := gW_t1 60 rfl rfl
theorem fo_RX6_153 : FO RX6 153 1 8 := ⟨RX1, TX1, 11, rfl, by decide, wf_RX6_153, wl_X1⟩
set_option maxRecDepth 100000 in
theorem wm_RX6_156 : Cond.methodLink RX6 156 yX1_putCoin ∈ gW := gW_t2 173 rfl rfl
theorem cv_RX6_156 : CV RX6 156 yX1_putCoin cX1_putCoin 3 none 2 := ⟨wm_RX6_156, wc_yX1_putCoin, wi_TwoWidths_Land, ⟨by decide, by decide⟩, by decide +kernel⟩
set_option maxRecDepth 100000 in
theorem wf_RX6_159 : Cond.fieldLink RX6 159 "TwoWidths$Land" "years" "I" ∈ gW := gW_t1 51 rfl rfl
theorem fo_RX6_159 : FO RX6 159 1 3 := ⟨RX1, TX1, 11, rfl, by decide, wf_RX6_159, wl_X1⟩
theorem fp_RX6_159 : FP RX6 159 1 3 .int false := ⟨RX1, TX1, 11, tyX1, rfl, by decide, wf_RX6_159, wl_X1, tyX1_ok, nmX1, rfl, by decide +kernel, fun h => by first | rfl | cases h⟩
set_option maxRecDepth 100000 in
theorem wm_RX6_168 : Cond.methodLink RX6 168 yX1_putWashed ∈ gW := gW_t2 193 rfl rfl
set_option maxRecDepth 100000 in
theorem wc_yX1_putWashed : Cond.code yX1_putWashed cX1_putWashed 3 none ∈ gW := gW_t2 196 rfl rfl
theorem cv_RX6_168 : CV RX6 168 yX1_putWashed cX1_putWashed 3 none 2 := ⟨wm_RX6_168, wc_yX1_putWashed, wi_TwoWidths_Land, ⟨by decide, by decide⟩, by decide +kernel⟩
set_option maxRecDepth 100000 in
theorem wn_yX1_putWashed : Cond.instanceMethod yX1_putWashed ∈ gW := gW_t2 194 rfl rfl
set_option maxRecDepth 100000 in
theorem wv_yX1_putWashed : Cond.selects RX1 yX1_putWashed yX1_putWashed ∈ gW := gW_t2 195 rfl rfl
theorem iv_yX1_putWashed : Cond.instanceMethod yX1_putWashed ∈ gW ∧ Cond.selects yX1_putWashed.cls yX1_putWashed yX1_putWashed ∈ gW := ⟨wn_yX1_putWashed, wv_yX1_putWashed⟩
set_option maxRecDepth 100000 in
theorem wm_RX6_165 : Cond.methodLink RX6 165 yX1_ofLine ∈ gW := gW_t2 189 rfl rfl
theorem cv_RX6_165 : CV RX6 165 yX1_ofLine cX1_ofLine 3 (some .int) 2 := ⟨wm_RX6_165, wc_yX1_ofLine, wi_TwoWidths_Land, ⟨by decide, by decide⟩, by decide +kernel⟩
set_option maxRecDepth 100000 in
theorem wm_RX6_162 : Cond.methodLink RX6 162 yX1_hasLine ∈ gW := gW_t2 185 rfl rfl
theorem cv_RX6_162 : CV RX6 162 yX1_hasLine cX1_hasLine 2 (some .boolean) 1 := ⟨wm_RX6_162, wc_yX1_hasLine, wi_TwoWidths_Land, ⟨by decide, by decide⟩, by decide +kernel⟩
set_option maxRecDepth 100000 in
theorem wf_RX6_22 : Cond.fieldLink RX6 22 "TwoWidths" "tape" "LTwoWidths$Tape;" ∈ gW := gW_t2 1 rfl rfl
theorem fo_RX6_22 : FO RX6 22 6 2 := ⟨RX6, TX6, 10, rfl, by decide, wf_RX6_22, wl_X6⟩
set_option maxRecDepth 100000 in
theorem wf_RX6_171 : Cond.fieldLink RX6 171 "TwoWidths$Tape" "size" "I" ∈ gW := gW_t1 95 rfl rfl
theorem fo_RX6_171 : FO RX6 171 3 1 := ⟨RX3, TX3, 6, rfl, by decide, wf_RX6_171, wl_X3⟩
set_option maxRecDepth 100000 in
theorem wm_RX6_174 : Cond.methodLink RX6 174 yX3_put ∈ gW := gW_t2 201 rfl rfl
set_option maxRecDepth 100000 in
theorem wc_yX3_put : Cond.code yX3_put cX3_put 2 none ∈ gW := gW_t2 204 rfl rfl
theorem cv_RX6_174 : CV RX6 174 yX3_put cX3_put 2 none 1 := ⟨wm_RX6_174, wc_yX3_put, wi_TwoWidths_Tape, ⟨by decide, by decide⟩, by decide +kernel⟩
set_option maxRecDepth 100000 in
theorem wn_yX3_put : Cond.instanceMethod yX3_put ∈ gW := gW_t2 202 rfl rfl
set_option maxRecDepth 100000 in
theorem wv_yX3_put : Cond.selects RX3 yX3_put yX3_put ∈ gW := gW_t2 203 rfl rfl
theorem iv_yX3_put : Cond.instanceMethod yX3_put ∈ gW ∧ Cond.selects yX3_put.cls yX3_put yX3_put ∈ gW := ⟨wn_yX3_put, wv_yX3_put⟩
theorem fp_RX6_171 : FP RX6 171 3 1 .int false := ⟨RX3, TX3, 6, tyX3, rfl, by decide, wf_RX6_171, wl_X3, tyX3_ok, nmX3, rfl, by decide +kernel, fun h => by first | rfl | cases h⟩
set_option maxRecDepth 100000 in
theorem wf_RX6_36 : Cond.fieldLink RX6 36 "TwoWidths" "choice" "LTwoWidths$Choice;" ∈ gW := gW_t2 3 rfl rfl
theorem fo_RX6_36 : FO RX6 36 6 4 := ⟨RX6, TX6, 10, rfl, by decide, wf_RX6_36, wl_X6⟩
set_option maxRecDepth 100000 in
theorem wf_RX6_177 : Cond.fieldLink RX6 177 "TwoWidths$Choice" "after" "LTwoWidths$Land;" ∈ gW := gW_t1 226 rfl rfl
theorem fo_RX6_177 : FO RX6 177 0 1 := ⟨RX0, TX0, 4, rfl, by decide, wf_RX6_177, wl_X0⟩
set_option maxRecDepth 100000 in
theorem wm_RX6_180 : Cond.methodLink RX6 180 yX1_take ∈ gW := gW_t2 213 rfl rfl
theorem cv_RX6_180 : CV RX6 180 yX1_take cX1_take 2 none 1 := ⟨wm_RX6_180, wc_yX1_take, wi_TwoWidths_Land, ⟨by decide, by decide⟩, by decide +kernel⟩
set_option maxRecDepth 100000 in
theorem wm_RX6_184 : Cond.methodLink RX6 184 yX3_readInto ∈ gW := gW_t2 218 rfl rfl
set_option maxRecDepth 100000 in
theorem wc_yX3_readInto : Cond.code yX3_readInto cX3_readInto 3 (some .int) ∈ gW := gW_t2 221 rfl rfl
theorem cv_RX6_184 : CV RX6 184 yX3_readInto cX3_readInto 3 (some .int) 1 := ⟨wm_RX6_184, wc_yX3_readInto, wi_TwoWidths_Tape, ⟨by decide, by decide⟩, by decide +kernel⟩
set_option maxRecDepth 100000 in
theorem wn_yX3_readInto : Cond.instanceMethod yX3_readInto ∈ gW := gW_t2 219 rfl rfl
set_option maxRecDepth 100000 in
theorem wv_yX3_readInto : Cond.selects RX3 yX3_readInto yX3_readInto ∈ gW := gW_t2 220 rfl rfl
theorem iv_yX3_readInto : Cond.instanceMethod yX3_readInto ∈ gW ∧ Cond.selects yX3_readInto.cls yX3_readInto yX3_readInto ∈ gW := ⟨wn_yX3_readInto, wv_yX3_readInto⟩
set_option maxRecDepth 100000 in
theorem wm_RX6_191 : Cond.methodLink RX6 191 yX1_ofGoods ∈ gW := gW_t3 118 rfl rfl
theorem cv_RX6_191 : CV RX6 191 yX1_ofGoods cX1_ofGoods 3 (some .int) 2 := ⟨wm_RX6_191, wc_yX1_ofGoods, wi_TwoWidths_Land, ⟨by decide, by decide⟩, by decide +kernel⟩
set_option maxRecDepth 100000 in
theorem wm_RX6_188 : Cond.methodLink RX6 188 yX1_hasGoods ∈ gW := gW_t3 114 rfl rfl
set_option maxRecDepth 100000 in
theorem wc_yX1_hasGoods : Cond.code yX1_hasGoods cX1_hasGoods 2 (some .boolean) ∈ gW := gW_t3 117 rfl rfl
theorem cv_RX6_188 : CV RX6 188 yX1_hasGoods cX1_hasGoods 2 (some .boolean) 1 := ⟨wm_RX6_188, wc_yX1_hasGoods, wi_TwoWidths_Land, ⟨by decide, by decide⟩, by decide +kernel⟩
set_option maxRecDepth 100000 in
theorem wn_yX1_hasGoods : Cond.instanceMethod yX1_hasGoods ∈ gW := gW_t3 115 rfl rfl
set_option maxRecDepth 100000 in
theorem wv_yX1_hasGoods : Cond.selects RX1 yX1_hasGoods yX1_hasGoods ∈ gW := gW_t3 116 rfl rfl
theorem iv_yX1_hasGoods : Cond.instanceMethod yX1_hasGoods ∈ gW ∧ Cond.selects yX1_hasGoods.cls yX1_hasGoods yX1_hasGoods ∈ gW := ⟨wn_yX1_hasGoods, wv_yX1_hasGoods⟩
set_option maxRecDepth 100000 in
theorem wf_RX6_44 : Cond.fieldLink RX6 44 "TwoWidths" "traffic" "LTwoWidths$Traffic;" ∈ gW := gW_t2 4 rfl rfl
theorem fo_RX6_44 : FO RX6 44 6 5 := ⟨RX6, TX6, 10, rfl, by decide, wf_RX6_44, wl_X6⟩
set_option maxRecDepth 100000 in
theorem wm_RX6_194 : Cond.methodLink RX6 194 yX4_costBetween ∈ gW := gW_t3 130 rfl rfl
set_option maxRecDepth 100000 in
theorem wc_yX4_costBetween : Cond.code yX4_costBetween cX4_costBetween 4 (some .int) ∈ gW := gW_t3 133 rfl rfl
theorem cv_RX6_194 : CV RX6 194 yX4_costBetween cX4_costBetween 4 (some .int) 3 := ⟨wm_RX6_194, wc_yX4_costBetween, wi_TwoWidths_Traffic, ⟨by decide, by decide⟩, by decide +kernel⟩
set_option maxRecDepth 100000 in
theorem wn_yX4_costBetween : Cond.instanceMethod yX4_costBetween ∈ gW := gW_t3 131 rfl rfl
set_option maxRecDepth 100000 in
theorem wv_yX4_costBetween : Cond.selects RX4 yX4_costBetween yX4_costBetween ∈ gW := gW_t3 132 rfl rfl
theorem iv_yX4_costBetween : Cond.instanceMethod yX4_costBetween ∈ gW ∧ Cond.selects yX4_costBetween.cls yX4_costBetween yX4_costBetween ∈ gW := ⟨wn_yX4_costBetween, wv_yX4_costBetween⟩
set_option maxRecDepth 100000 in
theorem wf_RX6_200 : Cond.fieldLink RX6 200 "TwoWidths$Traffic" "ways" "LTwoWidths$Ways;" ∈ gW := gW_t1 200 rfl rfl
theorem fo_RX6_200 : FO RX6 200 4 0 := ⟨RX4, TX4, 5, rfl, by decide, wf_RX6_200, wl_X4⟩
set_option maxRecDepth 100000 in
theorem wm_RX6_220 : Cond.methodLink RX6 220 yX5_linesOnWay ∈ gW := gW_t3 208 rfl rfl
set_option maxRecDepth 100000 in
theorem wc_yX5_linesOnWay : Cond.code yX5_linesOnWay cX5_linesOnWay 1 (some .int) ∈ gW := gW_t3 211 rfl rfl
theorem cv_RX6_220 : CV RX6 220 yX5_linesOnWay cX5_linesOnWay 1 (some .int) 0 := ⟨wm_RX6_220, wc_yX5_linesOnWay, wi_TwoWidths_Ways, ⟨by decide, by decide⟩, by decide +kernel⟩
set_option maxRecDepth 100000 in
theorem wn_yX5_linesOnWay : Cond.instanceMethod yX5_linesOnWay ∈ gW := gW_t3 209 rfl rfl
set_option maxRecDepth 100000 in
theorem wv_yX5_linesOnWay : Cond.selects RX5 yX5_linesOnWay yX5_linesOnWay ∈ gW := gW_t3 210 rfl rfl
theorem iv_yX5_linesOnWay : Cond.instanceMethod yX5_linesOnWay ∈ gW ∧ Cond.selects yX5_linesOnWay.cls yX5_linesOnWay yX5_linesOnWay ∈ gW := ⟨wn_yX5_linesOnWay, wv_yX5_linesOnWay⟩
set_option maxRecDepth 100000 in
theorem wm_RX6_223 : Cond.methodLink RX6 223 yX5_changesOnWay ∈ gW := gW_t3 223 rfl rfl
theorem cv_RX6_223 : CV RX6 223 yX5_changesOnWay cX5_changesOnWay 3 (some .int) 0 := ⟨wm_RX6_223, wc_yX5_changesOnWay, wi_TwoWidths_Ways, ⟨by decide, by decide⟩, by decide +kernel⟩
set_option maxRecDepth 100000 in
theorem wm_RX6_226 : Cond.methodLink RX6 226 yX5_widthAfter ∈ gW := gW_t3 224 rfl rfl
set_option maxRecDepth 100000 in
theorem wc_yX5_widthAfter : Cond.code yX5_widthAfter cX5_widthAfter 2 (some .int) ∈ gW := gW_t3 227 rfl rfl
theorem cv_RX6_226 : CV RX6 226 yX5_widthAfter cX5_widthAfter 2 (some .int) 1 := ⟨wm_RX6_226, wc_yX5_widthAfter, wi_TwoWidths_Ways, ⟨by decide, by decide⟩, by decide +kernel⟩
set_option maxRecDepth 100000 in
theorem wn_yX5_widthAfter : Cond.instanceMethod yX5_widthAfter ∈ gW := gW_t3 225 rfl rfl
set_option maxRecDepth 100000 in
theorem wv_yX5_widthAfter : Cond.selects RX5 yX5_widthAfter yX5_widthAfter ∈ gW := gW_t3 226 rfl rfl
theorem iv_yX5_widthAfter : Cond.instanceMethod yX5_widthAfter ∈ gW ∧ Cond.selects yX5_widthAfter.cls yX5_widthAfter yX5_widthAfter ∈ gW := ⟨wn_yX5_widthAfter, wv_yX5_widthAfter⟩
set_option maxRecDepth 100000 in
theorem wf_RX6_229 : Cond.fieldLink RX6 229 "TwoWidths$Ways" "stepCount" "I" ∈ gW := gW_t1 164 rfl rfl
theorem fo_RX6_229 : FO RX6 229 5 8 := ⟨RX5, TX5, 14, rfl, by decide, wf_RX6_229, wl_X5⟩
set_option maxRecDepth 100000 in
theorem wm_RX6_217 : Cond.methodLink RX6 217 yX5_lineAt ∈ gW := gW_t3 199 rfl rfl
set_option maxRecDepth 100000 in
theorem wc_yX5_lineAt : Cond.code yX5_lineAt cX5_lineAt 5 (some .int) ∈ gW := gW_t3 202 rfl rfl
theorem cv_RX6_217 : CV RX6 217 yX5_lineAt cX5_lineAt 5 (some .int) 1 := ⟨wm_RX6_217, wc_yX5_lineAt, wi_TwoWidths_Ways, ⟨by decide, by decide⟩, by decide +kernel⟩
set_option maxRecDepth 100000 in
theorem wn_yX5_lineAt : Cond.instanceMethod yX5_lineAt ∈ gW := gW_t3 200 rfl rfl
set_option maxRecDepth 100000 in
theorem wv_yX5_lineAt : Cond.selects RX5 yX5_lineAt yX5_lineAt ∈ gW := gW_t3 201 rfl rfl
theorem iv_yX5_lineAt : Cond.instanceMethod yX5_lineAt ∈ gW ∧ Cond.selects yX5_lineAt.cls yX5_lineAt yX5_lineAt ∈ gW := ⟨wn_yX5_lineAt, wv_yX5_lineAt⟩
set_option maxRecDepth 100000 in
theorem wm_RX6_214 : Cond.methodLink RX6 214 yX5_trace ∈ gW := gW_t3 169 rfl rfl
theorem cv_RX6_214 : CV RX6 214 yX5_trace cX5_trace 9 (some .boolean) 2 := ⟨wm_RX6_214, wc_yX5_trace, wi_TwoWidths_Ways, ⟨by decide, by decide⟩, by decide +kernel⟩
set_option maxRecDepth 100000 in
theorem wm_RX6_208 : Cond.methodLink RX6 208 yX5_prepare ∈ gW := gW_t3 168 rfl rfl
theorem cv_RX6_208 : CV RX6 208 yX5_prepare cX5_prepare 6 none 2 := ⟨wm_RX6_208, wc_yX5_prepare, wi_TwoWidths_Ways, ⟨by decide, by decide⟩, by decide +kernel⟩
set_option maxRecDepth 100000 in
theorem wm_RX6_204 : Cond.methodLink RX6 204 yX1_linesThere ∈ gW := gW_t3 167 rfl rfl
theorem cv_RX6_204 : CV RX6 204 yX1_linesThere cX1_linesThere 3 (some .int) 0 := ⟨wm_RX6_204, wc_yX1_linesThere, wi_TwoWidths_Land, ⟨by decide, by decide⟩, by decide +kernel⟩
set_option maxRecDepth 100000 in
theorem wm_RX6_232 : Cond.methodLink RX6 232 yX0_freeWith ∈ gW := gW_t3 232 rfl rfl
theorem cv_RX6_232 : CV RX6 232 yX0_freeWith cX0_freeWith 7 (some .int) 2 := ⟨wm_RX6_232, wc_yX0_freeWith, wi_TwoWidths_Choice, ⟨by decide, by decide⟩, by decide +kernel⟩
set_option maxRecDepth 100000 in
theorem wf_RX6_245 : Cond.fieldLink RX6 245 "TwoWidths$Traffic" "turnWayless" "I" ∈ gW := gW_t1 209 rfl rfl
theorem fo_RX6_245 : FO RX6 245 4 4 := ⟨RX4, TX4, 5, rfl, by decide, wf_RX6_245, wl_X4⟩
set_option maxRecDepth 100000 in
theorem wf_RX6_242 : Cond.fieldLink RX6 242 "TwoWidths$Traffic" "turnCost" "I" ∈ gW := gW_t1 207 rfl rfl
theorem fo_RX6_242 : FO RX6 242 4 3 := ⟨RX4, TX4, 5, rfl, by decide, wf_RX6_242, wl_X4⟩
set_option maxRecDepth 100000 in
theorem wf_RX6_239 : Cond.fieldLink RX6 239 "TwoWidths$Traffic" "left" "[I" ∈ gW := gW_t1 202 rfl rfl
theorem fo_RX6_239 : FO RX6 239 4 1 := ⟨RX4, TX4, 5, rfl, by decide, wf_RX6_239, wl_X4⟩
set_option maxRecDepth 100000 in
theorem wm_RX6_236 : Cond.methodLink RX6 236 yX4_sendInTurn ∈ gW := gW_t4 36 rfl rfl
set_option maxRecDepth 100000 in
theorem wc_yX4_sendInTurn : Cond.code yX4_sendInTurn cX4_sendInTurn 6 none ∈ gW := gW_t4 39 rfl rfl
theorem cv_RX6_236 : CV RX6 236 yX4_sendInTurn cX4_sendInTurn 6 none 1 := ⟨wm_RX6_236, wc_yX4_sendInTurn, wi_TwoWidths_Traffic, ⟨by decide, by decide⟩, by decide +kernel⟩
set_option maxRecDepth 100000 in
theorem wn_yX4_sendInTurn : Cond.instanceMethod yX4_sendInTurn ∈ gW := gW_t4 37 rfl rfl
set_option maxRecDepth 100000 in
theorem wv_yX4_sendInTurn : Cond.selects RX4 yX4_sendInTurn yX4_sendInTurn ∈ gW := gW_t4 38 rfl rfl
theorem iv_yX4_sendInTurn : Cond.instanceMethod yX4_sendInTurn ∈ gW ∧ Cond.selects yX4_sendInTurn.cls yX4_sendInTurn yX4_sendInTurn ∈ gW := ⟨wn_yX4_sendInTurn, wv_yX4_sendInTurn⟩
set_option maxRecDepth 100000 in
theorem wm_RX6_248 : Cond.methodLink RX6 248 yX0_totalOf ∈ gW := gW_t4 56 rfl rfl
theorem cv_RX6_248 : CV RX6 248 yX0_totalOf cX0_totalOf 5 (some .int) 2 := ⟨wm_RX6_248, wc_yX0_totalOf, wi_TwoWidths_Choice, ⟨by decide, by decide⟩, by decide +kernel⟩
set_option maxRecDepth 100000 in
theorem wm_RX6_251 : Cond.methodLink RX6 251 yX0_bestOf ∈ gW := gW_t4 67 rfl rfl
set_option maxRecDepth 100000 in
theorem wc_yX0_bestOf : Cond.code yX0_bestOf cX0_bestOf 7 (some .int) ∈ gW := gW_t4 70 rfl rfl
theorem cv_RX6_251 : CV RX6 251 yX0_bestOf cX0_bestOf 7 (some .int) 1 := ⟨wm_RX6_251, wc_yX0_bestOf, wi_TwoWidths_Choice, ⟨by decide, by decide⟩, by decide +kernel⟩
set_option maxRecDepth 100000 in
theorem wn_yX0_bestOf : Cond.instanceMethod yX0_bestOf ∈ gW := gW_t4 68 rfl rfl
set_option maxRecDepth 100000 in
theorem wv_yX0_bestOf : Cond.selects RX0 yX0_bestOf yX0_bestOf ∈ gW := gW_t4 69 rfl rfl
theorem iv_yX0_bestOf : Cond.instanceMethod yX0_bestOf ∈ gW ∧ Cond.selects yX0_bestOf.cls yX0_bestOf yX0_bestOf ∈ gW := ⟨wn_yX0_bestOf, wv_yX0_bestOf⟩
set_option maxRecDepth 100000 in
theorem wm_RX6_320 : Cond.methodLink RX6 320 yX1_isDone ∈ gW := gW_t4 80 rfl rfl
theorem cv_RX6_320 : CV RX6 320 yX1_isDone cX1_isDone 2 (some .boolean) 1 := ⟨wm_RX6_320, wc_yX1_isDone, wi_TwoWidths_Land, ⟨by decide, by decide⟩, by decide +kernel⟩
set_option maxRecDepth 100000 in
theorem wm_RX6_258 : Cond.methodLink RX6 258 yX0_worthIn ∈ gW := gW_t4 82 rfl rfl
theorem cv_RX6_258 : CV RX6 258 yX0_worthIn cX0_worthIn 4 (some .int) 3 := ⟨wm_RX6_258, wc_yX0_worthIn, wi_TwoWidths_Choice, ⟨by decide, by decide⟩, by decide +kernel⟩
set_option maxRecDepth 100000 in
theorem wk_RX6_257 : Cond.constant RX6 257 (-1000000) ∈ gW := gW_t4 81 rfl rfl
set_option maxRecDepth 100000 in
theorem wm_RX6_254 : Cond.methodLink RX6 254 yX6_noChoice ∈ gW := gW_t4 76 rfl rfl
set_option maxRecDepth 100000 in
theorem wc_yX6_noChoice : Cond.code yX6_noChoice cX6_noChoice 2 (some .int) ∈ gW := gW_t4 79 rfl rfl
theorem cv_RX6_254 : CV RX6 254 yX6_noChoice cX6_noChoice 2 (some .int) 1 := ⟨wm_RX6_254, wc_yX6_noChoice, wi_TwoWidths, ⟨by decide, by decide⟩, by decide +kernel⟩
set_option maxRecDepth 100000 in
theorem wn_yX6_noChoice : Cond.instanceMethod yX6_noChoice ∈ gW := gW_t4 78 rfl rfl
set_option maxRecDepth 100000 in
theorem wv_yX6_noChoice : Cond.selects RX6 yX6_noChoice yX6_noChoice ∈ gW := gW_mem 26 rfl rfl
theorem iv_yX6_noChoice : Cond.instanceMethod yX6_noChoice ∈ gW ∧ Cond.selects yX6_noChoice.cls yX6_noChoice yX6_noChoice ∈ gW := ⟨wn_yX6_noChoice, wv_yX6_noChoice⟩
set_option maxRecDepth 100000 in
theorem wm_RX6_261 : Cond.methodLink RX6 261 yX0_firstOf ∈ gW := gW_t4 90 rfl rfl
theorem cv_RX6_261 : CV RX6 261 yX0_firstOf cX0_firstOf 6 (some .int) 1 := ⟨wm_RX6_261, wc_yX0_firstOf, wi_TwoWidths_Choice, ⟨by decide, by decide⟩, by decide +kernel⟩
set_option maxRecDepth 100000 in
theorem wm_RX6_264 : Cond.methodLink RX6 264 yX0_greedyOf ∈ gW := gW_t4 99 rfl rfl
set_option maxRecDepth 100000 in
theorem wc_yX0_greedyOf : Cond.code yX0_greedyOf cX0_greedyOf 5 (some .int) ∈ gW := gW_t4 102 rfl rfl
theorem cv_RX6_264 : CV RX6 264 yX0_greedyOf cX0_greedyOf 5 (some .int) 1 := ⟨wm_RX6_264, wc_yX0_greedyOf, wi_TwoWidths_Choice, ⟨by decide, by decide⟩, by decide +kernel⟩
set_option maxRecDepth 100000 in
theorem wn_yX0_greedyOf : Cond.instanceMethod yX0_greedyOf ∈ gW := gW_t4 100 rfl rfl
set_option maxRecDepth 100000 in
theorem wv_yX0_greedyOf : Cond.selects RX0 yX0_greedyOf yX0_greedyOf ∈ gW := gW_t4 101 rfl rfl
theorem iv_yX0_greedyOf : Cond.instanceMethod yX0_greedyOf ∈ gW ∧ Cond.selects yX0_greedyOf.cls yX0_greedyOf yX0_greedyOf ∈ gW := ⟨wn_yX0_greedyOf, wv_yX0_greedyOf⟩
set_option maxRecDepth 100000 in
theorem wm_RX6_267 : Cond.methodLink RX6 267 yX0_neverOf ∈ gW := gW_t4 121 rfl rfl
set_option maxRecDepth 100000 in
theorem wc_yX0_neverOf : Cond.code yX0_neverOf cX0_neverOf 4 (some .int) ∈ gW := gW_t4 124 rfl rfl
theorem cv_RX6_267 : CV RX6 267 yX0_neverOf cX0_neverOf 4 (some .int) 1 := ⟨wm_RX6_267, wc_yX0_neverOf, wi_TwoWidths_Choice, ⟨by decide, by decide⟩, by decide +kernel⟩
set_option maxRecDepth 100000 in
theorem wn_yX0_neverOf : Cond.instanceMethod yX0_neverOf ∈ gW := gW_t4 122 rfl rfl
set_option maxRecDepth 100000 in
theorem wv_yX0_neverOf : Cond.selects RX0 yX0_neverOf yX0_neverOf ∈ gW := gW_t4 123 rfl rfl
theorem iv_yX0_neverOf : Cond.instanceMethod yX0_neverOf ∈ gW ∧ Cond.selects yX0_neverOf.cls yX0_neverOf yX0_neverOf ∈ gW := ⟨wn_yX0_neverOf, wv_yX0_neverOf⟩
set_option maxRecDepth 100000 in
theorem wm_RX6_270 : Cond.methodLink RX6 270 yX0_costOfWidth ∈ gW := gW_t4 133 rfl rfl
set_option maxRecDepth 100000 in
theorem wc_yX0_costOfWidth : Cond.code yX0_costOfWidth cX0_costOfWidth 6 (some .int) ∈ gW := gW_t4 136 rfl rfl
theorem cv_RX6_270 : CV RX6 270 yX0_costOfWidth cX0_costOfWidth 6 (some .int) 3 := ⟨wm_RX6_270, wc_yX0_costOfWidth, wi_TwoWidths_Choice, ⟨by decide, by decide⟩, by decide +kernel⟩
set_option maxRecDepth 100000 in
theorem wn_yX0_costOfWidth : Cond.instanceMethod yX0_costOfWidth ∈ gW := gW_t4 134 rfl rfl
set_option maxRecDepth 100000 in
theorem wv_yX0_costOfWidth : Cond.selects RX0 yX0_costOfWidth yX0_costOfWidth ∈ gW := gW_t4 135 rfl rfl
theorem iv_yX0_costOfWidth : Cond.instanceMethod yX0_costOfWidth ∈ gW ∧ Cond.selects yX0_costOfWidth.cls yX0_costOfWidth yX0_costOfWidth ∈ gW := ⟨wn_yX0_costOfWidth, wv_yX0_costOfWidth⟩
set_option maxRecDepth 100000 in
theorem wf_RX6_273 : Cond.fieldLink RX6 273 "TwoWidths$Traffic" "earned" "[I" ∈ gW := gW_t1 205 rfl rfl
theorem fo_RX6_273 : FO RX6 273 4 2 := ⟨RX4, TX4, 5, rfl, by decide, wf_RX6_273, wl_X4⟩
set_option maxRecDepth 100000 in
theorem wm_RX6_276 : Cond.methodLink RX6 276 yX4_earn ∈ gW := gW_t4 147 rfl rfl
theorem cv_RX6_276 : CV RX6 276 yX4_earn cX4_earn 4 none 2 := ⟨wm_RX6_276, wc_yX4_earn, wi_TwoWidths_Traffic, ⟨by decide, by decide⟩, by decide +kernel⟩
set_option maxRecDepth 100000 in
theorem wf_RX6_283 : Cond.fieldLink RX6 283 "TwoWidths$Choice" "gained" "[I" ∈ gW := gW_t1 228 rfl rfl
theorem fo_RX6_283 : FO RX6 283 0 2 := ⟨RX0, TX0, 4, rfl, by decide, wf_RX6_283, wl_X0⟩
set_option maxRecDepth 100000 in
theorem wm_RX6_280 : Cond.methodLink RX6 280 yX0_gainBy ∈ gW := gW_t4 161 rfl rfl
set_option maxRecDepth 100000 in
theorem wc_yX0_gainBy : Cond.code yX0_gainBy cX0_gainBy 4 none ∈ gW := gW_t4 164 rfl rfl
theorem cv_RX6_280 : CV RX6 280 yX0_gainBy cX0_gainBy 4 none 2 := ⟨wm_RX6_280, wc_yX0_gainBy, wi_TwoWidths_Choice, ⟨by decide, by decide⟩, by decide +kernel⟩
set_option maxRecDepth 100000 in
theorem wn_yX0_gainBy : Cond.instanceMethod yX0_gainBy ∈ gW := gW_t4 162 rfl rfl
set_option maxRecDepth 100000 in
theorem wv_yX0_gainBy : Cond.selects RX0 yX0_gainBy yX0_gainBy ∈ gW := gW_t4 163 rfl rfl
theorem iv_yX0_gainBy : Cond.instanceMethod yX0_gainBy ∈ gW ∧ Cond.selects yX0_gainBy.cls yX0_gainBy yX0_gainBy ∈ gW := ⟨wn_yX0_gainBy, wv_yX0_gainBy⟩
set_option maxRecDepth 100000 in
theorem wm_RX6_286 : Cond.methodLink RX6 286 yX4_tonsAt ∈ gW := gW_t4 174 rfl rfl
set_option maxRecDepth 100000 in
theorem wc_yX4_tonsAt : Cond.code yX4_tonsAt cX4_tonsAt 7 (some .int) ∈ gW := gW_t4 177 rfl rfl
theorem cv_RX6_286 : CV RX6 286 yX4_tonsAt cX4_tonsAt 7 (some .int) 3 := ⟨wm_RX6_286, wc_yX4_tonsAt, wi_TwoWidths_Traffic, ⟨by decide, by decide⟩, by decide +kernel⟩
set_option maxRecDepth 100000 in
theorem wn_yX4_tonsAt : Cond.instanceMethod yX4_tonsAt ∈ gW := gW_t4 175 rfl rfl
set_option maxRecDepth 100000 in
theorem wv_yX4_tonsAt : Cond.selects RX4 yX4_tonsAt yX4_tonsAt ∈ gW := gW_t4 176 rfl rfl
theorem iv_yX4_tonsAt : Cond.instanceMethod yX4_tonsAt ∈ gW ∧ Cond.selects yX4_tonsAt.cls yX4_tonsAt yX4_tonsAt ∈ gW := ⟨wn_yX4_tonsAt, wv_yX4_tonsAt⟩
set_option maxRecDepth 100000 in
theorem wm_RX6_290 : Cond.methodLink RX6 290 yX4_dearestLoss ∈ gW := gW_t4 198 rfl rfl
set_option maxRecDepth 100000 in
theorem wc_yX4_dearestLoss : Cond.code yX4_dearestLoss cX4_dearestLoss 7 (some .int) ∈ gW := gW_t4 201 rfl rfl
theorem cv_RX6_290 : CV RX6 290 yX4_dearestLoss cX4_dearestLoss 7 (some .int) 1 := ⟨wm_RX6_290, wc_yX4_dearestLoss, wi_TwoWidths_Traffic, ⟨by decide, by decide⟩, by decide +kernel⟩
set_option maxRecDepth 100000 in
theorem wn_yX4_dearestLoss : Cond.instanceMethod yX4_dearestLoss ∈ gW := gW_t4 199 rfl rfl
set_option maxRecDepth 100000 in
theorem wv_yX4_dearestLoss : Cond.selects RX4 yX4_dearestLoss yX4_dearestLoss ∈ gW := gW_t4 200 rfl rfl
theorem iv_yX4_dearestLoss : Cond.instanceMethod yX4_dearestLoss ∈ gW ∧ Cond.selects yX4_dearestLoss.cls yX4_dearestLoss yX4_dearestLoss ∈ gW := ⟨wn_yX4_dearestLoss, wv_yX4_dearestLoss⟩
set_option maxRecDepth 100000 in
theorem wm_RX6_300 : Cond.methodLink RX6 300 yX0_costOfPlan ∈ gW := gW_t4 218 rfl rfl
set_option maxRecDepth 100000 in
theorem wc_yX0_costOfPlan : Cond.code yX0_costOfPlan cX0_costOfPlan 6 (some .int) ∈ gW := gW_t4 221 rfl rfl
theorem cv_RX6_300 : CV RX6 300 yX0_costOfPlan cX0_costOfPlan 6 (some .int) 3 := ⟨wm_RX6_300, wc_yX0_costOfPlan, wi_TwoWidths_Choice, ⟨by decide, by decide⟩, by decide +kernel⟩
set_option maxRecDepth 100000 in
theorem wn_yX0_costOfPlan : Cond.instanceMethod yX0_costOfPlan ∈ gW := gW_t4 219 rfl rfl
set_option maxRecDepth 100000 in
theorem wv_yX0_costOfPlan : Cond.selects RX0 yX0_costOfPlan yX0_costOfPlan ∈ gW := gW_t4 220 rfl rfl
theorem iv_yX0_costOfPlan : Cond.instanceMethod yX0_costOfPlan ∈ gW ∧ Cond.selects yX0_costOfPlan.cls yX0_costOfPlan yX0_costOfPlan ∈ gW := ⟨wn_yX0_costOfPlan, wv_yX0_costOfPlan⟩
set_option maxRecDepth 100000 in
theorem wm_RX6_296 : Cond.methodLink RX6 296 yX0_wrongAt ∈ gW := gW_t4 211 rfl rfl
set_option maxRecDepth 100000 in
theorem wc_yX0_wrongAt : Cond.code yX0_wrongAt cX0_wrongAt 7 (some .int) ∈ gW := gW_t4 214 rfl rfl
theorem cv_RX6_296 : CV RX6 296 yX0_wrongAt cX0_wrongAt 7 (some .int) 3 := ⟨wm_RX6_296, wc_yX0_wrongAt, wi_TwoWidths_Choice, ⟨by decide, by decide⟩, by decide +kernel⟩
set_option maxRecDepth 100000 in
theorem wn_yX0_wrongAt : Cond.instanceMethod yX0_wrongAt ∈ gW := gW_t4 212 rfl rfl
set_option maxRecDepth 100000 in
theorem wv_yX0_wrongAt : Cond.selects RX0 yX0_wrongAt yX0_wrongAt ∈ gW := gW_t4 213 rfl rfl
theorem iv_yX0_wrongAt : Cond.instanceMethod yX0_wrongAt ∈ gW ∧ Cond.selects yX0_wrongAt.cls yX0_wrongAt yX0_wrongAt ∈ gW := ⟨wn_yX0_wrongAt, wv_yX0_wrongAt⟩
set_option maxRecDepth 100000 in
theorem wm_RX6_293 : Cond.methodLink RX6 293 yX6_noPlan ∈ gW := gW_t4 207 rfl rfl
set_option maxRecDepth 100000 in
theorem wc_yX6_noPlan : Cond.code yX6_noPlan cX6_noPlan 4 (some .int) ∈ gW := gW_t4 210 rfl rfl
theorem cv_RX6_293 : CV RX6 293 yX6_noPlan cX6_noPlan 4 (some .int) 2 := ⟨wm_RX6_293, wc_yX6_noPlan, wi_TwoWidths, ⟨by decide, by decide⟩, by decide +kernel⟩
set_option maxRecDepth 100000 in
theorem wn_yX6_noPlan : Cond.instanceMethod yX6_noPlan ∈ gW := gW_t4 209 rfl rfl
set_option maxRecDepth 100000 in
theorem wv_yX6_noPlan : Cond.selects RX6 yX6_noPlan yX6_noPlan ∈ gW := gW_mem 31 rfl rfl
theorem iv_yX6_noPlan : Cond.instanceMethod yX6_noPlan ∈ gW ∧ Cond.selects yX6_noPlan.cls yX6_noPlan yX6_noPlan ∈ gW := ⟨wn_yX6_noPlan, wv_yX6_noPlan⟩
set_option maxRecDepth 100000 in
theorem wf_RX6_53 : Cond.fieldLink RX6 53 "TwoWidths" "gone" "I" ∈ gW := gW_t2 7 rfl rfl
theorem fo_RX6_53 : FO RX6 53 6 8 := ⟨RX6, TX6, 10, rfl, by decide, wf_RX6_53, wl_X6⟩
theorem fp_RX6_53 : FP RX6 53 6 8 .int false := ⟨RX6, TX6, 10, tyX6, rfl, by decide, wf_RX6_53, wl_X6, tyX6_ok, nmX6, rfl, by decide +kernel, fun h => by first | rfl | cases h⟩
set_option maxRecDepth 100000 in
theorem wf_RX6_57 : Cond.fieldLink RX6 57 "TwoWidths" "spent" "I" ∈ gW := gW_t2 8 rfl rfl
theorem fo_RX6_57 : FO RX6 57 6 9 := ⟨RX6, TX6, 10, rfl, by decide, wf_RX6_57, wl_X6⟩
theorem fp_RX6_57 : FP RX6 57 6 9 .int false := ⟨RX6, TX6, 10, tyX6, rfl, by decide, wf_RX6_57, wl_X6, tyX6_ok, nmX6, rfl, by decide +kernel, fun h => by first | rfl | cases h⟩
set_option maxRecDepth 100000 in
theorem wm_RX6_323 : Cond.methodLink RX6 323 yX0_costOfYear ∈ gW := gW_t4 239 rfl rfl
theorem cv_RX6_323 : CV RX6 323 yX0_costOfYear cX0_costOfYear 4 (some .int) 2 := ⟨wm_RX6_323, wc_yX0_costOfYear, wi_TwoWidths_Choice, ⟨by decide, by decide⟩, by decide +kernel⟩
set_option maxRecDepth 100000 in
theorem wm_RX6_303 : Cond.methodLink RX6 303 yX6_passYear ∈ gW := gW_t4 235 rfl rfl
set_option maxRecDepth 100000 in
theorem wc_yX6_passYear : Cond.code yX6_passYear cX6_passYear 3 (some .int) ∈ gW := gW_t4 238 rfl rfl
theorem cv_RX6_303 : CV RX6 303 yX6_passYear cX6_passYear 3 (some .int) 1 := ⟨wm_RX6_303, wc_yX6_passYear, wi_TwoWidths, ⟨by decide, by decide⟩, by decide +kernel⟩
set_option maxRecDepth 100000 in
theorem wn_yX6_passYear : Cond.instanceMethod yX6_passYear ∈ gW := gW_t4 237 rfl rfl
set_option maxRecDepth 100000 in
theorem wv_yX6_passYear : Cond.selects RX6 yX6_passYear yX6_passYear ∈ gW := gW_mem 32 rfl rfl
theorem iv_yX6_passYear : Cond.instanceMethod yX6_passYear ∈ gW ∧ Cond.selects yX6_passYear.cls yX6_passYear yX6_passYear ∈ gW := ⟨wn_yX6_passYear, wv_yX6_passYear⟩
set_option maxRecDepth 100000 in
theorem wf_RX6_16 : Cond.fieldLink RX6 16 "TwoWidths" "kept" "LTwoWidths$Land;" ∈ gW := gW_t2 0 rfl rfl
theorem fo_RX6_16 : FO RX6 16 6 1 := ⟨RX6, TX6, 10, rfl, by decide, wf_RX6_16, wl_X6⟩
set_option maxRecDepth 100000 in
theorem wf_RX6_49 : Cond.fieldLink RX6 49 "TwoWidths" "isKept" "Z" ∈ gW := gW_t2 6 rfl rfl
theorem fp_RX6_49 : FP RX6 49 6 7 .boolean false := ⟨RX6, TX6, 10, tyX6, rfl, by decide, wf_RX6_49, wl_X6, tyX6_ok, nmX6, rfl, by decide +kernel, fun h => by first | rfl | cases h⟩
theorem fo_RX6_49 : FO RX6 49 6 7 := ⟨RX6, TX6, 10, rfl, by decide, wf_RX6_49, wl_X6⟩
set_option maxRecDepth 100000 in
theorem wm_RX6_306 : Cond.methodLink RX6 306 yX2_dropWorksFrom ∈ gW := gW_t5 12 rfl rfl
set_option maxRecDepth 100000 in
theorem wc_yX2_dropWorksFrom : Cond.code yX2_dropWorksFrom cX2_dropWorksFrom 3 none ∈ gW := gW_t5 15 rfl rfl
theorem cv_RX6_306 : CV RX6 306 yX2_dropWorksFrom cX2_dropWorksFrom 3 none 1 := ⟨wm_RX6_306, wc_yX2_dropWorksFrom, wi_TwoWidths_Shelves, ⟨by decide, by decide⟩, by decide +kernel⟩
set_option maxRecDepth 100000 in
theorem wn_yX2_dropWorksFrom : Cond.instanceMethod yX2_dropWorksFrom ∈ gW := gW_t5 13 rfl rfl
set_option maxRecDepth 100000 in
theorem wv_yX2_dropWorksFrom : Cond.selects RX2 yX2_dropWorksFrom yX2_dropWorksFrom ∈ gW := gW_t5 14 rfl rfl
theorem iv_yX2_dropWorksFrom : Cond.instanceMethod yX2_dropWorksFrom ∈ gW ∧ Cond.selects yX2_dropWorksFrom.cls yX2_dropWorksFrom yX2_dropWorksFrom ∈ gW := ⟨wn_yX2_dropWorksFrom, wv_yX2_dropWorksFrom⟩
set_option maxRecDepth 100000 in
theorem wk_RJ6_265 : Cond.constant RJ6 265 (1431655765) ∈ gW := gW_t5 25 rfl rfl
set_option maxRecDepth 100000 in
theorem wk_RJ6_266 : Cond.constant RJ6 266 (858993459) ∈ gW := gW_t5 26 rfl rfl
set_option maxRecDepth 100000 in
theorem wk_RJ6_267 : Cond.constant RJ6 267 (252645135) ∈ gW := gW_t5 27 rfl rfl
set_option maxRecDepth 100000 in
theorem wm_RX6_312 : Cond.methodLink RX6 312 yJ6_bitCount_0f7a4 ∈ gW := gW_t5 22 rfl rfl
set_option maxRecDepth 100000 in
theorem wc_yJ6_bitCount_0f7a4 : Cond.code yJ6_bitCount_0f7a4 cJ6_bitCount_0f7a4 1 (some .int) ∈ gW := gW_t5 24 rfl rfl
set_option maxRecDepth 100000 in
theorem wi_java_lang_Integer : Cond.initialized RJ6 ∈ gW := gW_t1 16 rfl rfl
theorem cv_RX6_312 : CV RX6 312 yJ6_bitCount_0f7a4 cJ6_bitCount_0f7a4 1 (some .int) 1 := ⟨wm_RX6_312, wc_yJ6_bitCount_0f7a4, wi_java_lang_Integer, ⟨by decide, by decide⟩, by decide +kernel⟩
set_option maxRecDepth 100000 in
theorem ws_yJ6_bitCount_0f7a4 : Cond.static yJ6_bitCount_0f7a4 ∈ gW := gW_t5 23 rfl rfl
set_option maxRecDepth 100000 in
theorem wm_RX6_309 : Cond.methodLink RX6 309 yX1_doneWorks ∈ gW := gW_t5 21 rfl rfl
theorem cv_RX6_309 : CV RX6 309 yX1_doneWorks cX1_doneWorks 3 (some .int) 0 := ⟨wm_RX6_309, wc_yX1_doneWorks, wi_TwoWidths_Land, ⟨by decide, by decide⟩, by decide +kernel⟩
set_option maxRecDepth 100000 in
theorem wm_RX6_317 : Cond.methodLink RX6 317 yX2_inUse ∈ gW := gW_t5 28 rfl rfl
set_option maxRecDepth 100000 in
theorem wc_yX2_inUse : Cond.code yX2_inUse cX2_inUse 3 (some .int) ∈ gW := gW_t5 31 rfl rfl
theorem cv_RX6_317 : CV RX6 317 yX2_inUse cX2_inUse 3 (some .int) 0 := ⟨wm_RX6_317, wc_yX2_inUse, wi_TwoWidths_Shelves, ⟨by decide, by decide⟩, by decide +kernel⟩
set_option maxRecDepth 100000 in
theorem wn_yX2_inUse : Cond.instanceMethod yX2_inUse ∈ gW := gW_t5 29 rfl rfl
set_option maxRecDepth 100000 in
theorem wv_yX2_inUse : Cond.selects RX2 yX2_inUse yX2_inUse ∈ gW := gW_t5 30 rfl rfl
theorem iv_yX2_inUse : Cond.instanceMethod yX2_inUse ∈ gW ∧ Cond.selects yX2_inUse.cls yX2_inUse yX2_inUse ∈ gW := ⟨wn_yX2_inUse, wv_yX2_inUse⟩
set_option maxRecDepth 100000 in
theorem wm_RX1_3 : Cond.methodLink RX1 3 Lib.objectInit ∈ gW := gW_t1 30 rfl rfl
set_option maxRecDepth 100000 in
theorem wn_object : Cond.instanceMethod Lib.objectInit ∈ gW := gW_t1 23 rfl rfl
set_option maxRecDepth 100000 in
theorem wc_object : Cond.code Lib.objectInit ⟨#[0xb1]⟩ 1 none ∈ gW := gW_t1 24 (by decide +kernel) rfl
theorem oi_RX1_3 : Cond.methodLink RX1 3 Lib.objectInit ∈ gW ∧ Cond.instanceMethod Lib.objectInit ∈ gW ∧ Cond.code Lib.objectInit ⟨#[0xb1]⟩ 1 none ∈ gW := ⟨wm_RX1_3, wn_object, wc_object⟩
set_option maxRecDepth 100000 in
theorem wac_int : Cond.arrayClass .int ∈ gW := gW_t1 86 rfl rfl
theorem fp_RX1_9 : FP RX1 9 1 4 (.array .int) true := ⟨RX1, TX1, 11, tyX1, rfl, by decide, wf_RX1_9, wl_X1, tyX1_ok, nmX1, rfl, by decide +kernel, fun h => by first | rfl | cases h⟩
theorem fp_RX1_15 : FP RX1 15 1 5 (.array .int) true := ⟨RX1, TX1, 11, tyX1, rfl, by decide, wf_RX1_15, wl_X1, tyX1_ok, nmX1, rfl, by decide +kernel, fun h => by first | rfl | cases h⟩
theorem fp_RX1_18 : FP RX1 18 1 6 (.array .int) true := ⟨RX1, TX1, 11, tyX1, rfl, by decide, wf_RX1_18, wl_X1, tyX1_ok, nmX1, rfl, by decide +kernel, fun h => by first | rfl | cases h⟩
theorem fp_RX1_21 : FP RX1 21 1 7 (.array .int) true := ⟨RX1, TX1, 11, tyX1, rfl, by decide, wf_RX1_21, wl_X1, tyX1_ok, nmX1, rfl, by decide +kernel, fun h => by first | rfl | cases h⟩
theorem fp_RX1_24 : FP RX1 24 1 8 (.array .int) true := ⟨RX1, TX1, 11, tyX1, rfl, by decide, wf_RX1_24, wl_X1, tyX1_ok, nmX1, rfl, by decide +kernel, fun h => by first | rfl | cases h⟩
theorem fp_RX1_27 : FP RX1 27 1 9 (.array .int) true := ⟨RX1, TX1, 11, tyX1, rfl, by decide, wf_RX1_27, wl_X1, tyX1_ok, nmX1, rfl, by decide +kernel, fun h => by first | rfl | cases h⟩
set_option maxRecDepth 100000 in
theorem wm_RX3_3 : Cond.methodLink RX3 3 Lib.objectInit ∈ gW := gW_t1 92 rfl rfl
theorem oi_RX3_3 : Cond.methodLink RX3 3 Lib.objectInit ∈ gW ∧ Cond.instanceMethod Lib.objectInit ∈ gW ∧ Cond.code Lib.objectInit ⟨#[0xb1]⟩ 1 none ∈ gW := ⟨wm_RX3_3, wn_object, wc_object⟩
theorem fp_RX3_11 : FP RX3 11 3 0 (.array .int) true := ⟨RX3, TX3, 6, tyX3, rfl, by decide, wf_RX3_11, wl_X3, tyX3_ok, nmX3, rfl, by decide +kernel, fun h => by first | rfl | cases h⟩
set_option maxRecDepth 100000 in
theorem wm_RX2_3 : Cond.methodLink RX2 3 Lib.objectInit ∈ gW := gW_t1 118 rfl rfl
theorem oi_RX2_3 : Cond.methodLink RX2 3 Lib.objectInit ∈ gW ∧ Cond.instanceMethod Lib.objectInit ∈ gW ∧ Cond.code Lib.objectInit ⟨#[0xb1]⟩ 1 none ∈ gW := ⟨wm_RX2_3, wn_object, wc_object⟩
set_option maxRecDepth 100000 in
theorem wac_long : Cond.arrayClass .long ∈ gW := gW_t1 135 rfl rfl
set_option maxRecDepth 100000 in
theorem wcl_RX2_11 : Cond.classLink RX2 11 "[[J" ∈ gW := gW_t1 119 rfl rfl
theorem fp_RX2_13 : FP RX2 13 2 0 (.array (.array .long)) true := ⟨RX2, TX2, 3, tyX2, rfl, by decide, wf_RX2_13, wl_X2, tyX2_ok, nmX2, rfl, by decide +kernel, fun h => by first | rfl | cases h⟩
theorem fp_RX2_16 : FP RX2 16 2 1 (.array .int) true := ⟨RX2, TX2, 3, tyX2, rfl, by decide, wf_RX2_16, wl_X2, tyX2_ok, nmX2, rfl, by decide +kernel, fun h => by first | rfl | cases h⟩
theorem fp_RX2_20 : FP RX2 20 2 2 (.array .int) true := ⟨RX2, TX2, 3, tyX2, rfl, by decide, wf_RX2_20, wl_X2, tyX2_ok, nmX2, rfl, by decide +kernel, fun h => by first | rfl | cases h⟩
set_option maxRecDepth 100000 in
theorem wm_RX2_23 : Cond.methodLink RX2 23 yJ7_fill_53178 ∈ gW := gW_t1 121 rfl rfl
theorem cv_RX2_23 : CV RX2 23 yJ7_fill_53178 cJ7_fill_53178 4 none 2 := ⟨wm_RX2_23, wc_yJ7_fill_53178, wi_java_util_Arrays, ⟨by decide, by decide⟩, by decide +kernel⟩
set_option maxRecDepth 100000 in
theorem wm_RX5_3 : Cond.methodLink RX5 3 Lib.objectInit ∈ gW := gW_t1 153 rfl rfl
theorem oi_RX5_3 : Cond.methodLink RX5 3 Lib.objectInit ∈ gW ∧ Cond.instanceMethod Lib.objectInit ∈ gW ∧ Cond.code Lib.objectInit ⟨#[0xb1]⟩ 1 none ∈ gW := ⟨wm_RX5_3, wn_object, wc_object⟩
theorem fp_RX5_9 : FP RX5 9 5 0 (.array .int) true := ⟨RX5, TX5, 14, tyX5, rfl, by decide, wf_RX5_9, wl_X5, tyX5_ok, nmX5, rfl, by decide +kernel, fun h => by first | rfl | cases h⟩
theorem fp_RX5_15 : FP RX5 15 5 1 (.array .int) true := ⟨RX5, TX5, 14, tyX5, rfl, by decide, wf_RX5_15, wl_X5, tyX5_ok, nmX5, rfl, by decide +kernel, fun h => by first | rfl | cases h⟩
theorem fp_RX5_18 : FP RX5 18 5 2 (.array .int) true := ⟨RX5, TX5, 14, tyX5, rfl, by decide, wf_RX5_18, wl_X5, tyX5_ok, nmX5, rfl, by decide +kernel, fun h => by first | rfl | cases h⟩
theorem fp_RX5_21 : FP RX5 21 5 3 (.array .int) true := ⟨RX5, TX5, 14, tyX5, rfl, by decide, wf_RX5_21, wl_X5, tyX5_ok, nmX5, rfl, by decide +kernel, fun h => by first | rfl | cases h⟩
theorem fp_RX5_24 : FP RX5 24 5 4 (.array .int) true := ⟨RX5, TX5, 14, tyX5, rfl, by decide, wf_RX5_24, wl_X5, tyX5_ok, nmX5, rfl, by decide +kernel, fun h => by first | rfl | cases h⟩
theorem fp_RX5_27 : FP RX5 27 5 5 (.array .int) true := ⟨RX5, TX5, 14, tyX5, rfl, by decide, wf_RX5_27, wl_X5, tyX5_ok, nmX5, rfl, by decide +kernel, fun h => by first | rfl | cases h⟩
theorem fp_RX5_30 : FP RX5 30 5 6 (.array .int) true := ⟨RX5, TX5, 14, tyX5, rfl, by decide, wf_RX5_30, wl_X5, tyX5_ok, nmX5, rfl, by decide +kernel, fun h => by first | rfl | cases h⟩
theorem fp_RX5_33 : FP RX5 33 5 7 (.array .int) true := ⟨RX5, TX5, 14, tyX5, rfl, by decide, wf_RX5_33, wl_X5, tyX5_ok, nmX5, rfl, by decide +kernel, fun h => by first | rfl | cases h⟩
theorem fp_RX5_36 : FP RX5 36 5 9 (.array .int) true := ⟨RX5, TX5, 14, tyX5, rfl, by decide, wf_RX5_36, wl_X5, tyX5_ok, nmX5, rfl, by decide +kernel, fun h => by first | rfl | cases h⟩
set_option maxRecDepth 100000 in
theorem wm_RX4_3 : Cond.methodLink RX4 3 Lib.objectInit ∈ gW := gW_t1 147 rfl rfl
theorem oi_RX4_3 : Cond.methodLink RX4 3 Lib.objectInit ∈ gW ∧ Cond.instanceMethod Lib.objectInit ∈ gW ∧ Cond.code Lib.objectInit ⟨#[0xb1]⟩ 1 none ∈ gW := ⟨wm_RX4_3, wn_object, wc_object⟩
set_option maxRecDepth 100000 in
theorem wcl_RX4_9 : Cond.classLink RX4 9 "TwoWidths$Ways" ∈ gW := gW_t1 148 rfl rfl
set_option maxRecDepth 100000 in
theorem win_X5 : Cond.instantiable RX5 14 ∈ gW := gW_t1 149 rfl rfl
theorem df_X5 : ∀ j, j < 14 → defaultValue (tyX5 j) = vp_V [.null, .null, .null, .null, .null, .null, .null, .null, .int 0, .null, .int 0, .long 0, .int 0, .int 0] j := by decide +kernel
theorem nw_RX4_9 : Cond.classLink RX4 9 RX5 ∈ gW ∧ Cond.instantiable RX5 14 ∈ gW ∧ Cond.initialized RX5 ∈ gW ∧ ∀ w ∈ u_ws RX5 TX5 14, w ∈ gW := ⟨wcl_RX4_9, win_X5, wi_TwoWidths_Ways, wl_X5⟩
set_option maxRecDepth 100000 in
theorem wn_yX5_init : Cond.instanceMethod yX5_init ∈ gW := gW_t1 151 rfl rfl
set_option maxRecDepth 100000 in
theorem wm_RX4_11 : Cond.methodLink RX4 11 yX5_init ∈ gW := gW_t1 150 rfl rfl
set_option maxRecDepth 100000 in
theorem wc_yX5_init : Cond.code yX5_init cX5_init 1 none ∈ gW := gW_t1 152 rfl rfl
theorem cv_RX4_11 : CV RX4 11 yX5_init cX5_init 1 none 0 := ⟨wm_RX4_11, wc_yX5_init, wi_TwoWidths_Ways, ⟨by decide, by decide⟩, by decide +kernel⟩
theorem fp_RX4_12 : FP RX4 12 4 0 (.object "TwoWidths$Ways") true := ⟨RX4, TX4, 5, tyX4, rfl, by decide, wf_RX4_12, wl_X4, tyX4_ok, nmX4, rfl, by decide +kernel, fun h => by first | rfl | cases h⟩
theorem fp_RX4_18 : FP RX4 18 4 1 (.array .int) true := ⟨RX4, TX4, 5, tyX4, rfl, by decide, wf_RX4_18, wl_X4, tyX4_ok, nmX4, rfl, by decide +kernel, fun h => by first | rfl | cases h⟩
set_option maxRecDepth 100000 in
theorem wf_RX4_22 : Cond.fieldLink RX4 22 "TwoWidths$Traffic" "earned" "[I" ∈ gW := gW_t1 203 rfl rfl
theorem fp_RX4_22 : FP RX4 22 4 2 (.array .int) true := ⟨RX4, TX4, 5, tyX4, rfl, by decide, wf_RX4_22, wl_X4, tyX4_ok, nmX4, rfl, by decide +kernel, fun h => by first | rfl | cases h⟩
set_option maxRecDepth 100000 in
theorem wm_RX0_3 : Cond.methodLink RX0 3 Lib.objectInit ∈ gW := gW_t1 141 rfl rfl
theorem oi_RX0_3 : Cond.methodLink RX0 3 Lib.objectInit ∈ gW ∧ Cond.instanceMethod Lib.objectInit ∈ gW ∧ Cond.code Lib.objectInit ⟨#[0xb1]⟩ 1 none ∈ gW := ⟨wm_RX0_3, wn_object, wc_object⟩
set_option maxRecDepth 100000 in
theorem wcl_RX0_9 : Cond.classLink RX0 9 "TwoWidths$Traffic" ∈ gW := gW_t1 142 rfl rfl
set_option maxRecDepth 100000 in
theorem win_X4 : Cond.instantiable RX4 5 ∈ gW := gW_t1 143 rfl rfl
theorem df_X4 : ∀ j, j < 5 → defaultValue (tyX4 j) = vp_V [.null, .null, .null, .int 0, .int 0] j := by decide +kernel
theorem nw_RX0_9 : Cond.classLink RX0 9 RX4 ∈ gW ∧ Cond.instantiable RX4 5 ∈ gW ∧ Cond.initialized RX4 ∈ gW ∧ ∀ w ∈ u_ws RX4 TX4 5, w ∈ gW := ⟨wcl_RX0_9, win_X4, wi_TwoWidths_Traffic, wl_X4⟩
set_option maxRecDepth 100000 in
theorem wn_yX4_init : Cond.instanceMethod yX4_init ∈ gW := gW_t1 145 rfl rfl
set_option maxRecDepth 100000 in
theorem wm_RX0_11 : Cond.methodLink RX0 11 yX4_init ∈ gW := gW_t1 144 rfl rfl
set_option maxRecDepth 100000 in
theorem wc_yX4_init : Cond.code yX4_init cX4_init 1 none ∈ gW := gW_t1 146 rfl rfl
theorem cv_RX0_11 : CV RX0 11 yX4_init cX4_init 1 none 0 := ⟨wm_RX0_11, wc_yX4_init, wi_TwoWidths_Traffic, ⟨by decide, by decide⟩, by decide +kernel⟩
theorem fp_RX0_12 : FP RX0 12 0 0 (.object "TwoWidths$Traffic") true := ⟨RX0, TX0, 4, tyX0, rfl, by decide, wf_RX0_12, wl_X0, tyX0_ok, nmX0, rfl, by decide +kernel, fun h => by first | rfl | cases h⟩
set_option maxRecDepth 100000 in
theorem wcl_RX0_18 : Cond.classLink RX0 18 "TwoWidths$Land" ∈ gW := gW_t1 221 rfl rfl
set_option maxRecDepth 100000 in
theorem win_X1 : Cond.instantiable RX1 11 ∈ gW := gW_t1 26 rfl rfl
theorem df_X1 : ∀ j, j < 11 → defaultValue (tyX1 j) = vp_V [.int 0, .int 0, .int 0, .int 0, .null, .null, .null, .null, .null, .null, .int 0] j := by decide +kernel
theorem nw_RX0_18 : Cond.classLink RX0 18 RX1 ∈ gW ∧ Cond.instantiable RX1 11 ∈ gW ∧ Cond.initialized RX1 ∈ gW ∧ ∀ w ∈ u_ws RX1 TX1 11, w ∈ gW := ⟨wcl_RX0_18, win_X1, wi_TwoWidths_Land, wl_X1⟩
set_option maxRecDepth 100000 in
theorem wn_yX1_init : Cond.instanceMethod yX1_init ∈ gW := gW_t1 28 rfl rfl
set_option maxRecDepth 100000 in
theorem wm_RX0_20 : Cond.methodLink RX0 20 yX1_init ∈ gW := gW_t1 222 rfl rfl
set_option maxRecDepth 100000 in
theorem wc_yX1_init : Cond.code yX1_init cX1_init 1 none ∈ gW := gW_t1 29 rfl rfl
theorem cv_RX0_20 : CV RX0 20 yX1_init cX1_init 1 none 0 := ⟨wm_RX0_20, wc_yX1_init, wi_TwoWidths_Land, ⟨by decide, by decide⟩, by decide +kernel⟩
theorem fp_RX0_21 : FP RX0 21 0 1 (.object "TwoWidths$Land") true := ⟨RX0, TX0, 4, tyX0, rfl, by decide, wf_RX0_21, wl_X0, tyX0_ok, nmX0, rfl, by decide +kernel, fun h => by first | rfl | cases h⟩
theorem fp_RX0_25 : FP RX0 25 0 2 (.array .int) true := ⟨RX0, TX0, 4, tyX0, rfl, by decide, wf_RX0_25, wl_X0, tyX0_ok, nmX0, rfl, by decide +kernel, fun h => by first | rfl | cases h⟩
theorem fp_RX0_29 : FP RX0 29 0 3 (.object "TwoWidths$Land") true := ⟨RX0, TX0, 4, tyX0, rfl, by decide, wf_RX0_29, wl_X0, tyX0_ok, nmX0, rfl, by decide +kernel, fun h => by first | rfl | cases h⟩
set_option maxRecDepth 100000 in
theorem wm_RX6_3 : Cond.methodLink RX6 3 Lib.objectInit ∈ gW := gW_t1 22 rfl rfl
theorem oi_RX6_3 : Cond.methodLink RX6 3 Lib.objectInit ∈ gW ∧ Cond.instanceMethod Lib.objectInit ∈ gW ∧ Cond.code Lib.objectInit ⟨#[0xb1]⟩ 1 none ∈ gW := ⟨wm_RX6_3, wn_object, wc_object⟩
set_option maxRecDepth 100000 in
theorem wcl_RX6_9 : Cond.classLink RX6 9 "TwoWidths$Land" ∈ gW := gW_t1 25 rfl rfl
theorem nw_RX6_9 : Cond.classLink RX6 9 RX1 ∈ gW ∧ Cond.instantiable RX1 11 ∈ gW ∧ Cond.initialized RX1 ∈ gW ∧ ∀ w ∈ u_ws RX1 TX1 11, w ∈ gW := ⟨wcl_RX6_9, win_X1, wi_TwoWidths_Land, wl_X1⟩
set_option maxRecDepth 100000 in
theorem wm_RX6_11 : Cond.methodLink RX6 11 yX1_init ∈ gW := gW_t1 27 rfl rfl
theorem cv_RX6_11 : CV RX6 11 yX1_init cX1_init 1 none 0 := ⟨wm_RX6_11, wc_yX1_init, wi_TwoWidths_Land, ⟨by decide, by decide⟩, by decide +kernel⟩
theorem fp_RX6_12 : FP RX6 12 6 0 (.object "TwoWidths$Land") true := ⟨RX6, TX6, 10, tyX6, rfl, by decide, wf_RX6_12, wl_X6, tyX6_ok, nmX6, rfl, by decide +kernel, fun h => by first | rfl | cases h⟩
theorem fp_RX6_16 : FP RX6 16 6 1 (.object "TwoWidths$Land") true := ⟨RX6, TX6, 10, tyX6, rfl, by decide, wf_RX6_16, wl_X6, tyX6_ok, nmX6, rfl, by decide +kernel, fun h => by first | rfl | cases h⟩
set_option maxRecDepth 100000 in
theorem wcl_RX6_19 : Cond.classLink RX6 19 "TwoWidths$Tape" ∈ gW := gW_t1 87 rfl rfl
set_option maxRecDepth 100000 in
theorem win_X3 : Cond.instantiable RX3 6 ∈ gW := gW_t1 88 rfl rfl
theorem df_X3 : ∀ j, j < 6 → defaultValue (tyX3 j) = vp_V [.null, .int 0, .int 0, .int 0, .int 0, .int 0] j := by decide +kernel
theorem nw_RX6_19 : Cond.classLink RX6 19 RX3 ∈ gW ∧ Cond.instantiable RX3 6 ∈ gW ∧ Cond.initialized RX3 ∈ gW ∧ ∀ w ∈ u_ws RX3 TX3 6, w ∈ gW := ⟨wcl_RX6_19, win_X3, wi_TwoWidths_Tape, wl_X3⟩
set_option maxRecDepth 100000 in
theorem wn_yX3_init : Cond.instanceMethod yX3_init ∈ gW := gW_t1 90 rfl rfl
set_option maxRecDepth 100000 in
theorem wm_RX6_21 : Cond.methodLink RX6 21 yX3_init ∈ gW := gW_t1 89 rfl rfl
set_option maxRecDepth 100000 in
theorem wc_yX3_init : Cond.code yX3_init cX3_init 1 none ∈ gW := gW_t1 91 rfl rfl
theorem cv_RX6_21 : CV RX6 21 yX3_init cX3_init 1 none 0 := ⟨wm_RX6_21, wc_yX3_init, wi_TwoWidths_Tape, ⟨by decide, by decide⟩, by decide +kernel⟩
theorem fp_RX6_22 : FP RX6 22 6 2 (.object "TwoWidths$Tape") true := ⟨RX6, TX6, 10, tyX6, rfl, by decide, wf_RX6_22, wl_X6, tyX6_ok, nmX6, rfl, by decide +kernel, fun h => by first | rfl | cases h⟩
set_option maxRecDepth 100000 in
theorem wcl_RX6_26 : Cond.classLink RX6 26 "TwoWidths$Shelves" ∈ gW := gW_t1 113 rfl rfl
set_option maxRecDepth 100000 in
theorem win_X2 : Cond.instantiable RX2 3 ∈ gW := gW_t1 114 rfl rfl
theorem df_X2 : ∀ j, j < 3 → defaultValue (tyX2 j) = vp_V [.null, .null, .null] j := by decide +kernel
theorem nw_RX6_26 : Cond.classLink RX6 26 RX2 ∈ gW ∧ Cond.instantiable RX2 3 ∈ gW ∧ Cond.initialized RX2 ∈ gW ∧ ∀ w ∈ u_ws RX2 TX2 3, w ∈ gW := ⟨wcl_RX6_26, win_X2, wi_TwoWidths_Shelves, wl_X2⟩
set_option maxRecDepth 100000 in
theorem wn_yX2_init : Cond.instanceMethod yX2_init ∈ gW := gW_t1 116 rfl rfl
set_option maxRecDepth 100000 in
theorem wm_RX6_28 : Cond.methodLink RX6 28 yX2_init ∈ gW := gW_t1 115 rfl rfl
set_option maxRecDepth 100000 in
theorem wc_yX2_init : Cond.code yX2_init cX2_init 1 none ∈ gW := gW_t1 117 rfl rfl
theorem cv_RX6_28 : CV RX6 28 yX2_init cX2_init 1 none 0 := ⟨wm_RX6_28, wc_yX2_init, wi_TwoWidths_Shelves, ⟨by decide, by decide⟩, by decide +kernel⟩
theorem fp_RX6_29 : FP RX6 29 6 3 (.object "TwoWidths$Shelves") true := ⟨RX6, TX6, 10, tyX6, rfl, by decide, wf_RX6_29, wl_X6, tyX6_ok, nmX6, rfl, by decide +kernel, fun h => by first | rfl | cases h⟩
set_option maxRecDepth 100000 in
theorem wcl_RX6_33 : Cond.classLink RX6 33 "TwoWidths$Choice" ∈ gW := gW_t1 136 rfl rfl
set_option maxRecDepth 100000 in
theorem win_X0 : Cond.instantiable RX0 4 ∈ gW := gW_t1 137 rfl rfl
theorem df_X0 : ∀ j, j < 4 → defaultValue (tyX0 j) = vp_V [.null, .null, .null, .null] j := by decide +kernel
theorem nw_RX6_33 : Cond.classLink RX6 33 RX0 ∈ gW ∧ Cond.instantiable RX0 4 ∈ gW ∧ Cond.initialized RX0 ∈ gW ∧ ∀ w ∈ u_ws RX0 TX0 4, w ∈ gW := ⟨wcl_RX6_33, win_X0, wi_TwoWidths_Choice, wl_X0⟩
set_option maxRecDepth 100000 in
theorem wn_yX0_init : Cond.instanceMethod yX0_init ∈ gW := gW_t1 139 rfl rfl
set_option maxRecDepth 100000 in
theorem wm_RX6_35 : Cond.methodLink RX6 35 yX0_init ∈ gW := gW_t1 138 rfl rfl
set_option maxRecDepth 100000 in
theorem wc_yX0_init : Cond.code yX0_init cX0_init 1 none ∈ gW := gW_t1 140 rfl rfl
theorem cv_RX6_35 : CV RX6 35 yX0_init cX0_init 1 none 0 := ⟨wm_RX6_35, wc_yX0_init, wi_TwoWidths_Choice, ⟨by decide, by decide⟩, by decide +kernel⟩
theorem fp_RX6_36 : FP RX6 36 6 4 (.object "TwoWidths$Choice") true := ⟨RX6, TX6, 10, tyX6, rfl, by decide, wf_RX6_36, wl_X6, tyX6_ok, nmX6, rfl, by decide +kernel, fun h => by first | rfl | cases h⟩
set_option maxRecDepth 100000 in
theorem wf_RX6_40 : Cond.fieldLink RX6 40 "TwoWidths$Choice" "traffic" "LTwoWidths$Traffic;" ∈ gW := gW_t1 224 rfl rfl
theorem fo_RX6_40 : FO RX6 40 0 0 := ⟨RX0, TX0, 4, rfl, by decide, wf_RX6_40, wl_X0⟩
theorem fp_RX6_44 : FP RX6 44 6 5 (.object "TwoWidths$Traffic") true := ⟨RX6, TX6, 10, tyX6, rfl, by decide, wf_RX6_44, wl_X6, tyX6_ok, nmX6, rfl, by decide +kernel, fun h => by first | rfl | cases h⟩
theorem fp_RX6_45 : FP RX6 45 6 6 (.array .int) true := ⟨RX6, TX6, 10, tyX6, rfl, by decide, wf_RX6_45, wl_X6, tyX6_ok, nmX6, rfl, by decide +kernel, fun h => by first | rfl | cases h⟩
set_option maxRecDepth 100000 in
theorem wm_RX7_1 : Cond.methodLink RX7 1 Lib.objectInit ∈ gW := gW_t5 37 rfl rfl
theorem oi_RX7_1 : Cond.methodLink RX7 1 Lib.objectInit ∈ gW ∧ Cond.instanceMethod Lib.objectInit ∈ gW ∧ Cond.code Lib.objectInit ⟨#[0xb1]⟩ 1 none ∈ gW := ⟨wm_RX7_1, wn_object, wc_object⟩
set_option maxRecDepth 100000 in
theorem wf_RX7_7 : Cond.fieldLink RX7 7 "TwoWidthsModel" "shelf" "[I" ∈ gW := gW_t5 41 rfl rfl
theorem wl_X7 : ∀ w ∈ u_ws RX7 TX7 38, w ∈ gW := gW_all [1108, 1110, 1112, 1114, 1116, 1118, 1120, 1122, 1124, 1126, 1128, 1130, 1132, 1134, 1136, 1138, 1140, 1142, 1144, 1146, 1148, 1150, 1152, 1154, 1156, 1158, 1160, 1162, 1164, 1166, 1168, 1170, 1172, 1174, 1176, 1178, 1180, 1182] (by decide +kernel) (by decide +kernel)
theorem fp_RX7_7 : FP RX7 7 7 0 (.array .int) true := ⟨RX7, TX7, 38, tyX7, rfl, by decide, wf_RX7_7, wl_X7, tyX7_ok, nmX7, rfl, by decide +kernel, fun h => by first | rfl | cases h⟩
set_option maxRecDepth 100000 in
theorem wf_RX7_13 : Cond.fieldLink RX7 13 "TwoWidthsModel" "rowSort" "[I" ∈ gW := gW_t5 42 rfl rfl
theorem fp_RX7_13 : FP RX7 13 7 1 (.array .int) true := ⟨RX7, TX7, 38, tyX7, rfl, by decide, wf_RX7_13, wl_X7, tyX7_ok, nmX7, rfl, by decide +kernel, fun h => by first | rfl | cases h⟩
set_option maxRecDepth 100000 in
theorem wf_RX7_16 : Cond.fieldLink RX7 16 "TwoWidthsModel" "rowSize" "[I" ∈ gW := gW_t5 43 rfl rfl
theorem fp_RX7_16 : FP RX7 16 7 2 (.array .int) true := ⟨RX7, TX7, 38, tyX7, rfl, by decide, wf_RX7_16, wl_X7, tyX7_ok, nmX7, rfl, by decide +kernel, fun h => by first | rfl | cases h⟩
set_option maxRecDepth 100000 in
theorem wcl_RX7_19 : Cond.classLink RX7 19 "[[J" ∈ gW := gW_t5 38 rfl rfl
set_option maxRecDepth 100000 in
theorem wf_RX7_21 : Cond.fieldLink RX7 21 "TwoWidthsModel" "rows" "[[J" ∈ gW := gW_t5 44 rfl rfl
theorem fp_RX7_21 : FP RX7 21 7 3 (.array (.array .long)) true := ⟨RX7, TX7, 38, tyX7, rfl, by decide, wf_RX7_21, wl_X7, tyX7_ok, nmX7, rfl, by decide +kernel, fun h => by first | rfl | cases h⟩
set_option maxRecDepth 100000 in
theorem wf_RX7_24 : Cond.fieldLink RX7 24 "TwoWidthsModel" "moved" "[J" ∈ gW := gW_t5 45 rfl rfl
theorem fp_RX7_24 : FP RX7 24 7 4 (.array .long) true := ⟨RX7, TX7, 38, tyX7, rfl, by decide, wf_RX7_24, wl_X7, tyX7_ok, nmX7, rfl, by decide +kernel, fun h => by first | rfl | cases h⟩
set_option maxRecDepth 100000 in
theorem wf_RX7_28 : Cond.fieldLink RX7 28 "TwoWidthsModel" "shown" "[I" ∈ gW := gW_t5 46 rfl rfl
theorem fp_RX7_28 : FP RX7 28 7 5 (.array .int) true := ⟨RX7, TX7, 38, tyX7, rfl, by decide, wf_RX7_28, wl_X7, tyX7_ok, nmX7, rfl, by decide +kernel, fun h => by first | rfl | cases h⟩
set_option maxRecDepth 100000 in
theorem wf_RX7_31 : Cond.fieldLink RX7 31 "TwoWidthsModel" "tape" "[I" ∈ gW := gW_t5 47 rfl rfl
theorem fp_RX7_31 : FP RX7 31 7 6 (.array .int) true := ⟨RX7, TX7, 38, tyX7, rfl, by decide, wf_RX7_31, wl_X7, tyX7_ok, nmX7, rfl, by decide +kernel, fun h => by first | rfl | cases h⟩
set_option maxRecDepth 100000 in
theorem wf_RX7_34 : Cond.fieldLink RX7 34 "TwoWidthsModel" "refused" "[I" ∈ gW := gW_t5 49 rfl rfl
theorem fp_RX7_34 : FP RX7 34 7 8 (.array .int) true := ⟨RX7, TX7, 38, tyX7, rfl, by decide, wf_RX7_34, wl_X7, tyX7_ok, nmX7, rfl, by decide +kernel, fun h => by first | rfl | cases h⟩
set_option maxRecDepth 100000 in
theorem wcl_RX7_37 : Cond.classLink RX7 37 "[[I" ∈ gW := gW_t5 39 rfl rfl
set_option maxRecDepth 100000 in
theorem wf_RX7_39 : Cond.fieldLink RX7 39 "TwoWidthsModel" "line" "[[I" ∈ gW := gW_t5 51 rfl rfl
theorem fp_RX7_39 : FP RX7 39 7 10 (.array (.array .int)) true := ⟨RX7, TX7, 38, tyX7, rfl, by decide, wf_RX7_39, wl_X7, tyX7_ok, nmX7, rfl, by decide +kernel, fun h => by first | rfl | cases h⟩
set_option maxRecDepth 100000 in
theorem wf_RX7_42 : Cond.fieldLink RX7 42 "TwoWidthsModel" "changes" "[I" ∈ gW := gW_t5 52 rfl rfl
theorem fp_RX7_42 : FP RX7 42 7 11 (.array .int) true := ⟨RX7, TX7, 38, tyX7, rfl, by decide, wf_RX7_42, wl_X7, tyX7_ok, nmX7, rfl, by decide +kernel, fun h => by first | rfl | cases h⟩
set_option maxRecDepth 100000 in
theorem wf_RX7_45 : Cond.fieldLink RX7 45 "TwoWidthsModel" "coins" "[I" ∈ gW := gW_t5 53 rfl rfl
theorem fp_RX7_45 : FP RX7 45 7 12 (.array .int) true := ⟨RX7, TX7, 38, tyX7, rfl, by decide, wf_RX7_45, wl_X7, tyX7_ok, nmX7, rfl, by decide +kernel, fun h => by first | rfl | cases h⟩
set_option maxRecDepth 100000 in
theorem wf_RX7_48 : Cond.fieldLink RX7 48 "TwoWidthsModel" "good" "[[I" ∈ gW := gW_t5 55 rfl rfl
theorem fp_RX7_48 : FP RX7 48 7 14 (.array (.array .int)) true := ⟨RX7, TX7, 38, tyX7, rfl, by decide, wf_RX7_48, wl_X7, tyX7_ok, nmX7, rfl, by decide +kernel, fun h => by first | rfl | cases h⟩
set_option maxRecDepth 100000 in
theorem wf_RX7_51 : Cond.fieldLink RX7 51 "TwoWidthsModel" "work" "[[I" ∈ gW := gW_t5 57 rfl rfl
theorem fp_RX7_51 : FP RX7 51 7 16 (.array (.array .int)) true := ⟨RX7, TX7, 38, tyX7, rfl, by decide, wf_RX7_51, wl_X7, tyX7_ok, nmX7, rfl, by decide +kernel, fun h => by first | rfl | cases h⟩
set_option maxRecDepth 100000 in
theorem wf_RX7_54 : Cond.fieldLink RX7 54 "TwoWidthsModel" "years" "I" ∈ gW := gW_t5 58 rfl rfl
theorem fp_RX7_54 : FP RX7 54 7 17 .int false := ⟨RX7, TX7, 38, tyX7, rfl, by decide, wf_RX7_54, wl_X7, tyX7_ok, nmX7, rfl, by decide +kernel, fun h => by first | rfl | cases h⟩
set_option maxRecDepth 100000 in
theorem wf_RX7_58 : Cond.fieldLink RX7 58 "TwoWidthsModel" "numbers" "[I" ∈ gW := gW_t5 69 rfl rfl
theorem fp_RX7_58 : FP RX7 58 7 28 (.array .int) true := ⟨RX7, TX7, 38, tyX7, rfl, by decide, wf_RX7_58, wl_X7, tyX7_ok, nmX7, rfl, by decide +kernel, fun h => by first | rfl | cases h⟩
set_option maxRecDepth 100000 in
theorem wf_RX7_61 : Cond.fieldLink RX7 61 "TwoWidthsModel" "left" "[I" ∈ gW := gW_t5 71 rfl rfl
theorem fp_RX7_61 : FP RX7 61 7 30 (.array .int) true := ⟨RX7, TX7, 38, tyX7, rfl, by decide, wf_RX7_61, wl_X7, tyX7_ok, nmX7, rfl, by decide +kernel, fun h => by first | rfl | cases h⟩
set_option maxRecDepth 100000 in
theorem wf_RX7_64 : Cond.fieldLink RX7 64 "TwoWidthsModel" "far" "[I" ∈ gW := gW_t5 72 rfl rfl
theorem fp_RX7_64 : FP RX7 64 7 31 (.array .int) true := ⟨RX7, TX7, 38, tyX7, rfl, by decide, wf_RX7_64, wl_X7, tyX7_ok, nmX7, rfl, by decide +kernel, fun h => by first | rfl | cases h⟩
set_option maxRecDepth 100000 in
theorem wf_RX7_67 : Cond.fieldLink RX7 67 "TwoWidthsModel" "way" "[I" ∈ gW := gW_t5 74 rfl rfl
theorem fp_RX7_67 : FP RX7 67 7 33 (.array .int) true := ⟨RX7, TX7, 38, tyX7, rfl, by decide, wf_RX7_67, wl_X7, tyX7_ok, nmX7, rfl, by decide +kernel, fun h => by first | rfl | cases h⟩
set_option maxRecDepth 100000 in
theorem wf_RX7_70 : Cond.fieldLink RX7 70 "TwoWidthsModel" "queue" "[I" ∈ gW := gW_t5 77 rfl rfl
theorem fp_RX7_70 : FP RX7 70 7 36 (.array .int) true := ⟨RX7, TX7, 38, tyX7, rfl, by decide, wf_RX7_70, wl_X7, tyX7_ok, nmX7, rfl, by decide +kernel, fun h => by first | rfl | cases h⟩
set_option maxRecDepth 100000 in
theorem wf_RX7_73 : Cond.fieldLink RX7 73 "TwoWidthsModel" "totals" "[I" ∈ gW := gW_t5 78 rfl rfl
theorem fp_RX7_73 : FP RX7 73 7 37 (.array .int) true := ⟨RX7, TX7, 38, tyX7, rfl, by decide, wf_RX7_73, wl_X7, tyX7_ok, nmX7, rfl, by decide +kernel, fun h => by first | rfl | cases h⟩
theorem fo_RX7_42 : FO RX7 42 7 11 := ⟨RX7, TX7, 38, rfl, by decide, wf_RX7_42, wl_X7⟩
theorem fo_RX7_34 : FO RX7 34 7 8 := ⟨RX7, TX7, 38, rfl, by decide, wf_RX7_34, wl_X7⟩
set_option maxRecDepth 100000 in
theorem wk_RX7_76 : Cond.constantLong RX7 76 (11) ∈ gW := gW_t5 212 rfl rfl
set_option maxRecDepth 100000 in
theorem wm_RX7_78 : Cond.methodLink RX7 78 yX7_in ∈ gW := gW_t5 161 rfl rfl
set_option maxRecDepth 100000 in
theorem wc_yX7_in : Cond.code yX7_in cX7_in 6 (some .boolean) ∈ gW := gW_t5 163 rfl rfl
set_option maxRecDepth 100000 in
theorem wi_TwoWidthsModel : Cond.initialized RX7 ∈ gW := gW_t1 9 rfl rfl
theorem cv_RX7_78 : CV RX7 78 yX7_in cX7_in 6 (some .boolean) 3 := ⟨wm_RX7_78, wc_yX7_in, wi_TwoWidthsModel, ⟨by decide, by decide⟩, by decide +kernel⟩
set_option maxRecDepth 100000 in
theorem ws_yX7_in : Cond.static yX7_in ∈ gW := gW_t5 162 rfl rfl
set_option maxRecDepth 100000 in
theorem wf_RX7_82 : Cond.fieldLink RX7 82 "TwoWidthsModel" "lines" "I" ∈ gW := gW_t5 50 rfl rfl
theorem fo_RX7_82 : FO RX7 82 7 9 := ⟨RX7, TX7, 38, rfl, by decide, wf_RX7_82, wl_X7⟩
set_option maxRecDepth 100000 in
theorem wf_RX7_85 : Cond.fieldLink RX7 85 "TwoWidthsModel" "works" "I" ∈ gW := gW_t5 56 rfl rfl
theorem fo_RX7_85 : FO RX7 85 7 15 := ⟨RX7, TX7, 38, rfl, by decide, wf_RX7_85, wl_X7⟩
set_option maxRecDepth 100000 in
theorem wk_RX7_88 : Cond.constantLong RX7 88 (7) ∈ gW := gW_t5 160 rfl rfl
set_option maxRecDepth 100000 in
theorem wm_RX7_94 : Cond.methodLink RX7 94 yX7_refuse ∈ gW := gW_t5 166 rfl rfl
set_option maxRecDepth 100000 in
theorem wc_yX7_refuse : Cond.code yX7_refuse cX7_refuse 2 (some .int) ∈ gW := gW_t5 169 rfl rfl
theorem cv_RX7_94 : CV RX7 94 yX7_refuse cX7_refuse 2 (some .int) 1 := ⟨wm_RX7_94, wc_yX7_refuse, wi_TwoWidthsModel, ⟨by decide, by decide⟩, by decide +kernel⟩
set_option maxRecDepth 100000 in
theorem wn_yX7_refuse : Cond.instanceMethod yX7_refuse ∈ gW := gW_t5 168 rfl rfl
set_option maxRecDepth 100000 in
theorem wv_yX7_refuse : Cond.selects RX7 yX7_refuse yX7_refuse ∈ gW := gW_mem 33 rfl rfl
theorem iv_yX7_refuse : Cond.instanceMethod yX7_refuse ∈ gW ∧ Cond.selects yX7_refuse.cls yX7_refuse yX7_refuse ∈ gW := ⟨wn_yX7_refuse, wv_yX7_refuse⟩
set_option maxRecDepth 100000 in
theorem wk_RX7_90 : Cond.constantLong RX7 90 (4) ∈ gW := gW_t5 164 rfl rfl
set_option maxRecDepth 100000 in
theorem wk_RX7_92 : Cond.constantLong RX7 92 (40) ∈ gW := gW_t5 165 rfl rfl
theorem fo_RX7_7 : FO RX7 7 7 0 := ⟨RX7, TX7, 38, rfl, by decide, wf_RX7_7, wl_X7⟩
theorem fo_RX7_13 : FO RX7 13 7 1 := ⟨RX7, TX7, 38, rfl, by decide, wf_RX7_13, wl_X7⟩
theorem fo_RX7_16 : FO RX7 16 7 2 := ⟨RX7, TX7, 38, rfl, by decide, wf_RX7_16, wl_X7⟩
theorem fo_RX7_21 : FO RX7 21 7 3 := ⟨RX7, TX7, 38, rfl, by decide, wf_RX7_21, wl_X7⟩
set_option maxRecDepth 100000 in
theorem wm_RX7_98 : Cond.methodLink RX7 98 yX7_fit ∈ gW := gW_t5 174 rfl rfl
set_option maxRecDepth 100000 in
theorem wc_yX7_fit : Cond.code yX7_fit cX7_fit 3 (some .long) ∈ gW := gW_t5 176 rfl rfl
theorem cv_RX7_98 : CV RX7 98 yX7_fit cX7_fit 3 (some .long) 2 := ⟨wm_RX7_98, wc_yX7_fit, wi_TwoWidthsModel, ⟨by decide, by decide⟩, by decide +kernel⟩
set_option maxRecDepth 100000 in
theorem ws_yX7_fit : Cond.static yX7_fit ∈ gW := gW_t5 175 rfl rfl
theorem fo_RX7_24 : FO RX7 24 7 4 := ⟨RX7, TX7, 38, rfl, by decide, wf_RX7_24, wl_X7⟩
theorem fo_RX7_28 : FO RX7 28 7 5 := ⟨RX7, TX7, 38, rfl, by decide, wf_RX7_28, wl_X7⟩
set_option maxRecDepth 100000 in
theorem wm_RX7_102 : Cond.methodLink RX7 102 yX7_isWork ∈ gW := gW_t5 193 rfl rfl
set_option maxRecDepth 100000 in
theorem wc_yX7_isWork : Cond.code yX7_isWork cX7_isWork 2 (some .boolean) ∈ gW := gW_t5 196 rfl rfl
theorem cv_RX7_102 : CV RX7 102 yX7_isWork cX7_isWork 2 (some .boolean) 1 := ⟨wm_RX7_102, wc_yX7_isWork, wi_TwoWidthsModel, ⟨by decide, by decide⟩, by decide +kernel⟩
set_option maxRecDepth 100000 in
theorem wn_yX7_isWork : Cond.instanceMethod yX7_isWork ∈ gW := gW_t5 195 rfl rfl
set_option maxRecDepth 100000 in
theorem wv_yX7_isWork : Cond.selects RX7 yX7_isWork yX7_isWork ∈ gW := gW_mem 34 rfl rfl
theorem iv_yX7_isWork : Cond.instanceMethod yX7_isWork ∈ gW ∧ Cond.selects yX7_isWork.cls yX7_isWork yX7_isWork ∈ gW := ⟨wn_yX7_isWork, wv_yX7_isWork⟩
set_option maxRecDepth 100000 in
theorem wk_RX7_106 : Cond.constantLong RX7 106 (5) ∈ gW := gW_t5 201 rfl rfl
theorem fo_RX7_51 : FO RX7 51 7 16 := ⟨RX7, TX7, 38, rfl, by decide, wf_RX7_51, wl_X7⟩
set_option maxRecDepth 100000 in
theorem wm_RX7_108 : Cond.methodLink RX7 108 yX7_isUnder ∈ gW := gW_t5 202 rfl rfl
set_option maxRecDepth 100000 in
theorem wc_yX7_isUnder : Cond.code yX7_isUnder cX7_isUnder 2 (some .boolean) ∈ gW := gW_t5 204 rfl rfl
theorem cv_RX7_108 : CV RX7 108 yX7_isUnder cX7_isUnder 2 (some .boolean) 2 := ⟨wm_RX7_108, wc_yX7_isUnder, wi_TwoWidthsModel, ⟨by decide, by decide⟩, by decide +kernel⟩
set_option maxRecDepth 100000 in
theorem ws_yX7_isUnder : Cond.static yX7_isUnder ∈ gW := gW_t5 203 rfl rfl
theorem fo_RX7_39 : FO RX7 39 7 10 := ⟨RX7, TX7, 38, rfl, by decide, wf_RX7_39, wl_X7⟩
set_option maxRecDepth 100000 in
theorem wk_RX7_117 : Cond.constantLong RX7 117 (999) ∈ gW := gW_t5 214 rfl rfl
theorem fp_RX7_82 : FP RX7 82 7 9 .int false := ⟨RX7, TX7, 38, tyX7, rfl, by decide, wf_RX7_82, wl_X7, tyX7_ok, nmX7, rfl, by decide +kernel, fun h => by first | rfl | cases h⟩
set_option maxRecDepth 100000 in
theorem wm_RX7_119 : Cond.methodLink RX7 119 yX7_newLine ∈ gW := gW_t5 215 rfl rfl
set_option maxRecDepth 100000 in
theorem wc_yX7_newLine : Cond.code yX7_newLine cX7_newLine 4 none ∈ gW := gW_t5 218 rfl rfl
theorem cv_RX7_119 : CV RX7 119 yX7_newLine cX7_newLine 4 none 2 := ⟨wm_RX7_119, wc_yX7_newLine, wi_TwoWidthsModel, ⟨by decide, by decide⟩, by decide +kernel⟩
set_option maxRecDepth 100000 in
theorem wn_yX7_newLine : Cond.instanceMethod yX7_newLine ∈ gW := gW_t5 217 rfl rfl
set_option maxRecDepth 100000 in
theorem wv_yX7_newLine : Cond.selects RX7 yX7_newLine yX7_newLine ∈ gW := gW_mem 35 rfl rfl
theorem iv_yX7_newLine : Cond.instanceMethod yX7_newLine ∈ gW ∧ Cond.selects yX7_newLine.cls yX7_newLine yX7_newLine ∈ gW := ⟨wn_yX7_newLine, wv_yX7_newLine⟩
set_option maxRecDepth 100000 in
theorem wk_RX7_115 : Cond.constantLong RX7 115 (60) ∈ gW := gW_t5 213 rfl rfl
set_option maxRecDepth 100000 in
theorem wm_RX7_112 : Cond.methodLink RX7 112 yX7_isPlace ∈ gW := gW_t5 209 rfl rfl
set_option maxRecDepth 100000 in
theorem wc_yX7_isPlace : Cond.code yX7_isPlace cX7_isPlace 1 (some .boolean) ∈ gW := gW_t5 211 rfl rfl
theorem cv_RX7_112 : CV RX7 112 yX7_isPlace cX7_isPlace 1 (some .boolean) 1 := ⟨wm_RX7_112, wc_yX7_isPlace, wi_TwoWidthsModel, ⟨by decide, by decide⟩, by decide +kernel⟩
set_option maxRecDepth 100000 in
theorem ws_yX7_isPlace : Cond.static yX7_isPlace ∈ gW := gW_t5 210 rfl rfl
set_option maxRecDepth 100000 in
theorem wk_RX7_123 : Cond.constantLong RX7 123 (99) ∈ gW := gW_t5 223 rfl rfl
set_option maxRecDepth 100000 in
theorem wf_RX7_125 : Cond.fieldLink RX7 125 "TwoWidthsModel" "goods" "I" ∈ gW := gW_t5 54 rfl rfl
theorem fo_RX7_125 : FO RX7 125 7 13 := ⟨RX7, TX7, 38, rfl, by decide, wf_RX7_125, wl_X7⟩
theorem fo_RX7_48 : FO RX7 48 7 14 := ⟨RX7, TX7, 38, rfl, by decide, wf_RX7_48, wl_X7⟩
theorem fp_RX7_125 : FP RX7 125 7 13 .int false := ⟨RX7, TX7, 38, tyX7, rfl, by decide, wf_RX7_125, wl_X7, tyX7_ok, nmX7, rfl, by decide +kernel, fun h => by first | rfl | cases h⟩
set_option maxRecDepth 100000 in
theorem wm_RX7_128 : Cond.methodLink RX7 128 yX7_isLine ∈ gW := gW_t5 232 rfl rfl
set_option maxRecDepth 100000 in
theorem wc_yX7_isLine : Cond.code yX7_isLine cX7_isLine 2 (some .boolean) ∈ gW := gW_t5 235 rfl rfl
theorem cv_RX7_128 : CV RX7 128 yX7_isLine cX7_isLine 2 (some .boolean) 1 := ⟨wm_RX7_128, wc_yX7_isLine, wi_TwoWidthsModel, ⟨by decide, by decide⟩, by decide +kernel⟩
set_option maxRecDepth 100000 in
theorem wn_yX7_isLine : Cond.instanceMethod yX7_isLine ∈ gW := gW_t5 234 rfl rfl
set_option maxRecDepth 100000 in
theorem wv_yX7_isLine : Cond.selects RX7 yX7_isLine yX7_isLine ∈ gW := gW_mem 37 rfl rfl
theorem iv_yX7_isLine : Cond.instanceMethod yX7_isLine ∈ gW ∧ Cond.selects yX7_isLine.cls yX7_isLine yX7_isLine ∈ gW := ⟨wn_yX7_isLine, wv_yX7_isLine⟩
set_option maxRecDepth 100000 in
theorem wk_RX7_131 : Cond.constantLong RX7 131 (2) ∈ gW := gW_t6 0 rfl rfl
set_option maxRecDepth 100000 in
theorem wk_RX7_140 : Cond.constantLong RX7 140 (9999) ∈ gW := gW_t6 1 rfl rfl
theorem fp_RX7_85 : FP RX7 85 7 15 .int false := ⟨RX7, TX7, 38, tyX7, rfl, by decide, wf_RX7_85, wl_X7, tyX7_ok, nmX7, rfl, by decide +kernel, fun h => by first | rfl | cases h⟩
set_option maxRecDepth 100000 in
theorem wm_RX7_136 : Cond.methodLink RX7 136 yX7_mayBeSecond ∈ gW := gW_t5 236 rfl rfl
set_option maxRecDepth 100000 in
theorem wc_yX7_mayBeSecond : Cond.code yX7_mayBeSecond cX7_mayBeSecond 4 (some .boolean) ∈ gW := gW_t5 239 rfl rfl
theorem cv_RX7_136 : CV RX7 136 yX7_mayBeSecond cX7_mayBeSecond 4 (some .boolean) 3 := ⟨wm_RX7_136, wc_yX7_mayBeSecond, wi_TwoWidthsModel, ⟨by decide, by decide⟩, by decide +kernel⟩
set_option maxRecDepth 100000 in
theorem wn_yX7_mayBeSecond : Cond.instanceMethod yX7_mayBeSecond ∈ gW := gW_t5 238 rfl rfl
set_option maxRecDepth 100000 in
theorem wv_yX7_mayBeSecond : Cond.selects RX7 yX7_mayBeSecond yX7_mayBeSecond ∈ gW := gW_mem 38 rfl rfl
theorem iv_yX7_mayBeSecond : Cond.instanceMethod yX7_mayBeSecond ∈ gW ∧ Cond.selects yX7_mayBeSecond.cls yX7_mayBeSecond yX7_mayBeSecond ∈ gW := ⟨wn_yX7_mayBeSecond, wv_yX7_mayBeSecond⟩
set_option maxRecDepth 100000 in
theorem wm_RX7_133 : Cond.methodLink RX7 133 yX7_mayBeFirst ∈ gW := gW_t5 228 rfl rfl
set_option maxRecDepth 100000 in
theorem wc_yX7_mayBeFirst : Cond.code yX7_mayBeFirst cX7_mayBeFirst 3 (some .boolean) ∈ gW := gW_t5 231 rfl rfl
theorem cv_RX7_133 : CV RX7 133 yX7_mayBeFirst cX7_mayBeFirst 3 (some .boolean) 2 := ⟨wm_RX7_133, wc_yX7_mayBeFirst, wi_TwoWidthsModel, ⟨by decide, by decide⟩, by decide +kernel⟩
set_option maxRecDepth 100000 in
theorem wn_yX7_mayBeFirst : Cond.instanceMethod yX7_mayBeFirst ∈ gW := gW_t5 230 rfl rfl
set_option maxRecDepth 100000 in
theorem wv_yX7_mayBeFirst : Cond.selects RX7 yX7_mayBeFirst yX7_mayBeFirst ∈ gW := gW_mem 36 rfl rfl
theorem iv_yX7_mayBeFirst : Cond.instanceMethod yX7_mayBeFirst ∈ gW ∧ Cond.selects yX7_mayBeFirst.cls yX7_mayBeFirst yX7_mayBeFirst ∈ gW := ⟨wn_yX7_mayBeFirst, wv_yX7_mayBeFirst⟩
set_option maxRecDepth 100000 in
theorem wk_RX7_142 : Cond.constantLong RX7 142 (9) ∈ gW := gW_t6 10 rfl rfl
theorem fo_RX7_45 : FO RX7 45 7 12 := ⟨RX7, TX7, 38, rfl, by decide, wf_RX7_45, wl_X7⟩
set_option maxRecDepth 100000 in
theorem wk_RX7_144 : Cond.constantLong RX7 144 (30) ∈ gW := gW_t6 15 rfl rfl
theorem fo_RX7_54 : FO RX7 54 7 17 := ⟨RX7, TX7, 38, rfl, by decide, wf_RX7_54, wl_X7⟩
set_option maxRecDepth 100000 in
theorem wf_RX7_146 : Cond.fieldLink RX7 146 "TwoWidthsModel" "tapeSize" "I" ∈ gW := gW_t5 48 rfl rfl
theorem fo_RX7_146 : FO RX7 146 7 7 := ⟨RX7, TX7, 38, rfl, by decide, wf_RX7_146, wl_X7⟩
theorem fo_RX7_31 : FO RX7 31 7 6 := ⟨RX7, TX7, 38, rfl, by decide, wf_RX7_31, wl_X7⟩
theorem fp_RX7_146 : FP RX7 146 7 7 .int false := ⟨RX7, TX7, 38, tyX7, rfl, by decide, wf_RX7_146, wl_X7, tyX7_ok, nmX7, rfl, by decide +kernel, fun h => by first | rfl | cases h⟩
set_option maxRecDepth 100000 in
theorem wf_RX7_149 : Cond.fieldLink RX7 149 "TwoWidthsModel" "at" "I" ∈ gW := gW_t5 64 rfl rfl
theorem fo_RX7_149 : FO RX7 149 7 23 := ⟨RX7, TX7, 38, rfl, by decide, wf_RX7_149, wl_X7⟩
set_option maxRecDepth 100000 in
theorem wf_RX7_152 : Cond.fieldLink RX7 152 "TwoWidthsModel" "from" "I" ∈ gW := gW_t5 66 rfl rfl
theorem fp_RX7_152 : FP RX7 152 7 25 .int false := ⟨RX7, TX7, 38, tyX7, rfl, by decide, wf_RX7_152, wl_X7, tyX7_ok, nmX7, rfl, by decide +kernel, fun h => by first | rfl | cases h⟩
set_option maxRecDepth 100000 in
theorem wf_RX7_155 : Cond.fieldLink RX7 155 "TwoWidthsModel" "figures" "J" ∈ gW := gW_t5 67 rfl rfl
theorem fp_RX7_155 : FP RX7 155 7 26 .long false := ⟨RX7, TX7, 38, tyX7, rfl, by decide, wf_RX7_155, wl_X7, tyX7_ok, nmX7, rfl, by decide +kernel, fun h => by first | rfl | cases h⟩
set_option maxRecDepth 100000 in
theorem wf_RX7_159 : Cond.fieldLink RX7 159 "TwoWidthsModel" "token" "I" ∈ gW := gW_t5 65 rfl rfl
theorem fp_RX7_159 : FP RX7 159 7 24 .int false := ⟨RX7, TX7, 38, tyX7, rfl, by decide, wf_RX7_159, wl_X7, tyX7_ok, nmX7, rfl, by decide +kernel, fun h => by first | rfl | cases h⟩
theorem fp_RX7_149 : FP RX7 149 7 23 .int false := ⟨RX7, TX7, 38, tyX7, rfl, by decide, wf_RX7_149, wl_X7, tyX7_ok, nmX7, rfl, by decide +kernel, fun h => by first | rfl | cases h⟩
theorem fo_RX7_152 : FO RX7 152 7 25 := ⟨RX7, TX7, 38, rfl, by decide, wf_RX7_152, wl_X7⟩
set_option maxRecDepth 100000 in
theorem wk_RX7_172 : Cond.constantLong RX7 172 (100000) ∈ gW := gW_t6 64 rfl rfl
theorem fo_RX7_155 : FO RX7 155 7 26 := ⟨RX7, TX7, 38, rfl, by decide, wf_RX7_155, wl_X7⟩
set_option maxRecDepth 100000 in
theorem wk_RX7_168 : Cond.constantLong RX7 168 (10) ∈ gW := gW_t6 62 rfl rfl
set_option maxRecDepth 100000 in
theorem wk_RX7_170 : Cond.constantLong RX7 170 (48) ∈ gW := gW_t6 63 rfl rfl
set_option maxRecDepth 100000 in
theorem wm_RX7_165 : Cond.methodLink RX7 165 yX7_isDigit ∈ gW := gW_t6 59 rfl rfl
set_option maxRecDepth 100000 in
theorem wc_yX7_isDigit : Cond.code yX7_isDigit cX7_isDigit 1 (some .boolean) ∈ gW := gW_t6 61 rfl rfl
theorem cv_RX7_165 : CV RX7 165 yX7_isDigit cX7_isDigit 1 (some .boolean) 1 := ⟨wm_RX7_165, wc_yX7_isDigit, wi_TwoWidthsModel, ⟨by decide, by decide⟩, by decide +kernel⟩
set_option maxRecDepth 100000 in
theorem ws_yX7_isDigit : Cond.static yX7_isDigit ∈ gW := gW_t6 60 rfl rfl
set_option maxRecDepth 100000 in
theorem wm_RX7_162 : Cond.methodLink RX7 162 yX7_isLetter ∈ gW := gW_t6 56 rfl rfl
set_option maxRecDepth 100000 in
theorem wc_yX7_isLetter : Cond.code yX7_isLetter cX7_isLetter 1 (some .boolean) ∈ gW := gW_t6 58 rfl rfl
theorem cv_RX7_162 : CV RX7 162 yX7_isLetter cX7_isLetter 1 (some .boolean) 1 := ⟨wm_RX7_162, wc_yX7_isLetter, wi_TwoWidthsModel, ⟨by decide, by decide⟩, by decide +kernel⟩
set_option maxRecDepth 100000 in
theorem ws_yX7_isLetter : Cond.static yX7_isLetter ∈ gW := gW_t6 57 rfl rfl
set_option maxRecDepth 100000 in
theorem wf_RX7_174 : Cond.fieldLink RX7 174 "TwoWidthsModel" "fault" "I" ∈ gW := gW_t5 68 rfl rfl
theorem fp_RX7_174 : FP RX7 174 7 27 .int false := ⟨RX7, TX7, 38, tyX7, rfl, by decide, wf_RX7_174, wl_X7, tyX7_ok, nmX7, rfl, by decide +kernel, fun h => by first | rfl | cases h⟩
theorem fo_RX7_159 : FO RX7 159 7 24 := ⟨RX7, TX7, 38, rfl, by decide, wf_RX7_159, wl_X7⟩
set_option maxRecDepth 100000 in
theorem wm_RX7_183 : Cond.methodLink RX7 183 yJ0_charAt_5068e ∈ gW := gW_t6 75 rfl rfl
theorem cv_RX7_183 : CV RX7 183 yJ0_charAt_5068e cJ0_charAt_5068e 2 (some .char) 1 := ⟨wm_RX7_183, wc_yJ0_charAt_5068e, wi_java_lang_String, ⟨by decide, by decide⟩, by decide +kernel⟩
set_option maxRecDepth 100000 in
theorem wm_RX7_177 : Cond.methodLink RX7 177 yJ0_length_8abf5 ∈ gW := gW_t6 74 rfl rfl
theorem cv_RX7_177 : CV RX7 177 yJ0_length_8abf5 cJ0_length_8abf5 1 (some .int) 0 := ⟨wm_RX7_177, wc_yJ0_length_8abf5, wi_java_lang_String, ⟨by decide, by decide⟩, by decide +kernel⟩
set_option maxRecDepth 100000 in
theorem wm_RX7_187 : Cond.methodLink RX7 187 yX7_wrong ∈ gW := gW_t6 84 rfl rfl
set_option maxRecDepth 100000 in
theorem wc_yX7_wrong : Cond.code yX7_wrong cX7_wrong 1 (some .boolean) ∈ gW := gW_t6 87 rfl rfl
theorem cv_RX7_187 : CV RX7 187 yX7_wrong cX7_wrong 1 (some .boolean) 0 := ⟨wm_RX7_187, wc_yX7_wrong, wi_TwoWidthsModel, ⟨by decide, by decide⟩, by decide +kernel⟩
set_option maxRecDepth 100000 in
theorem wn_yX7_wrong : Cond.instanceMethod yX7_wrong ∈ gW := gW_t6 86 rfl rfl
set_option maxRecDepth 100000 in
theorem wv_yX7_wrong : Cond.selects RX7 yX7_wrong yX7_wrong ∈ gW := gW_mem 47 rfl rfl
theorem iv_yX7_wrong : Cond.instanceMethod yX7_wrong ∈ gW ∧ Cond.selects yX7_wrong.cls yX7_wrong yX7_wrong ∈ gW := ⟨wn_yX7_wrong, wv_yX7_wrong⟩
set_option maxRecDepth 100000 in
theorem wm_RX7_191 : Cond.methodLink RX7 191 yX7_look ∈ gW := gW_t6 52 rfl rfl
set_option maxRecDepth 100000 in
theorem wc_yX7_look : Cond.code yX7_look cX7_look 1 none ∈ gW := gW_t6 55 rfl rfl
theorem cv_RX7_191 : CV RX7 191 yX7_look cX7_look 1 none 0 := ⟨wm_RX7_191, wc_yX7_look, wi_TwoWidthsModel, ⟨by decide, by decide⟩, by decide +kernel⟩
set_option maxRecDepth 100000 in
theorem wn_yX7_look : Cond.instanceMethod yX7_look ∈ gW := gW_t6 54 rfl rfl
set_option maxRecDepth 100000 in
theorem wv_yX7_look : Cond.selects RX7 yX7_look yX7_look ∈ gW := gW_mem 42 rfl rfl
theorem iv_yX7_look : Cond.instanceMethod yX7_look ∈ gW ∧ Cond.selects yX7_look.cls yX7_look yX7_look ∈ gW := ⟨wn_yX7_look, wv_yX7_look⟩
set_option maxRecDepth 100000 in
theorem wm_RX7_198 : Cond.methodLink RX7 198 yX7_number ∈ gW := gW_t6 80 rfl rfl
set_option maxRecDepth 100000 in
theorem wc_yX7_number : Cond.code yX7_number cX7_number 5 (some .boolean) ∈ gW := gW_t6 83 rfl rfl
theorem cv_RX7_198 : CV RX7 198 yX7_number cX7_number 5 (some .boolean) 4 := ⟨wm_RX7_198, wc_yX7_number, wi_TwoWidthsModel, ⟨by decide, by decide⟩, by decide +kernel⟩
set_option maxRecDepth 100000 in
theorem wn_yX7_number : Cond.instanceMethod yX7_number ∈ gW := gW_t6 82 rfl rfl
set_option maxRecDepth 100000 in
theorem wv_yX7_number : Cond.selects RX7 yX7_number yX7_number ∈ gW := gW_mem 46 rfl rfl
theorem iv_yX7_number : Cond.instanceMethod yX7_number ∈ gW ∧ Cond.selects yX7_number.cls yX7_number yX7_number ∈ gW := ⟨wn_yX7_number, wv_yX7_number⟩
set_option maxRecDepth 100000 in
theorem wm_RX7_194 : Cond.methodLink RX7 194 yX7_isWord ∈ gW := gW_t6 70 rfl rfl
set_option maxRecDepth 100000 in
theorem wc_yX7_isWord : Cond.code yX7_isWord cX7_isWord 3 (some .boolean) ∈ gW := gW_t6 73 rfl rfl
theorem cv_RX7_194 : CV RX7 194 yX7_isWord cX7_isWord 3 (some .boolean) 1 := ⟨wm_RX7_194, wc_yX7_isWord, wi_TwoWidthsModel, ⟨by decide, by decide⟩, by decide +kernel⟩
set_option maxRecDepth 100000 in
theorem wn_yX7_isWord : Cond.instanceMethod yX7_isWord ∈ gW := gW_t6 72 rfl rfl
set_option maxRecDepth 100000 in
theorem wv_yX7_isWord : Cond.selects RX7 yX7_isWord yX7_isWord ∈ gW := gW_mem 44 rfl rfl
theorem iv_yX7_isWord : Cond.instanceMethod yX7_isWord ∈ gW ∧ Cond.selects yX7_isWord.cls yX7_isWord yX7_isWord ∈ gW := ⟨wn_yX7_isWord, wv_yX7_isWord⟩
set_option maxRecDepth 100000 in
theorem wm_RX7_202 : Cond.methodLink RX7 202 yX7_told ∈ gW := gW_t6 89 rfl rfl
set_option maxRecDepth 100000 in
theorem wc_yX7_told : Cond.code yX7_told cX7_told 6 (some .boolean) ∈ gW := gW_t6 92 rfl rfl
theorem cv_RX7_202 : CV RX7 202 yX7_told cX7_told 6 (some .boolean) 5 := ⟨wm_RX7_202, wc_yX7_told, wi_TwoWidthsModel, ⟨by decide, by decide⟩, by decide +kernel⟩
set_option maxRecDepth 100000 in
theorem wn_yX7_told : Cond.instanceMethod yX7_told ∈ gW := gW_t6 91 rfl rfl
set_option maxRecDepth 100000 in
theorem wv_yX7_told : Cond.selects RX7 yX7_told yX7_told ∈ gW := gW_mem 48 rfl rfl
theorem iv_yX7_told : Cond.instanceMethod yX7_told ∈ gW ∧ Cond.selects yX7_told.cls yX7_told yX7_told ∈ gW := ⟨wn_yX7_told, wv_yX7_told⟩
theorem fo_RX7_58 : FO RX7 58 7 28 := ⟨RX7, TX7, 38, rfl, by decide, wf_RX7_58, wl_X7⟩
set_option maxRecDepth 100000 in
theorem wm_RX7_224 : Cond.methodLink RX7 224 yX7_workTold ∈ gW := gW_t6 102 rfl rfl
set_option maxRecDepth 100000 in
theorem wc_yX7_workTold : Cond.code yX7_workTold cX7_workTold 2 (some .boolean) ∈ gW := gW_t6 105 rfl rfl
theorem cv_RX7_224 : CV RX7 224 yX7_workTold cX7_workTold 2 (some .boolean) 1 := ⟨wm_RX7_224, wc_yX7_workTold, wi_TwoWidthsModel, ⟨by decide, by decide⟩, by decide +kernel⟩
set_option maxRecDepth 100000 in
theorem wn_yX7_workTold : Cond.instanceMethod yX7_workTold ∈ gW := gW_t6 104 rfl rfl
set_option maxRecDepth 100000 in
theorem wv_yX7_workTold : Cond.selects RX7 yX7_workTold yX7_workTold ∈ gW := gW_mem 50 rfl rfl
theorem iv_yX7_workTold : Cond.instanceMethod yX7_workTold ∈ gW ∧ Cond.selects yX7_workTold.cls yX7_workTold yX7_workTold ∈ gW := ⟨wn_yX7_workTold, wv_yX7_workTold⟩
set_option maxRecDepth 100000 in
theorem wm_RX7_207 : Cond.methodLink RX7 207 yX7_two ∈ gW := gW_t6 76 rfl rfl
set_option maxRecDepth 100000 in
theorem wc_yX7_two : Cond.code yX7_two cX7_two 2 (some .boolean) ∈ gW := gW_t6 79 rfl rfl
theorem cv_RX7_207 : CV RX7 207 yX7_two cX7_two 2 (some .boolean) 1 := ⟨wm_RX7_207, wc_yX7_two, wi_TwoWidthsModel, ⟨by decide, by decide⟩, by decide +kernel⟩
set_option maxRecDepth 100000 in
theorem wn_yX7_two : Cond.instanceMethod yX7_two ∈ gW := gW_t6 78 rfl rfl
set_option maxRecDepth 100000 in
theorem wv_yX7_two : Cond.selects RX7 yX7_two yX7_two ∈ gW := gW_mem 45 rfl rfl
theorem iv_yX7_two : Cond.instanceMethod yX7_two ∈ gW ∧ Cond.selects yX7_two.cls yX7_two yX7_two ∈ gW := ⟨wn_yX7_two, wv_yX7_two⟩
set_option maxRecDepth 100000 in
theorem wm_RX7_217 : Cond.methodLink RX7 217 yX7_perhaps ∈ gW := gW_t6 95 rfl rfl
set_option maxRecDepth 100000 in
theorem wc_yX7_perhaps : Cond.code yX7_perhaps cX7_perhaps 6 (some .boolean) ∈ gW := gW_t6 98 rfl rfl
theorem cv_RX7_217 : CV RX7 217 yX7_perhaps cX7_perhaps 6 (some .boolean) 5 := ⟨wm_RX7_217, wc_yX7_perhaps, wi_TwoWidthsModel, ⟨by decide, by decide⟩, by decide +kernel⟩
set_option maxRecDepth 100000 in
theorem wn_yX7_perhaps : Cond.instanceMethod yX7_perhaps ∈ gW := gW_t6 97 rfl rfl
set_option maxRecDepth 100000 in
theorem wv_yX7_perhaps : Cond.selects RX7 yX7_perhaps yX7_perhaps ∈ gW := gW_mem 49 rfl rfl
theorem iv_yX7_perhaps : Cond.instanceMethod yX7_perhaps ∈ gW ∧ Cond.selects yX7_perhaps.cls yX7_perhaps yX7_perhaps ∈ gW := ⟨wn_yX7_perhaps, wv_yX7_perhaps⟩
set_option maxRecDepth 100000 in
theorem wf_RX7_232 : Cond.fieldLink RX7 232 "TwoWidthsModel" "statements" "I" ∈ gW := gW_t5 70 rfl rfl
theorem fp_RX7_232 : FP RX7 232 7 29 .int false := ⟨RX7, TX7, 38, tyX7, rfl, by decide, wf_RX7_232, wl_X7, tyX7_ok, nmX7, rfl, by decide +kernel, fun h => by first | rfl | cases h⟩
theorem fo_RX7_232 : FO RX7 232 7 29 := ⟨RX7, TX7, 38, rfl, by decide, wf_RX7_232, wl_X7⟩
set_option maxRecDepth 100000 in
theorem wm_RX7_235 : Cond.methodLink RX7 235 yX7_statement ∈ gW := gW_t6 65 rfl rfl
set_option maxRecDepth 100000 in
theorem wc_yX7_statement : Cond.code yX7_statement cX7_statement 2 (some .boolean) ∈ gW := gW_t6 68 rfl rfl
theorem cv_RX7_235 : CV RX7 235 yX7_statement cX7_statement 2 (some .boolean) 0 := ⟨wm_RX7_235, wc_yX7_statement, wi_TwoWidthsModel, ⟨by decide, by decide⟩, by decide +kernel⟩
set_option maxRecDepth 100000 in
theorem wn_yX7_statement : Cond.instanceMethod yX7_statement ∈ gW := gW_t6 67 rfl rfl
set_option maxRecDepth 100000 in
theorem wv_yX7_statement : Cond.selects RX7 yX7_statement yX7_statement ∈ gW := gW_mem 43 rfl rfl
theorem iv_yX7_statement : Cond.instanceMethod yX7_statement ∈ gW ∧ Cond.selects yX7_statement.cls yX7_statement yX7_statement ∈ gW := ⟨wn_yX7_statement, wv_yX7_statement⟩
set_option maxRecDepth 100000 in
theorem wm_RX7_345 : Cond.methodLink RX7 345 yX7_over ∈ gW := gW_t6 45 rfl rfl
set_option maxRecDepth 100000 in
theorem wc_yX7_over : Cond.code yX7_over cX7_over 3 none ∈ gW := gW_t6 47 rfl rfl
theorem cv_RX7_345 : CV RX7 345 yX7_over cX7_over 3 none 2 := ⟨wm_RX7_345, wc_yX7_over, wi_TwoWidthsModel, ⟨by decide, by decide⟩, by decide +kernel⟩
set_option maxRecDepth 100000 in
theorem ws_yX7_over : Cond.static yX7_over ∈ gW := gW_t6 46 rfl rfl
set_option maxRecDepth 100000 in
theorem wf_RX7_334 : Cond.fieldLink RX7 334 "TwoWidthsModel" "gone" "I" ∈ gW := gW_t5 59 rfl rfl
theorem fo_RX7_334 : FO RX7 334 7 18 := ⟨RX7, TX7, 38, rfl, by decide, wf_RX7_334, wl_X7⟩
theorem fp_RX7_334 : FP RX7 334 7 18 .int false := ⟨RX7, TX7, 38, tyX7, rfl, by decide, wf_RX7_334, wl_X7, tyX7_ok, nmX7, rfl, by decide +kernel, fun h => by first | rfl | cases h⟩
set_option maxRecDepth 100000 in
theorem wf_RX7_337 : Cond.fieldLink RX7 337 "TwoWidthsModel" "spent" "I" ∈ gW := gW_t5 60 rfl rfl
theorem fo_RX7_337 : FO RX7 337 7 19 := ⟨RX7, TX7, 38, rfl, by decide, wf_RX7_337, wl_X7⟩
theorem fp_RX7_337 : FP RX7 337 7 19 .int false := ⟨RX7, TX7, 38, tyX7, rfl, by decide, wf_RX7_337, wl_X7, tyX7_ok, nmX7, rfl, by decide +kernel, fun h => by first | rfl | cases h⟩
set_option maxRecDepth 100000 in
theorem wm_RX7_349 : Cond.methodLink RX7 349 yX7_overAll ∈ gW := gW_t6 42 rfl rfl
set_option maxRecDepth 100000 in
theorem wc_yX7_overAll : Cond.code yX7_overAll cX7_overAll 3 none ∈ gW := gW_t6 44 rfl rfl
theorem cv_RX7_349 : CV RX7 349 yX7_overAll cX7_overAll 3 none 2 := ⟨wm_RX7_349, wc_yX7_overAll, wi_TwoWidthsModel, ⟨by decide, by decide⟩, by decide +kernel⟩
set_option maxRecDepth 100000 in
theorem ws_yX7_overAll : Cond.static yX7_overAll ∈ gW := gW_t6 43 rfl rfl
set_option maxRecDepth 100000 in
theorem wf_RX7_291 : Cond.fieldLink RX7 291 "TwoWidthsModel" "tried" "LTwoWidthsModel;" ∈ gW := gW_t5 62 rfl rfl
theorem fo_RX7_291 : FO RX7 291 7 21 := ⟨RX7, TX7, 38, rfl, by decide, wf_RX7_291, wl_X7⟩
set_option maxRecDepth 100000 in
theorem wm_RX7_245 : Cond.methodLink RX7 245 yX7_takeFrom ∈ gW := gW_t6 38 rfl rfl
set_option maxRecDepth 100000 in
theorem wc_yX7_takeFrom : Cond.code yX7_takeFrom cX7_takeFrom 2 none ∈ gW := gW_t6 41 rfl rfl
theorem cv_RX7_245 : CV RX7 245 yX7_takeFrom cX7_takeFrom 2 none 1 := ⟨wm_RX7_245, wc_yX7_takeFrom, wi_TwoWidthsModel, ⟨by decide, by decide⟩, by decide +kernel⟩
set_option maxRecDepth 100000 in
theorem wn_yX7_takeFrom : Cond.instanceMethod yX7_takeFrom ∈ gW := gW_t6 40 rfl rfl
set_option maxRecDepth 100000 in
theorem wv_yX7_takeFrom : Cond.selects RX7 yX7_takeFrom yX7_takeFrom ∈ gW := gW_mem 40 rfl rfl
theorem iv_yX7_takeFrom : Cond.instanceMethod yX7_takeFrom ∈ gW ∧ Cond.selects yX7_takeFrom.cls yX7_takeFrom yX7_takeFrom ∈ gW := ⟨wn_yX7_takeFrom, wv_yX7_takeFrom⟩
theorem fo_RX7_174 : FO RX7 174 7 27 := ⟨RX7, TX7, 38, rfl, by decide, wf_RX7_174, wl_X7⟩
set_option maxRecDepth 100000 in
theorem wm_RX7_242 : Cond.methodLink RX7 242 yX7_read ∈ gW := gW_t6 48 rfl rfl
set_option maxRecDepth 100000 in
theorem wc_yX7_read : Cond.code yX7_read cX7_read 1 (some .boolean) ∈ gW := gW_t6 51 rfl rfl
theorem cv_RX7_242 : CV RX7 242 yX7_read cX7_read 1 (some .boolean) 0 := ⟨wm_RX7_242, wc_yX7_read, wi_TwoWidthsModel, ⟨by decide, by decide⟩, by decide +kernel⟩
set_option maxRecDepth 100000 in
theorem wn_yX7_read : Cond.instanceMethod yX7_read ∈ gW := gW_t6 50 rfl rfl
set_option maxRecDepth 100000 in
theorem wv_yX7_read : Cond.selects RX7 yX7_read yX7_read ∈ gW := gW_mem 41 rfl rfl
theorem iv_yX7_read : Cond.instanceMethod yX7_read ∈ gW ∧ Cond.selects yX7_read.cls yX7_read yX7_read ∈ gW := ⟨wn_yX7_read, wv_yX7_read⟩
set_option maxRecDepth 100000 in
theorem wm_RX7_238 : Cond.methodLink RX7 238 yX7_fresh ∈ gW := gW_t6 32 rfl rfl
set_option maxRecDepth 100000 in
theorem wc_yX7_fresh : Cond.code yX7_fresh cX7_fresh 1 (some (.object "TwoWidthsModel")) ∈ gW := gW_t6 35 rfl rfl
theorem cv_RX7_238 : CV RX7 238 yX7_fresh cX7_fresh 1 (some (.object "TwoWidthsModel")) 0 := ⟨wm_RX7_238, wc_yX7_fresh, wi_TwoWidthsModel, ⟨by decide, by decide⟩, by decide +kernel⟩
set_option maxRecDepth 100000 in
theorem wn_yX7_fresh : Cond.instanceMethod yX7_fresh ∈ gW := gW_t6 34 rfl rfl
set_option maxRecDepth 100000 in
theorem wv_yX7_fresh : Cond.selects RX7 yX7_fresh yX7_fresh ∈ gW := gW_mem 39 rfl rfl
theorem iv_yX7_fresh : Cond.instanceMethod yX7_fresh ∈ gW ∧ Cond.selects yX7_fresh.cls yX7_fresh yX7_fresh ∈ gW := ⟨wn_yX7_fresh, wv_yX7_fresh⟩
set_option maxRecDepth 100000 in
theorem wk_RX7_249 : Cond.constantLong RX7 249 (6) ∈ gW := gW_t6 113 rfl rfl
theorem fo_RX7_61 : FO RX7 61 7 30 := ⟨RX7, TX7, 38, rfl, by decide, wf_RX7_61, wl_X7⟩
set_option maxRecDepth 100000 in
theorem wf_RX7_251 : Cond.fieldLink RX7 251 "TwoWidthsModel" "tons" "I" ∈ gW := gW_t5 73 rfl rfl
theorem fo_RX7_251 : FO RX7 251 7 32 := ⟨RX7, TX7, 38, rfl, by decide, wf_RX7_251, wl_X7⟩
theorem fp_RX7_251 : FP RX7 251 7 32 .int false := ⟨RX7, TX7, 38, tyX7, rfl, by decide, wf_RX7_251, wl_X7, tyX7_ok, nmX7, rfl, by decide +kernel, fun h => by first | rfl | cases h⟩
theorem fo_RX7_64 : FO RX7 64 7 31 := ⟨RX7, TX7, 38, rfl, by decide, wf_RX7_64, wl_X7⟩
set_option maxRecDepth 100000 in
theorem wm_RX7_255 : Cond.methodLink RX7 255 yX7_bears ∈ gW := gW_t6 135 rfl rfl
set_option maxRecDepth 100000 in
theorem wc_yX7_bears : Cond.code yX7_bears cX7_bears 3 (some .boolean) ∈ gW := gW_t6 138 rfl rfl
theorem cv_RX7_255 : CV RX7 255 yX7_bears cX7_bears 3 (some .boolean) 2 := ⟨wm_RX7_255, wc_yX7_bears, wi_TwoWidthsModel, ⟨by decide, by decide⟩, by decide +kernel⟩
set_option maxRecDepth 100000 in
theorem wn_yX7_bears : Cond.instanceMethod yX7_bears ∈ gW := gW_t6 137 rfl rfl
set_option maxRecDepth 100000 in
theorem wv_yX7_bears : Cond.selects RX7 yX7_bears yX7_bears ∈ gW := gW_mem 53 rfl rfl
theorem iv_yX7_bears : Cond.instanceMethod yX7_bears ∈ gW ∧ Cond.selects yX7_bears.cls yX7_bears yX7_bears ∈ gW := ⟨wn_yX7_bears, wv_yX7_bears⟩
set_option maxRecDepth 100000 in
theorem wk_RX7_254 : Cond.constant RX7 254 (1000000000) ∈ gW := gW_t6 134 rfl rfl
set_option maxRecDepth 100000 in
theorem wf_RX7_257 : Cond.fieldLink RX7 257 "TwoWidthsModel" "met" "J" ∈ gW := gW_t5 76 rfl rfl
theorem fo_RX7_257 : FO RX7 257 7 35 := ⟨RX7, TX7, 38, rfl, by decide, wf_RX7_257, wl_X7⟩
theorem fo_RX7_70 : FO RX7 70 7 36 := ⟨RX7, TX7, 38, rfl, by decide, wf_RX7_70, wl_X7⟩
set_option maxRecDepth 100000 in
theorem wm_RX7_260 : Cond.methodLink RX7 260 yX7_stepTo ∈ gW := gW_t6 159 rfl rfl
set_option maxRecDepth 100000 in
theorem wc_yX7_stepTo : Cond.code yX7_stepTo cX7_stepTo 6 (some .int) ∈ gW := gW_t6 162 rfl rfl
theorem cv_RX7_260 : CV RX7 260 yX7_stepTo cX7_stepTo 6 (some .int) 2 := ⟨wm_RX7_260, wc_yX7_stepTo, wi_TwoWidthsModel, ⟨by decide, by decide⟩, by decide +kernel⟩
set_option maxRecDepth 100000 in
theorem wn_yX7_stepTo : Cond.instanceMethod yX7_stepTo ∈ gW := gW_t6 161 rfl rfl
set_option maxRecDepth 100000 in
theorem wv_yX7_stepTo : Cond.selects RX7 yX7_stepTo yX7_stepTo ∈ gW := gW_mem 58 rfl rfl
theorem iv_yX7_stepTo : Cond.instanceMethod yX7_stepTo ∈ gW ∧ Cond.selects yX7_stepTo.cls yX7_stepTo yX7_stepTo ∈ gW := ⟨wn_yX7_stepTo, wv_yX7_stepTo⟩
set_option maxRecDepth 100000 in
theorem wf_RX7_267 : Cond.fieldLink RX7 267 "TwoWidthsModel" "steps" "I" ∈ gW := gW_t5 75 rfl rfl
theorem fp_RX7_267 : FP RX7 267 7 34 .int false := ⟨RX7, TX7, 38, tyX7, rfl, by decide, wf_RX7_267, wl_X7, tyX7_ok, nmX7, rfl, by decide +kernel, fun h => by first | rfl | cases h⟩
theorem fp_RX7_257 : FP RX7 257 7 35 .long false := ⟨RX7, TX7, 38, tyX7, rfl, by decide, wf_RX7_257, wl_X7, tyX7_ok, nmX7, rfl, by decide +kernel, fun h => by first | rfl | cases h⟩
theorem fo_RX7_67 : FO RX7 67 7 33 := ⟨RX7, TX7, 38, rfl, by decide, wf_RX7_67, wl_X7⟩
theorem fo_RX7_267 : FO RX7 267 7 34 := ⟨RX7, TX7, 38, rfl, by decide, wf_RX7_267, wl_X7⟩
set_option maxRecDepth 100000 in
theorem wm_RX7_273 : Cond.methodLink RX7 273 yX7_canEnd ∈ gW := gW_t6 155 rfl rfl
set_option maxRecDepth 100000 in
theorem wc_yX7_canEnd : Cond.code yX7_canEnd cX7_canEnd 9 (some .boolean) ∈ gW := gW_t6 158 rfl rfl
theorem cv_RX7_273 : CV RX7 273 yX7_canEnd cX7_canEnd 9 (some .boolean) 2 := ⟨wm_RX7_273, wc_yX7_canEnd, wi_TwoWidthsModel, ⟨by decide, by decide⟩, by decide +kernel⟩
set_option maxRecDepth 100000 in
theorem wn_yX7_canEnd : Cond.instanceMethod yX7_canEnd ∈ gW := gW_t6 157 rfl rfl
set_option maxRecDepth 100000 in
theorem wv_yX7_canEnd : Cond.selects RX7 yX7_canEnd yX7_canEnd ∈ gW := gW_mem 57 rfl rfl
theorem iv_yX7_canEnd : Cond.instanceMethod yX7_canEnd ∈ gW ∧ Cond.selects yX7_canEnd.cls yX7_canEnd yX7_canEnd ∈ gW := ⟨wn_yX7_canEnd, wv_yX7_canEnd⟩
set_option maxRecDepth 100000 in
theorem wm_RX7_270 : Cond.methodLink RX7 270 yX7_least ∈ gW := gW_t6 139 rfl rfl
set_option maxRecDepth 100000 in
theorem wc_yX7_least : Cond.code yX7_least cX7_least 4 (some .int) ∈ gW := gW_t6 142 rfl rfl
theorem cv_RX7_270 : CV RX7 270 yX7_least cX7_least 4 (some .int) 1 := ⟨wm_RX7_270, wc_yX7_least, wi_TwoWidthsModel, ⟨by decide, by decide⟩, by decide +kernel⟩
set_option maxRecDepth 100000 in
theorem wn_yX7_least : Cond.instanceMethod yX7_least ∈ gW := gW_t6 141 rfl rfl
set_option maxRecDepth 100000 in
theorem wv_yX7_least : Cond.selects RX7 yX7_least yX7_least ∈ gW := gW_mem 54 rfl rfl
theorem iv_yX7_least : Cond.instanceMethod yX7_least ∈ gW ∧ Cond.selects yX7_least.cls yX7_least yX7_least ∈ gW := ⟨wn_yX7_least, wv_yX7_least⟩
set_option maxRecDepth 100000 in
theorem wm_RX7_264 : Cond.methodLink RX7 264 yX7_findFar ∈ gW := gW_t6 130 rfl rfl
set_option maxRecDepth 100000 in
theorem wc_yX7_findFar : Cond.code yX7_findFar cX7_findFar 9 none ∈ gW := gW_t6 133 rfl rfl
theorem cv_RX7_264 : CV RX7 264 yX7_findFar cX7_findFar 9 none 2 := ⟨wm_RX7_264, wc_yX7_findFar, wi_TwoWidthsModel, ⟨by decide, by decide⟩, by decide +kernel⟩
set_option maxRecDepth 100000 in
theorem wn_yX7_findFar : Cond.instanceMethod yX7_findFar ∈ gW := gW_t6 132 rfl rfl
set_option maxRecDepth 100000 in
theorem wv_yX7_findFar : Cond.selects RX7 yX7_findFar yX7_findFar ∈ gW := gW_mem 52 rfl rfl
theorem iv_yX7_findFar : Cond.instanceMethod yX7_findFar ∈ gW ∧ Cond.selects yX7_findFar.cls yX7_findFar yX7_findFar ∈ gW := ⟨wn_yX7_findFar, wv_yX7_findFar⟩
set_option maxRecDepth 100000 in
theorem wm_RX7_276 : Cond.methodLink RX7 276 yX7_refill ∈ gW := gW_t6 126 rfl rfl
set_option maxRecDepth 100000 in
theorem wc_yX7_refill : Cond.code yX7_refill cX7_refill 2 none ∈ gW := gW_t6 129 rfl rfl
theorem cv_RX7_276 : CV RX7 276 yX7_refill cX7_refill 2 none 0 := ⟨wm_RX7_276, wc_yX7_refill, wi_TwoWidthsModel, ⟨by decide, by decide⟩, by decide +kernel⟩
set_option maxRecDepth 100000 in
theorem wn_yX7_refill : Cond.instanceMethod yX7_refill ∈ gW := gW_t6 128 rfl rfl
set_option maxRecDepth 100000 in
theorem wv_yX7_refill : Cond.selects RX7 yX7_refill yX7_refill ∈ gW := gW_mem 51 rfl rfl
theorem iv_yX7_refill : Cond.instanceMethod yX7_refill ∈ gW ∧ Cond.selects yX7_refill.cls yX7_refill yX7_refill ∈ gW := ⟨wn_yX7_refill, wv_yX7_refill⟩
set_option maxRecDepth 100000 in
theorem wm_RX7_279 : Cond.methodLink RX7 279 yX7_findWay ∈ gW := gW_t6 151 rfl rfl
set_option maxRecDepth 100000 in
theorem wc_yX7_findWay : Cond.code yX7_findWay cX7_findWay 8 (some .boolean) ∈ gW := gW_t6 154 rfl rfl
theorem cv_RX7_279 : CV RX7 279 yX7_findWay cX7_findWay 8 (some .boolean) 3 := ⟨wm_RX7_279, wc_yX7_findWay, wi_TwoWidthsModel, ⟨by decide, by decide⟩, by decide +kernel⟩
set_option maxRecDepth 100000 in
theorem wn_yX7_findWay : Cond.instanceMethod yX7_findWay ∈ gW := gW_t6 153 rfl rfl
set_option maxRecDepth 100000 in
theorem wv_yX7_findWay : Cond.selects RX7 yX7_findWay yX7_findWay ∈ gW := gW_mem 56 rfl rfl
theorem iv_yX7_findWay : Cond.instanceMethod yX7_findWay ∈ gW ∧ Cond.selects yX7_findWay.cls yX7_findWay yX7_findWay ∈ gW := ⟨wn_yX7_findWay, wv_yX7_findWay⟩
set_option maxRecDepth 100000 in
theorem wm_RX7_282 : Cond.methodLink RX7 282 yX7_findGoods ∈ gW := gW_t6 147 rfl rfl
set_option maxRecDepth 100000 in
theorem wc_yX7_findGoods : Cond.code yX7_findGoods cX7_findGoods 2 (some .boolean) ∈ gW := gW_t6 150 rfl rfl
theorem cv_RX7_282 : CV RX7 282 yX7_findGoods cX7_findGoods 2 (some .boolean) 1 := ⟨wm_RX7_282, wc_yX7_findGoods, wi_TwoWidthsModel, ⟨by decide, by decide⟩, by decide +kernel⟩
set_option maxRecDepth 100000 in
theorem wn_yX7_findGoods : Cond.instanceMethod yX7_findGoods ∈ gW := gW_t6 149 rfl rfl
set_option maxRecDepth 100000 in
theorem wv_yX7_findGoods : Cond.selects RX7 yX7_findGoods yX7_findGoods ∈ gW := gW_mem 55 rfl rfl
theorem iv_yX7_findGoods : Cond.instanceMethod yX7_findGoods ∈ gW ∧ Cond.selects yX7_findGoods.cls yX7_findGoods yX7_findGoods ∈ gW := ⟨wn_yX7_findGoods, wv_yX7_findGoods⟩
set_option maxRecDepth 100000 in
theorem wm_RX7_285 : Cond.methodLink RX7 285 yX7_earned ∈ gW := gW_t6 175 rfl rfl
set_option maxRecDepth 100000 in
theorem wc_yX7_earned : Cond.code yX7_earned cX7_earned 6 (some .int) ∈ gW := gW_t6 178 rfl rfl
theorem cv_RX7_285 : CV RX7 285 yX7_earned cX7_earned 6 (some .int) 1 := ⟨wm_RX7_285, wc_yX7_earned, wi_TwoWidthsModel, ⟨by decide, by decide⟩, by decide +kernel⟩
set_option maxRecDepth 100000 in
theorem wn_yX7_earned : Cond.instanceMethod yX7_earned ∈ gW := gW_t6 177 rfl rfl
set_option maxRecDepth 100000 in
theorem wv_yX7_earned : Cond.selects RX7 yX7_earned yX7_earned ∈ gW := gW_mem 59 rfl rfl
theorem iv_yX7_earned : Cond.instanceMethod yX7_earned ∈ gW ∧ Cond.selects yX7_earned.cls yX7_earned yX7_earned ∈ gW := ⟨wn_yX7_earned, wv_yX7_earned⟩
set_option maxRecDepth 100000 in
theorem wm_RX7_288 : Cond.methodLink RX7 288 yX7_free ∈ gW := gW_t6 187 rfl rfl
set_option maxRecDepth 100000 in
theorem wc_yX7_free : Cond.code yX7_free cX7_free 4 (some .int) ∈ gW := gW_t6 166 rfl rfl
theorem cv_RX7_288 : CV RX7 288 yX7_free cX7_free 4 (some .int) 0 := ⟨wm_RX7_288, wc_yX7_free, wi_TwoWidthsModel, ⟨by decide, by decide⟩, by decide +kernel⟩
set_option maxRecDepth 100000 in
theorem wn_yX7_free : Cond.instanceMethod yX7_free ∈ gW := gW_t6 164 rfl rfl
set_option maxRecDepth 100000 in
theorem wv_yX7_free : Cond.selects RX7 yX7_free yX7_free ∈ gW := gW_t6 165 rfl rfl
theorem iv_yX7_free : Cond.instanceMethod yX7_free ∈ gW ∧ Cond.selects yX7_free.cls yX7_free yX7_free ∈ gW := ⟨wn_yX7_free, wv_yX7_free⟩
set_option maxRecDepth 100000 in
theorem wm_RX7_296 : Cond.methodLink RX7 296 yX7_does ∈ gW := gW_t6 196 rfl rfl
set_option maxRecDepth 100000 in
theorem wc_yX7_does : Cond.code yX7_does cX7_does 3 none ∈ gW := gW_t6 199 rfl rfl
theorem cv_RX7_296 : CV RX7 296 yX7_does cX7_does 3 none 1 := ⟨wm_RX7_296, wc_yX7_does, wi_TwoWidthsModel, ⟨by decide, by decide⟩, by decide +kernel⟩
set_option maxRecDepth 100000 in
theorem wn_yX7_does : Cond.instanceMethod yX7_does ∈ gW := gW_t6 198 rfl rfl
set_option maxRecDepth 100000 in
theorem wv_yX7_does : Cond.selects RX7 yX7_does yX7_does ∈ gW := gW_mem 61 rfl rfl
theorem iv_yX7_does : Cond.instanceMethod yX7_does ∈ gW ∧ Cond.selects yX7_does.cls yX7_does yX7_does ∈ gW := ⟨wn_yX7_does, wv_yX7_does⟩
set_option maxRecDepth 100000 in
theorem wm_RX7_300 : Cond.methodLink RX7 300 yX7_totalOf ∈ gW := gW_t6 192 rfl rfl
set_option maxRecDepth 100000 in
theorem wc_yX7_totalOf : Cond.code yX7_totalOf cX7_totalOf 5 (some .int) ∈ gW := gW_t6 195 rfl rfl
theorem cv_RX7_300 : CV RX7 300 yX7_totalOf cX7_totalOf 5 (some .int) 1 := ⟨wm_RX7_300, wc_yX7_totalOf, wi_TwoWidthsModel, ⟨by decide, by decide⟩, by decide +kernel⟩
set_option maxRecDepth 100000 in
theorem wn_yX7_totalOf : Cond.instanceMethod yX7_totalOf ∈ gW := gW_t6 194 rfl rfl
set_option maxRecDepth 100000 in
theorem wv_yX7_totalOf : Cond.selects RX7 yX7_totalOf yX7_totalOf ∈ gW := gW_mem 60 rfl rfl
theorem iv_yX7_totalOf : Cond.instanceMethod yX7_totalOf ∈ gW ∧ Cond.selects yX7_totalOf.cls yX7_totalOf yX7_totalOf ∈ gW := ⟨wn_yX7_totalOf, wv_yX7_totalOf⟩
set_option maxRecDepth 100000 in
theorem wm_RX7_303 : Cond.methodLink RX7 303 yX7_saves ∈ gW := gW_t6 213 rfl rfl
set_option maxRecDepth 100000 in
theorem wc_yX7_saves : Cond.code yX7_saves cX7_saves 4 (some .int) ∈ gW := gW_t6 216 rfl rfl
theorem cv_RX7_303 : CV RX7 303 yX7_saves cX7_saves 4 (some .int) 1 := ⟨wm_RX7_303, wc_yX7_saves, wi_TwoWidthsModel, ⟨by decide, by decide⟩, by decide +kernel⟩
set_option maxRecDepth 100000 in
theorem wn_yX7_saves : Cond.instanceMethod yX7_saves ∈ gW := gW_t6 215 rfl rfl
set_option maxRecDepth 100000 in
theorem wv_yX7_saves : Cond.selects RX7 yX7_saves yX7_saves ∈ gW := gW_mem 63 rfl rfl
theorem iv_yX7_saves : Cond.instanceMethod yX7_saves ∈ gW ∧ Cond.selects yX7_saves.cls yX7_saves yX7_saves ∈ gW := ⟨wn_yX7_saves, wv_yX7_saves⟩
set_option maxRecDepth 100000 in
theorem wm_RX7_307 : Cond.methodLink RX7 307 yX7_worthOf ∈ gW := gW_t6 209 rfl rfl
set_option maxRecDepth 100000 in
theorem wc_yX7_worthOf : Cond.code yX7_worthOf cX7_worthOf 2 (some .int) ∈ gW := gW_t6 212 rfl rfl
theorem cv_RX7_307 : CV RX7 307 yX7_worthOf cX7_worthOf 2 (some .int) 1 := ⟨wm_RX7_307, wc_yX7_worthOf, wi_TwoWidthsModel, ⟨by decide, by decide⟩, by decide +kernel⟩
set_option maxRecDepth 100000 in
theorem wn_yX7_worthOf : Cond.instanceMethod yX7_worthOf ∈ gW := gW_t6 211 rfl rfl
set_option maxRecDepth 100000 in
theorem wv_yX7_worthOf : Cond.selects RX7 yX7_worthOf yX7_worthOf ∈ gW := gW_mem 62 rfl rfl
theorem iv_yX7_worthOf : Cond.instanceMethod yX7_worthOf ∈ gW ∧ Cond.selects yX7_worthOf.cls yX7_worthOf yX7_worthOf ∈ gW := ⟨wn_yX7_worthOf, wv_yX7_worthOf⟩
set_option maxRecDepth 100000 in
theorem wk_RX7_306 : Cond.constant RX7 306 (1000000) ∈ gW := gW_t6 208 rfl rfl
set_option maxRecDepth 100000 in
theorem wf_RX7_310 : Cond.fieldLink RX7 310 "TwoWidthsModel" "chosen" "LTwoWidthsModel;" ∈ gW := gW_t5 63 rfl rfl
theorem fo_RX7_310 : FO RX7 310 7 22 := ⟨RX7, TX7, 38, rfl, by decide, wf_RX7_310, wl_X7⟩
set_option maxRecDepth 100000 in
theorem wm_RX7_313 : Cond.methodLink RX7 313 yX7_first ∈ gW := gW_t6 225 rfl rfl
set_option maxRecDepth 100000 in
theorem wc_yX7_first : Cond.code yX7_first cX7_first 5 (some .int) ∈ gW := gW_t6 220 rfl rfl
theorem cv_RX7_313 : CV RX7 313 yX7_first cX7_first 5 (some .int) 0 := ⟨wm_RX7_313, wc_yX7_first, wi_TwoWidthsModel, ⟨by decide, by decide⟩, by decide +kernel⟩
set_option maxRecDepth 100000 in
theorem wn_yX7_first : Cond.instanceMethod yX7_first ∈ gW := gW_t6 218 rfl rfl
set_option maxRecDepth 100000 in
theorem wv_yX7_first : Cond.selects RX7 yX7_first yX7_first ∈ gW := gW_t6 219 rfl rfl
theorem iv_yX7_first : Cond.instanceMethod yX7_first ∈ gW ∧ Cond.selects yX7_first.cls yX7_first yX7_first ∈ gW := ⟨wn_yX7_first, wv_yX7_first⟩
set_option maxRecDepth 100000 in
theorem wm_RX7_319 : Cond.methodLink RX7 319 yX7_best ∈ gW := gW_t6 231 rfl rfl
set_option maxRecDepth 100000 in
theorem wc_yX7_best : Cond.code yX7_best cX7_best 5 (some .int) ∈ gW := gW_t6 203 rfl rfl
theorem cv_RX7_319 : CV RX7 319 yX7_best cX7_best 5 (some .int) 0 := ⟨wm_RX7_319, wc_yX7_best, wi_TwoWidthsModel, ⟨by decide, by decide⟩, by decide +kernel⟩
set_option maxRecDepth 100000 in
theorem wn_yX7_best : Cond.instanceMethod yX7_best ∈ gW := gW_t6 201 rfl rfl
set_option maxRecDepth 100000 in
theorem wv_yX7_best : Cond.selects RX7 yX7_best yX7_best ∈ gW := gW_t6 202 rfl rfl
theorem iv_yX7_best : Cond.instanceMethod yX7_best ∈ gW ∧ Cond.selects yX7_best.cls yX7_best yX7_best ∈ gW := ⟨wn_yX7_best, wv_yX7_best⟩
set_option maxRecDepth 100000 in
theorem wm_RX7_316 : Cond.methodLink RX7 316 yX7_greedy ∈ gW := gW_t6 230 rfl rfl
set_option maxRecDepth 100000 in
theorem wc_yX7_greedy : Cond.code yX7_greedy cX7_greedy 4 (some .int) ∈ gW := gW_t6 224 rfl rfl
theorem cv_RX7_316 : CV RX7 316 yX7_greedy cX7_greedy 4 (some .int) 0 := ⟨wm_RX7_316, wc_yX7_greedy, wi_TwoWidthsModel, ⟨by decide, by decide⟩, by decide +kernel⟩
set_option maxRecDepth 100000 in
theorem wn_yX7_greedy : Cond.instanceMethod yX7_greedy ∈ gW := gW_t6 222 rfl rfl
set_option maxRecDepth 100000 in
theorem wv_yX7_greedy : Cond.selects RX7 yX7_greedy yX7_greedy ∈ gW := gW_t6 223 rfl rfl
theorem iv_yX7_greedy : Cond.instanceMethod yX7_greedy ∈ gW ∧ Cond.selects yX7_greedy.cls yX7_greedy yX7_greedy ∈ gW := ⟨wn_yX7_greedy, wv_yX7_greedy⟩
theorem fo_RX7_73 : FO RX7 73 7 37 := ⟨RX7, TX7, 38, rfl, by decide, wf_RX7_73, wl_X7⟩
set_option maxRecDepth 100000 in
theorem wm_RX7_322 : Cond.methodLink RX7 322 yX7_oneWidth ∈ gW := gW_t7 4 rfl rfl
set_option maxRecDepth 100000 in
theorem wc_yX7_oneWidth : Cond.code yX7_oneWidth cX7_oneWidth 6 (some .int) ∈ gW := gW_t7 7 rfl rfl
theorem cv_RX7_322 : CV RX7 322 yX7_oneWidth cX7_oneWidth 6 (some .int) 2 := ⟨wm_RX7_322, wc_yX7_oneWidth, wi_TwoWidthsModel, ⟨by decide, by decide⟩, by decide +kernel⟩
set_option maxRecDepth 100000 in
theorem wn_yX7_oneWidth : Cond.instanceMethod yX7_oneWidth ∈ gW := gW_t7 6 rfl rfl
set_option maxRecDepth 100000 in
theorem wv_yX7_oneWidth : Cond.selects RX7 yX7_oneWidth yX7_oneWidth ∈ gW := gW_mem 64 rfl rfl
theorem iv_yX7_oneWidth : Cond.instanceMethod yX7_oneWidth ∈ gW ∧ Cond.selects yX7_oneWidth.cls yX7_oneWidth yX7_oneWidth ∈ gW := ⟨wn_yX7_oneWidth, wv_yX7_oneWidth⟩
set_option maxRecDepth 100000 in
theorem wm_RX7_325 : Cond.methodLink RX7 325 yX7_gainOf ∈ gW := gW_t7 16 rfl rfl
set_option maxRecDepth 100000 in
theorem wc_yX7_gainOf : Cond.code yX7_gainOf cX7_gainOf 4 (some .int) ∈ gW := gW_t7 19 rfl rfl
theorem cv_RX7_325 : CV RX7 325 yX7_gainOf cX7_gainOf 4 (some .int) 2 := ⟨wm_RX7_325, wc_yX7_gainOf, wi_TwoWidthsModel, ⟨by decide, by decide⟩, by decide +kernel⟩
set_option maxRecDepth 100000 in
theorem wn_yX7_gainOf : Cond.instanceMethod yX7_gainOf ∈ gW := gW_t7 18 rfl rfl
set_option maxRecDepth 100000 in
theorem wv_yX7_gainOf : Cond.selects RX7 yX7_gainOf yX7_gainOf ∈ gW := gW_mem 65 rfl rfl
theorem iv_yX7_gainOf : Cond.instanceMethod yX7_gainOf ∈ gW ∧ Cond.selects yX7_gainOf.cls yX7_gainOf yX7_gainOf ∈ gW := ⟨wn_yX7_gainOf, wv_yX7_gainOf⟩
set_option maxRecDepth 100000 in
theorem wm_RX7_331 : Cond.methodLink RX7 331 yX7_wrongAt ∈ gW := gW_t7 32 rfl rfl
set_option maxRecDepth 100000 in
theorem wc_yX7_wrongAt : Cond.code yX7_wrongAt cX7_wrongAt 5 (some .int) ∈ gW := gW_t7 35 rfl rfl
theorem cv_RX7_331 : CV RX7 331 yX7_wrongAt cX7_wrongAt 5 (some .int) 2 := ⟨wm_RX7_331, wc_yX7_wrongAt, wi_TwoWidthsModel, ⟨by decide, by decide⟩, by decide +kernel⟩
set_option maxRecDepth 100000 in
theorem wn_yX7_wrongAt : Cond.instanceMethod yX7_wrongAt ∈ gW := gW_t7 34 rfl rfl
set_option maxRecDepth 100000 in
theorem wv_yX7_wrongAt : Cond.selects RX7 yX7_wrongAt yX7_wrongAt ∈ gW := gW_mem 67 rfl rfl
theorem iv_yX7_wrongAt : Cond.instanceMethod yX7_wrongAt ∈ gW ∧ Cond.selects yX7_wrongAt.cls yX7_wrongAt yX7_wrongAt ∈ gW := ⟨wn_yX7_wrongAt, wv_yX7_wrongAt⟩
set_option maxRecDepth 100000 in
theorem wm_RX7_328 : Cond.methodLink RX7 328 yX7_noRow ∈ gW := gW_t7 28 rfl rfl
set_option maxRecDepth 100000 in
theorem wc_yX7_noRow : Cond.code yX7_noRow cX7_noRow 3 (some .int) ∈ gW := gW_t7 31 rfl rfl
theorem cv_RX7_328 : CV RX7 328 yX7_noRow cX7_noRow 3 (some .int) 2 := ⟨wm_RX7_328, wc_yX7_noRow, wi_TwoWidthsModel, ⟨by decide, by decide⟩, by decide +kernel⟩
set_option maxRecDepth 100000 in
theorem wn_yX7_noRow : Cond.instanceMethod yX7_noRow ∈ gW := gW_t7 30 rfl rfl
set_option maxRecDepth 100000 in
theorem wv_yX7_noRow : Cond.selects RX7 yX7_noRow yX7_noRow ∈ gW := gW_mem 66 rfl rfl
theorem iv_yX7_noRow : Cond.instanceMethod yX7_noRow ∈ gW ∧ Cond.selects yX7_noRow.cls yX7_noRow yX7_noRow ∈ gW := ⟨wn_yX7_noRow, wv_yX7_noRow⟩
set_option maxRecDepth 100000 in
theorem wm_RX7_340 : Cond.methodLink RX7 340 yX7_goes ∈ gW := gW_t7 44 rfl rfl
set_option maxRecDepth 100000 in
theorem wc_yX7_goes : Cond.code yX7_goes cX7_goes 3 (some .int) ∈ gW := gW_t7 47 rfl rfl
theorem cv_RX7_340 : CV RX7 340 yX7_goes cX7_goes 3 (some .int) 1 := ⟨wm_RX7_340, wc_yX7_goes, wi_TwoWidthsModel, ⟨by decide, by decide⟩, by decide +kernel⟩
set_option maxRecDepth 100000 in
theorem wn_yX7_goes : Cond.instanceMethod yX7_goes ∈ gW := gW_t7 46 rfl rfl
set_option maxRecDepth 100000 in
theorem wv_yX7_goes : Cond.selects RX7 yX7_goes yX7_goes ∈ gW := gW_mem 68 rfl rfl
theorem iv_yX7_goes : Cond.instanceMethod yX7_goes ∈ gW ∧ Cond.selects yX7_goes.cls yX7_goes yX7_goes ∈ gW := ⟨wn_yX7_goes, wv_yX7_goes⟩
set_option maxRecDepth 100000 in
theorem wk_RX7_343 : Cond.constantLong RX7 343 (20) ∈ gW := gW_t7 52 rfl rfl
set_option maxRecDepth 100000 in
theorem wf_RX7_353 : Cond.fieldLink RX7 353 "TwoWidthsModel" "kept" "LTwoWidthsModel;" ∈ gW := gW_t5 61 rfl rfl
theorem fo_RX7_353 : FO RX7 353 7 20 := ⟨RX7, TX7, 38, rfl, by decide, wf_RX7_353, wl_X7⟩
set_option maxRecDepth 100000 in
theorem wk_RX7_356 : Cond.constantLong RX7 356 (12) ∈ gW := gW_t7 65 rfl rfl
set_option maxRecDepth 100000 in
theorem wk_RX7_358 : Cond.constantLong RX7 358 (16) ∈ gW := gW_t7 66 rfl rfl
end
section
/-! String.length and String.charAt of the text constants -/
def slen (p : Nat) : Option Int32 := match strT[p]? with
  | some q => some (Int32.ofNat q.2.2.2.length)
  | none => none
def schar (p : Nat) (i : Int32) : Option Int32 := match strT[p]? with
  | some q => rd q.2.2.2.length (fun j => q.2.2.2.getD j 0) i
  | none => none
section BT
variable {d : DT} {Φ : JC} {own nm : String} {cc : ByteArray} {nL : Nat} {ret : Option FieldType} {rm : Room} {gs : List va_W} {ce sl pc n : Nat} {L : List (Nat × Value)} {st : List Value}
theorem J_cst (hK : Ok d Φ own nm cc nL ret rm) {ix : Nat} (hd : decode cc pc = .ok (.getstatic ix, 3)) (hn : pc + 3 = n) (hw : Cond.fieldLink own ix "java/lang/String" "COMPACT_STRINGS" "Z" ∈ gW) (kk : J d Φ nL gs ce sl n L (.int 1 :: st)) : J d Φ nL gs ce sl pc L st := by
  subst hn
  intro H locs ls hP hD hS hl
  exact va_gets hK.1 hK.2.1 hK.2.2.2.2.2.2.2.2.2.2.2.2.2.2.2.2.1 hS hK.2.2.2.1 (hK.2.2.2.2.1 _ hw) (fun _ h => h) hd (kk H locs ls hP hD hS hl)
theorem J_fmt (hK : Ok d Φ own nm cc nL ret rm) {ix : Nat} (hd : decode cc pc = .ok (.getstatic ix, 3)) (hn : pc + 3 = n) (hw : Cond.fieldLink own ix "jdk/internal/util/Preconditions" "SIOOBE_FORMATTER" "Ljava/util/function/BiFunction;" ∈ gW) (kk : ∀ w : Value, w.category = 1 → J d Φ nL gs ce sl n L (w :: st)) : J d Φ nL gs ce sl pc L st := by
  subst hn
  intro H locs ls hP hD hS hl
  rcases hK.2.2.2.2.2.2.2.2.2.2.2.2.2.2.2.2.2.1 with h | ⟨t, h⟩
  · exact va_gets hK.1 hK.2.1 h hS hK.2.2.2.1 (hK.2.2.2.2.1 _ hw) (fun _ h => h) hd (kk .null rfl H locs ls hP hD hS hl)
  · exact va_gets hK.1 hK.2.1 h hS hK.2.2.2.1 (hK.2.2.2.2.1 _ hw) (fun _ h => h) hd (kk (.ref t) rfl H locs ls hP hD hS hl)
theorem J_sget (hK : Ok d Φ own nm cc nL ret rm) {ix : Nat} {fn fd : String} {v : Value} {a : Nat} (hd : decode cc pc = .ok (.getfield ix, 3)) (hn : pc + 3 = n) (hw : Cond.fieldLink own ix "java/lang/String" fn fd ∈ gW) (hE : va_OF "java/lang/String" fn fd v a Φ.2.2.2.2.2.2.2.2.2.2.1 Φ.2.2.2.2.1 Φ.2.2.2.2.1.heap) (kk : J d Φ nL gs ce sl n L (v :: st)) : J d Φ nL gs ce sl pc L (.ref a :: st) := by
  subst hn
  intro H locs ls hP hD hS hl
  exact vk_getf hK.1 hK.2.1 hE hS hK.2.2.2.1 (hK.2.2.2.2.1 _ hw) (fun _ h => h) hd (kk H locs ls hP hD hS hl)
theorem J_stlen (hK : Ok d Φ own nm cc nL ret rm) {ty : FieldType} {t N : Nat} {f : Nat → Value} (hd : decode cc pc = .ok (.arraylength, 1)) (hn : pc + 1 = n) (hT : va_T ty t N f Φ.2.2.2.2.2.2.2.2.2.2.1 Φ.2.2.2.2.1 Φ.2.2.2.2.1.heap) (kk : J d Φ nL gs ce sl n L (.int (Int32.ofNat N) :: st)) : J d Φ nL gs ce sl pc L (.ref t :: st) := by
  subst hn
  intro H locs ls hP hD hS hl
  exact va_tlen hK.1 hK.2.1 hT hS rfl hd (kk H locs ls hP hD hS hl)
theorem J_stb (hK : Ok d Φ own nm cc nL ret rm) {t N : Nat} {f : Nat → Value} {x : Int32} {v : Value} (hd : decode cc pc = .ok (.baload, 1)) (hn : pc + 1 = n) (hT : va_T .byte t N f Φ.2.2.2.2.2.2.2.2.2.2.1 Φ.2.2.2.2.1 Φ.2.2.2.2.1.heap) (hin : inb x N = true) (hv : f x.toNatClampNeg = v) (kk : J d Φ nL gs ce sl n L (v :: st)) : J d Φ nL gs ce sl pc L (.int x :: .ref t :: st) := by
  subst hn
  intro H locs ls hP hD hS hl
  exact va_tb hK.1 hK.2.1 hT hS (inb_vp hin) hv hd (kk H locs ls hP hD hS hl)
end BT
theorem Ok.str {d : DT} {Φ : JC} {own nm : String} {cc : ByteArray} {nL : Nat} {ret : Option FieldType} {rm : Room} (hK : Ok d Φ own nm cc nL ret rm) {p : Nat} {q : String × Nat × String × List Int32} (h : strT[p]? = some q) : sK1 d Φ.2.2.2.2.2.2.2.2.2.2.1 Φ.2.2.2.2.1 Φ.2.2.2.2.1.heap p q := hK.2.2.2.2.2.2.2.2.2.2.2.2.2.2.2.2.2.2 p q h
set_option maxHeartbeats 4000000 in
theorem kJ_coder (l : Launch) (d : DT) (p : Nat) {q : String × Nat × String × List Int32} (hq : strT[p]? = some q) : Ct l d yJ0_coder_7d493 cJ0_coder_7d493 1 (some .byte) { frames := 0, cells := 0, slots := 0, locals := 0 } [.ref (d.2.2.2.1 p)] [] (fun _ : Unit => (some (.int 0), [])) := by
  refine Ct.of (by decide) (Nat.le_of_ble_eq_true rfl) ?_
  intro Φ hl hK hR
  subst hl
  have hK : Ok d Φ RJ0 "coder" cJ0_coder_7d493 1 (some .byte) { frames := 0, cells := 0, slots := 0, locals := 0 } := hK
  have hs := hK.str hq
  show J d Φ 1 [] 0 0 0 [(0, .ref (d.2.2.2.1 p))] []
  refine J_cst hK qd4_126.1 rfl wf_RJ0_38 ?_
  refine J_if_eq (tg := 13) hK qd4_126.2.1 rfl rfl (fun hc => absurd hc (by decide)) (fun _ => ?_)
  refine J_aload_n hK qd4_126.2.2.1 rfl 0 rfl rfl ?_
  refine J_sget hK qd4_126.2.2.2.1 rfl wf_RJ0_15 hs.2.1 ?_
  refine J_goto hK qd4_126.2.2.2.2.1 (n := 14) rfl ?_
  exact J_zret hK hR qd4_126.2.2.2.2.2.2.1 () rfl rfl (by decide) (by decide)
set_option maxHeartbeats 4000000 in
theorem kJ_isLatin1 (l : Launch) (d : DT) (p : Nat) {q : String × Nat × String × List Int32} (hq : strT[p]? = some q) : Ct l d yJ0_isLatin1_aae02 cJ0_isLatin1_aae02 1 (some .boolean) { frames := 0, cells := 0, slots := 0, locals := 0 } [.ref (d.2.2.2.1 p)] [] (fun _ : Unit => (some (.int 1), [])) := by
  refine Ct.of (by decide) (Nat.le_of_ble_eq_true rfl) ?_
  intro Φ hl hK hR
  subst hl
  have hK : Ok d Φ RJ0 "isLatin1" cJ0_isLatin1_aae02 1 (some .boolean) { frames := 0, cells := 0, slots := 0, locals := 0 } := hK
  have hs := hK.str hq
  show J d Φ 1 [] 0 0 0 [(0, .ref (d.2.2.2.1 p))] []
  refine J_cst hK qd4_127.1 rfl wf_RJ0_38 ?_
  refine J_if_eq (tg := 17) hK qd4_127.2.1 rfl rfl (fun hc => absurd hc (by decide)) (fun _ => ?_)
  refine J_aload_n hK qd4_127.2.2.1 rfl 0 rfl rfl ?_
  refine J_sget hK qd4_127.2.2.2.1 rfl wf_RJ0_15 hs.2.1 ?_
  refine J_if_ne (tg := 17) hK qd4_127.2.2.2.2.1 rfl rfl (fun hc => absurd rfl hc) (fun _ => ?_)
  refine J_iconst (v := 1) hK qd4_127.2.2.2.2.2.1 rfl (by decide) ?_
  refine J_goto hK qd4_127.2.2.2.2.2.2.1 (n := 18) rfl ?_
  exact J_zret hK hR qd4_127.2.2.2.2.2.2.2.2.1 () rfl rfl (by decide) (by decide)
set_option maxHeartbeats 4000000 in
theorem kJ_length (l : Launch) (d : DT) (p : Nat) {v : Int32} (hv : slen p = some v) : Ct l d yJ0_length_8abf5 cJ0_length_8abf5 1 (some .int) { frames := 1, cells := 0, slots := 0, locals := 20 } [.ref (d.2.2.2.1 p)] [] (fun _ : Unit => (some (.int v), [])) := by
  unfold slen at hv
  split at hv
  case h_2 => cases hv
  case h_1 q hq =>
  cases hv
  refine Ct.of (by decide) (Nat.le_of_ble_eq_true rfl) ?_
  intro Φ hl hK hR
  subst hl
  have hK : Ok d Φ RJ0 "length" cJ0_length_8abf5 1 (some .int) { frames := 1, cells := 0, slots := 0, locals := 20 } := hK
  have hs := hK.str hq
  show J d Φ 1 [] 0 0 0 [(0, .ref (d.2.2.2.1 p))] []
  refine J_aload_n hK qd4_124.1 rfl 0 rfl rfl ?_
  refine J_sget hK qd4_124.2.1 rfl wf_RJ0_9 hs.2.2.1 ?_
  refine J_stlen hK qd4_124.2.2.1 rfl hs.2.2.2.1 ?_
  refine J_aload_n hK qd4_124.2.2.2.1 rfl 0 rfl rfl ?_
  refine J_callT (m' := 0) (m := 0) (gr := []) (gs' := fun _ => []) (st' := fun _ => [.int 0, .int (Int32.ofNat q.2.2.2.length)]) (st := [.int (Int32.ofNat q.2.2.2.length)]) hK qd4_124.2.2.2.2.1 cv_RJ0_335 iv_yJ0_coder_7d493 (As := []) (kJ_coder _ d p hq) rfl rfl (Nat.le_of_ble_eq_true rfl) (by decide) hs.1 [] [] rfl (by decide +kernel) rfl rfl [] (by decide +kernel) (fun _ => rfl) (fun _ => rfl) rfl rfl rfl (fun _ => rfl) (fun _ => ?_)
  refine J_ishr hK qd4_124.2.2.2.2.2.1 rfl ?_
  rw [sb_shr0]
  exact J_iret hK hR qd4_124.2.2.2.2.2.2.1 () rfl (by decide) (by decide)
set_option maxHeartbeats 4000000 in
theorem kJ_pre (l : Launch) (d : DT) (x y : Int32) (w : Value) (hw : w.category = 1) (h1 : ¬ x < 0) (h2 : x < y) : Ct l d yJ3_checkIndex_8e157 cJ3_checkIndex_8e157 3 (some .int) { frames := 0, cells := 0, slots := 0, locals := 0 } [.int x, .int y, w] [] (fun _ : Unit => (some (.int x), [])) := by
  refine Ct.of (by decide) (by show (lg_sl [.int x, .int y, w]).length ≤ 3; cases w <;> first | exact Nat.le_of_ble_eq_true rfl | cases hw) ?_
  intro Φ hl hK hR
  subst hl
  have hK : Ok d Φ RJ3 "checkIndex" cJ3_checkIndex_8e157 3 (some .int) { frames := 0, cells := 0, slots := 0, locals := 0 } := hK
  show J d Φ 3 [] 0 0 0 [(0, .int x), (1, .int y), (2, w)] []
  refine J_iload_n hK qd5_5.1 rfl 0 rfl rfl ?_
  refine J_if_lt (tg := 9) hK qd5_5.2.1 rfl rfl (fun hc => absurd hc h1) (fun _ => ?_)
  refine J_iload_n hK qd5_5.2.2.1 rfl 0 rfl rfl ?_
  refine J_iload_n hK qd5_5.2.2.2.1 rfl 1 rfl rfl ?_
  refine J_icmp_lt (tg := 16) hK qd5_5.2.2.2.2.1 rfl rfl (fun _ => ?_) (fun hc => absurd h2 hc)
  refine J_iload_n hK qd5_5.2.2.2.2.2.2.2.2.2.2.1 rfl 0 rfl rfl ?_
  exact J_iret hK hR qd5_5.2.2.2.2.2.2.2.2.2.2.2.1 () rfl (by decide) (by decide)
set_option maxHeartbeats 4000000 in
theorem kJ_check (l : Launch) (d : DT) (x y : Int32) (h1 : ¬ x < 0) (h2 : x < y) : Ct l d yJ0_checkIndex_df160 cJ0_checkIndex_df160 2 none { frames := 1, cells := 0, slots := 0, locals := 22 } [.int x, .int y] [] (fun _ : Unit => (none, [])) := by
  refine Ct.of (by decide) (Nat.le_of_ble_eq_true rfl) ?_
  intro Φ hl hK hR
  subst hl
  have hK : Ok d Φ RJ0 "checkIndex" cJ0_checkIndex_df160 2 none { frames := 1, cells := 0, slots := 0, locals := 22 } := hK
  show J d Φ 2 [] 0 0 0 [(0, .int x), (1, .int y)] []
  refine J_iload_n hK qd4_128.1 rfl 0 rfl rfl ?_
  refine J_iload_n hK qd4_128.2.1 rfl 1 rfl rfl ?_
  refine J_fmt hK qd4_128.2.2.1 rfl wf_RJ0_1053 (fun w hw => ?_)
  refine J_callS (m' := 0) (m := 0) (gr := []) (gs' := fun _ => []) (st' := fun _ => [.int x]) (st := []) hK qd4_128.2.2.2.1 cv_RJ0_1059 ws_yJ3_checkIndex_8e157 (As := [.int x, .int y, w]) (kJ_pre _ d x y w hw h1 h2) rfl rfl (Nat.le_of_ble_eq_true rfl) (by decide) [] [] rfl (by decide +kernel) rfl rfl [] (by decide +kernel) (fun _ => rfl) (fun _ => rfl) rfl rfl rfl (fun _ => rfl) (fun _ => ?_)
  refine J_pop hK qd4_128.2.2.2.2.1 rfl rfl ?_
  exact J_vret hK hR qd4_128.2.2.2.2.2.1 () rfl (by decide) (by decide)
theorem str_some_length {p : Nat} {v : Int32} (h : slen p = some v) : ∃ q, strT[p]? = some q := by
  unfold slen at h
  split at h
  · next q hq => exact ⟨q, hq⟩
  · cases h
theorem str_some_charAt {p : Nat} {i v : Int32} (h : schar p i = some v) : ∃ q, strT[p]? = some q := by
  unfold schar at h
  split at h
  · next q hq => exact ⟨q, hq⟩
  · cases h
theorem str_ascii : ∀ q ∈ strT, ∀ b ∈ q.2.2.2, ((b &&& 255).toUInt32 % 65536).toInt32 = b ∧ narrow .char (.int b) = .int b := by decide +kernel
theorem str_len : ∀ q ∈ strT, q.2.2.2.length < 100 := by decide +kernel
set_option maxHeartbeats 4000000 in
theorem kJ_latin (l : Launch) (d : DT) (p : Nat) {q : String × Nat × String × List Int32} (hq : strT[p]? = some q) (x : Int32) {v : Int32} (hv : rd q.2.2.2.length (fun j => q.2.2.2.getD j 0) x = some v) : Ct l d yJ1_charAt_3b067 cJ1_charAt_3b067 2 (some .char) { frames := 2, cells := 0, slots := 0, locals := 43 } [.ref (d.2.2.2.2 p), .int x] [] (fun _ : Unit => (some (.int v), [])) := by
  obtain ⟨hin, rfl⟩ := rd_ok hv
  have hlt : x.toNatClampNeg < q.2.2.2.length := Nat.not_le.mp fun z => (inb_vp hin) (Or.inr z)
  have hneg : ¬ x < 0 := fun z => (inb_vp hin) (Or.inl z)
  have hlen := str_len q (List.mem_of_getElem? hq)
  have hmem : q.2.2.2.getD x.toNatClampNeg 0 ∈ q.2.2.2 := by rw [List.getD_eq_getElem?_getD, List.getElem?_eq_getElem hlt]; exact List.getElem_mem hlt
  have hasc := str_ascii q (List.mem_of_getElem? hq) _ hmem
  have hlt2 : x < Int32.ofNat q.2.2.2.length := by
    obtain ⟨j, hj, rfl⟩ := vp_in_of (inb_vp hin) (by omega)
    exact nI_lt hj (by omega)
  refine Ct.of (by decide) (Nat.le_of_ble_eq_true rfl) ?_
  intro Φ hl hK hR
  subst hl
  have hK : Ok d Φ RJ1 "charAt" cJ1_charAt_3b067 2 (some .char) { frames := 2, cells := 0, slots := 0, locals := 43 } := hK
  have hs := hK.str hq
  show J d Φ 2 [] 0 0 0 [(0, .ref (d.2.2.2.2 p)), (1, .int x)] []
  refine J_iload_n hK qd4_129.1 rfl 1 rfl rfl ?_
  refine J_aload_n hK qd4_129.2.1 rfl 0 rfl rfl ?_
  refine J_stlen hK qd4_129.2.2.1 rfl hs.2.2.2.1 ?_
  refine J_callS (m' := 0) (m := 0) (gr := []) (gs' := fun _ => []) (st' := fun _ => []) (st := []) hK qd4_129.2.2.2.1 cv_RJ1_9 ws_yJ0_checkIndex_df160 (As := [.int x, .int (Int32.ofNat q.2.2.2.length)]) (kJ_check _ d x _ hneg hlt2) rfl rfl (Nat.le_of_ble_eq_true rfl) (by decide) [] [] rfl (by decide +kernel) rfl rfl [] (by decide +kernel) (fun _ => rfl) (fun _ => rfl) rfl rfl rfl (fun _ => rfl) (fun _ => ?_)
  refine J_aload_n hK qd4_129.2.2.2.2.1 rfl 0 rfl rfl ?_
  refine J_iload_n hK qd4_129.2.2.2.2.2.1 rfl 1 rfl rfl ?_
  refine J_stb (v := .int (q.2.2.2.getD x.toNatClampNeg 0)) hK qd4_129.2.2.2.2.2.2.1 rfl hs.2.2.2.1 hin rfl ?_
  refine J_sipush (v := 255) hK qd4_129.2.2.2.2.2.2.2.1 rfl (by decide) ?_
  refine J_iand hK qd4_129.2.2.2.2.2.2.2.2.1 rfl ?_
  refine J_i2c hK qd4_129.2.2.2.2.2.2.2.2.2.1 rfl ?_
  rw [hasc.1]
  exact J_zret hK hR qd4_129.2.2.2.2.2.2.2.2.2.2.1 () hasc.2 rfl (by decide) (by decide)
set_option maxHeartbeats 4000000 in
theorem kJ_charAt (l : Launch) (d : DT) (p : Nat) (x : Int32) {v : Int32} (hv : schar p x = some v) : Ct l d yJ0_charAt_5068e cJ0_charAt_5068e 2 (some .char) { frames := 3, cells := 0, slots := 0, locals := 64 } [.ref (d.2.2.2.1 p), .int x] [] (fun _ : Unit => (some (.int v), [])) := by
  unfold schar at hv
  split at hv
  case h_2 => cases hv
  case h_1 q hq =>
  have hch : narrow .char (.int v) = .int v := by
    obtain ⟨hin, rfl⟩ := rd_ok hv
    have hlt : x.toNatClampNeg < q.2.2.2.length := Nat.not_le.mp fun z => (inb_vp hin) (Or.inr z)
    have hmem : q.2.2.2.getD x.toNatClampNeg 0 ∈ q.2.2.2 := by rw [List.getD_eq_getElem?_getD, List.getElem?_eq_getElem hlt]; exact List.getElem_mem hlt
    exact (str_ascii q (List.mem_of_getElem? hq) _ hmem).2
  refine Ct.of (by decide) (Nat.le_of_ble_eq_true rfl) ?_
  intro Φ hl hK hR
  subst hl
  have hK : Ok d Φ RJ0 "charAt" cJ0_charAt_5068e 2 (some .char) { frames := 3, cells := 0, slots := 0, locals := 64 } := hK
  have hs := hK.str hq
  show J d Φ 2 [] 0 0 0 [(0, .ref (d.2.2.2.1 p)), (1, .int x)] []
  refine J_aload_n hK qd4_125.1 rfl 0 rfl rfl ?_
  refine J_callT (m' := 0) (m := 0) (gr := []) (gs' := fun _ => []) (st' := fun _ => [.int 1]) (st := []) hK qd4_125.2.1 cv_RJ0_492 iv_yJ0_isLatin1_aae02 (As := []) (kJ_isLatin1 _ d p hq) rfl rfl (Nat.le_of_ble_eq_true rfl) (by decide) hs.1 [] [] rfl (by decide +kernel) rfl rfl [] (by decide +kernel) (fun _ => rfl) (fun _ => rfl) rfl rfl rfl (fun _ => rfl) (fun _ => ?_)
  refine J_if_eq (tg := 16) hK qd4_125.2.2.1 rfl rfl (fun hc => absurd hc (by decide)) (fun _ => ?_)
  refine J_aload_n hK qd4_125.2.2.2.1 rfl 0 rfl rfl ?_
  refine J_sget hK qd4_125.2.2.2.2.1 rfl wf_RJ0_9 hs.2.2.1 ?_
  refine J_iload_n hK qd4_125.2.2.2.2.2.1 rfl 1 rfl rfl ?_
  refine J_callS (m' := 0) (m := 0) (gr := []) (gs' := fun _ => []) (st' := fun _ => [.int v]) (st := []) hK qd4_125.2.2.2.2.2.2.1 cv_RJ0_495 ws_yJ1_charAt_3b067 (As := [.ref (d.2.2.2.2 p), .int x]) (kJ_latin _ d p hq x hv) rfl rfl (Nat.le_of_ble_eq_true rfl) (by decide) [] [] rfl (by decide +kernel) rfl rfl [] (by decide +kernel) (fun _ => rfl) (fun _ => rfl) rfl rfl rfl (fun _ => rfl) (fun _ => ?_)
  exact J_zret hK hR qd4_125.2.2.2.2.2.2.2.1 () hch rfl (by decide) (by decide)
end

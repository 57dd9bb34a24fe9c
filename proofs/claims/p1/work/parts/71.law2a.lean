theorem lgc_self (a : Int64) : lg_cmp a a = 0 := by unfold lg_cmp; simp
set_option maxHeartbeats 4000000 in
set_option maxRecDepth 100000 in
theorem cs_0 {d : DT} {Φ : JC} {nm : String} (hK : Ok d Φ RL nm cL_law 4 (some .boolean) room_1) {b : Nat} {xs : Nat → Int32} (hX : Scr Φ b 7 xs) (h0 : Nat → Nat) (h1 : Nat → Nat) (h2 : Nat → Nat) (h3 : Nat → Nat) (h4 : Nat → Nat) (h6 : Nat → Nat) (h7 : Nat → Nat) (h8 : Nat → Nat) (h9 : Nat → Nat) (h10 : Nat → Nat) (rE hm rr rl rg rw : Nat → Nat) (tail : ∀ {ce sl : Nat}, ce ≤ 600000 → sl ≤ 7302250 → J d Φ 4 [] ce sl 1595 [(3, .int 0), (2, .ref (hm 0)), (1, .ref (h0 0)), (0, .ref b)] []) : J d Φ 4 [gTw d h0 (h1 0) (h2 0) (h3 0) (h4 0) (h6 0) (h7 0) (fun _ => 0) 0 0 0, gLd d h1 0 0 0 10 (fun _ => 0) (fun _ => 0) (fun _ => 0) (fillV 12 9 (fun _ => 0)) (fillV 3 1 (fun _ => 0)) (fun _ => 0) 0, gLd d h2 0 0 0 10 (fun _ => 0) (fun _ => 0) (fun _ => 0) (fillV 12 9 (fun _ => 0)) (fillV 3 1 (fun _ => 0)) (fun _ => 0) 0, gTp d h3 (fun _ => 0) 0 0 0 0 0, gSh d h4 rE (fillV 8 (-1) (fun _ => 0)) (fun _ => 0), gridJ d rE 8 40 (fun _ _ => 0), gCh d h6 (h7 0) (h9 0) (h10 0) (fun _ => 0), gTr d h7 (h8 0) (fun _ => 0) (fun _ => 0) 0 0, gWy d h8 (fun _ => 0) (fun _ => 0) (fun _ => 0) (fun _ => 0) (fun _ => 0) (fun _ => 0) (fun _ => 0) (fun _ => 0) 0 (fun _ => 0) 0 0 0 (-1), gLd d h9 0 0 0 10 (fun _ => 0) (fun _ => 0) (fun _ => 0) (fillV 12 9 (fun _ => 0)) (fillV 3 1 (fun _ => 0)) (fun _ => 0) 0, gLd d h10 0 0 0 10 (fun _ => 0) (fun _ => 0) (fun _ => 0) (fillV 12 9 (fun _ => 0)) (fillV 3 1 (fun _ => 0)) (fun _ => 0) 0, gMd d hm none none none rr rl rg rw (fun _ => 0) (fun _ => 0) (fun _ => 0) (fun _ => 0) (fun _ => 0) (fun _ => 0) 0 (fun _ => 0) 0 (fillV 12 9 (fun _ => 0)) (va_up (va_up (va_up (fun _ => 0) 0 1) 1 1) 2 1) 0 0 10 0 0 0 0 0 0 0 (fun _ => 0) 0 (fun _ => 0) (fun _ => 0) 0 (fun _ => 0) 0 0 (fun _ => 0) (fun _ => 0), gridJ d rr 8 40 (fun _ _ => 0), gridI d rl 20 7 (fun _ _ => 0), gridI d rg 8 3 (fun _ _ => 0), gridI d rw 7 5 (fun _ _ => 0)] 122 3685 232 [(3, .int 0), (2, .ref (hm 0)), (1, .ref (h0 0)), (0, .ref b)] [] := by
  refine J_aload_n hK dL_law_232 rfl 2 rfl rfl ?_
  refine J_aload_n hK dL_law_233 rfl 3 rfl rfl ?_
  refine J_iload_n hK dL_law_234 rfl 0 rfl rfl ?_
  refine J_iconst (v := 1) hK dL_law_235 rfl (by decide) ?_
  refine J_iadd hK dL_law_236 rfl ?_
  refine J_sld (v := xs 1) hK hX dL_law_237 rfl rfl ?_
  refine J_aload_n hK dL_law_238 rfl 3 rfl rfl ?_
  refine J_iload_n hK dL_law_239 rfl 0 rfl rfl ?_
  refine J_iconst (v := 2) hK dL_law_240 rfl (by decide) ?_
  refine J_iadd hK dL_law_241 rfl ?_
  refine J_sld (v := xs 2) hK hX dL_law_242 rfl rfl ?_
  refine J_aload_n hK dL_law_243 rfl 3 rfl rfl ?_
  refine J_iload_n hK dL_law_244 rfl 0 rfl rfl ?_
  refine J_iconst (v := 3) hK dL_law_245 rfl (by decide) ?_
  refine J_iadd hK dL_law_246 rfl ?_
  refine J_sld (v := xs 3) hK hX dL_law_247 rfl rfl ?_
  obtain ⟨ox, om, hx, hom, he⟩ := pe_0 (xs 1) (xs 2) (xs 3)
  refine J_callVd (m := 16) (ce' := 122) (sl' := 3685) (gr := [gLd d h1 0 0 0 10 (fun _ => 0) (fun _ => 0) (fun _ => 0) (fillV 12 9 (fun _ => 0)) (fillV 3 1 (fun _ => 0)) (fun _ => 0) 0, gLd d h2 0 0 0 10 (fun _ => 0) (fun _ => 0) (fun _ => 0) (fillV 12 9 (fun _ => 0)) (fillV 3 1 (fun _ => 0)) (fun _ => 0) 0, gTp d h3 (fun _ => 0) 0 0 0 0 0, gCh d h6 (h7 0) (h9 0) (h10 0) (fun _ => 0), gTr d h7 (h8 0) (fun _ => 0) (fun _ => 0) 0 0, gWy d h8 (fun _ => 0) (fun _ => 0) (fun _ => 0) (fun _ => 0) (fun _ => 0) (fun _ => 0) (fun _ => 0) (fun _ => 0) 0 (fun _ => 0) 0 0 0 (-1), gLd d h9 0 0 0 10 (fun _ => 0) (fun _ => 0) (fun _ => 0) (fillV 12 9 (fun _ => 0)) (fillV 3 1 (fun _ => 0)) (fun _ => 0) 0, gLd d h10 0 0 0 10 (fun _ => 0) (fun _ => 0) (fun _ => 0) (fillV 12 9 (fun _ => 0)) (fillV 3 1 (fun _ => 0)) (fun _ => 0) 0, gMd d hm none none none rr rl rg rw (fun _ => 0) (fun _ => 0) (fun _ => 0) (fun _ => 0) (fun _ => 0) (fun _ => 0) 0 (fun _ => 0) 0 (fillV 12 9 (fun _ => 0)) (va_up (va_up (va_up (fun _ => 0) 0 1) 1 1) 2 1) 0 0 10 0 0 0 0 0 0 0 (fun _ => 0) 0 (fun _ => 0) (fun _ => 0) 0 (fun _ => 0) 0 0 (fun _ => 0) (fun _ => 0), gridJ d rr 8 40 (fun _ _ => 0), gridI d rl 20 7 (fun _ _ => 0), gridI d rg 8 3 (fun _ _ => 0), gridI d rw 7 5 (fun _ _ => 0)]) (v := .int (ox.1)) (st := []) hK dL_law_248 cv_RL_13 iv_yX6_row (As := [.int (xs 1), .int (xs 2), .int (xs 3)]) (kX6_row _ d h0 (h1 0) (h2 0) (h3 0) (h6 0) (h7 0) h4 rE 1000 (fun _ => 0) 0 0 0 (fun _ _ => 0) (fillV 8 (-1) (fun _ => 0)) (fun _ => 0) (xs 1) (xs 2) (xs 3) hx) (fun _ => rfl) rfl rfl (Nat.le_of_ble_eq_true rfl) (by decide) 0 0 rfl rfl rfl [0, 4, 5] [1, 2, 3, 6, 7, 8, 9, 10, 11, 12, 13, 14, 15] rfl (by decide +kernel) rfl rfl rfl rfl rfl ?_
  refine J_drp (gs2 := [gMd d hm none none none rr rl rg rw (fun _ => 0) (fun _ => 0) (fun _ => 0) (fun _ => 0) (fun _ => 0) (fun _ => 0) 0 (fun _ => 0) 0 (fillV 12 9 (fun _ => 0)) (va_up (va_up (va_up (fun _ => 0) 0 1) 1 1) 2 1) 0 0 10 0 0 0 0 0 0 0 (fun _ => 0) 0 (fun _ => 0) (fun _ => 0) 0 (fun _ => 0) 0 0 (fun _ => 0) (fun _ => 0), gridJ d rr 8 40 (fun _ _ => 0), gridI d rl 20 7 (fun _ _ => 0), gridI d rg 8 3 (fun _ _ => 0), gridI d rw 7 5 (fun _ _ => 0)]) 8 rfl ?_
  refine J_aload_n hK dL_law_251 rfl 1 rfl rfl ?_
  refine J_aload_n hK dL_law_252 rfl 3 rfl rfl ?_
  refine J_iload_n hK dL_law_253 rfl 0 rfl rfl ?_
  refine J_iconst (v := 1) hK dL_law_254 rfl (by decide) ?_
  refine J_iadd hK dL_law_255 rfl ?_
  refine J_sld (v := xs 1) hK hX dL_law_256 rfl rfl ?_
  refine J_aload_n hK dL_law_257 rfl 3 rfl rfl ?_
  refine J_iload_n hK dL_law_258 rfl 0 rfl rfl ?_
  refine J_iconst (v := 2) hK dL_law_259 rfl (by decide) ?_
  refine J_iadd hK dL_law_260 rfl ?_
  refine J_sld (v := xs 2) hK hX dL_law_261 rfl rfl ?_
  refine J_aload_n hK dL_law_262 rfl 3 rfl rfl ?_
  refine J_iload_n hK dL_law_263 rfl 0 rfl rfl ?_
  refine J_iconst (v := 3) hK dL_law_264 rfl (by decide) ?_
  refine J_iadd hK dL_law_265 rfl ?_
  refine J_sld (v := xs 3) hK hX dL_law_266 rfl rfl ?_
  refine J_callVd (m := 5) (ce' := 122) (sl' := 3685) (gr := [gridI d rl 20 7 (fun _ _ => 0), gridI d rg 8 3 (fun _ _ => 0), gridI d rw 7 5 (fun _ _ => 0)]) (v := .int (om.1)) (st := [.int (ox.1)]) hK dL_law_267 cv_RL_17 iv_yX7_row (As := [.int (xs 1), .int (xs 2), .int (xs 3)]) (kX7_row _ d hm rr rl rg rw none none none 1000 (fun _ => 0) (fun _ => 0) (fun _ => 0) (fun _ _ => 0) (fun _ => 0) (fun _ => 0) (fun _ => 0) 0 (fun _ => 0) 0 (fun _ _ => 0) (fillV 12 9 (fun _ => 0)) (va_up (va_up (va_up (fun _ => 0) 0 1) 1 1) 2 1) 0 (fun _ _ => 0) 0 (fun _ _ => 0) 10 0 0 0 0 0 0 0 (fun _ => 0) 0 (fun _ => 0) (fun _ => 0) 0 (fun _ => 0) 0 0 (fun _ => 0) (fun _ => 0) (xs 1) (xs 2) (xs 3) hom) (fun _ => rfl) rfl rfl (Nat.le_of_ble_eq_true rfl) (by decide) 0 0 rfl rfl rfl [0, 1] [2, 3, 4] rfl (by decide +kernel) rfl rfl rfl rfl rfl ?_
  refine J_icmp_eq (tg := 1595) hK dL_law_270 rfl rfl (fun _ => ?_) (fun h => absurd he h)
  exact J_nil (tail (by decide) (by decide))

set_option maxHeartbeats 4000000 in
set_option maxRecDepth 100000 in
theorem cs_1 {d : DT} {Φ : JC} {nm : String} (hK : Ok d Φ RL nm cL_law 4 (some .boolean) room_1) {b : Nat} {xs : Nat → Int32} (hX : Scr Φ b 7 xs) (h0 : Nat → Nat) (h1 : Nat → Nat) (h2 : Nat → Nat) (h3 : Nat → Nat) (h4 : Nat → Nat) (h6 : Nat → Nat) (h7 : Nat → Nat) (h8 : Nat → Nat) (h9 : Nat → Nat) (h10 : Nat → Nat) (rE hm rr rl rg rw : Nat → Nat) (tail : ∀ {ce sl : Nat}, ce ≤ 600000 → sl ≤ 7302250 → J d Φ 4 [] ce sl 1595 [(3, .int 0), (2, .ref (hm 0)), (1, .ref (h0 0)), (0, .ref b)] []) : J d Φ 4 [gTw d h0 (h1 0) (h2 0) (h3 0) (h4 0) (h6 0) (h7 0) (fun _ => 0) 0 0 0, gLd d h1 0 0 0 10 (fun _ => 0) (fun _ => 0) (fun _ => 0) (fillV 12 9 (fun _ => 0)) (fillV 3 1 (fun _ => 0)) (fun _ => 0) 0, gLd d h2 0 0 0 10 (fun _ => 0) (fun _ => 0) (fun _ => 0) (fillV 12 9 (fun _ => 0)) (fillV 3 1 (fun _ => 0)) (fun _ => 0) 0, gTp d h3 (fun _ => 0) 0 0 0 0 0, gSh d h4 rE (fillV 8 (-1) (fun _ => 0)) (fun _ => 0), gridJ d rE 8 40 (fun _ _ => 0), gCh d h6 (h7 0) (h9 0) (h10 0) (fun _ => 0), gTr d h7 (h8 0) (fun _ => 0) (fun _ => 0) 0 0, gWy d h8 (fun _ => 0) (fun _ => 0) (fun _ => 0) (fun _ => 0) (fun _ => 0) (fun _ => 0) (fun _ => 0) (fun _ => 0) 0 (fun _ => 0) 0 0 0 (-1), gLd d h9 0 0 0 10 (fun _ => 0) (fun _ => 0) (fun _ => 0) (fillV 12 9 (fun _ => 0)) (fillV 3 1 (fun _ => 0)) (fun _ => 0) 0, gLd d h10 0 0 0 10 (fun _ => 0) (fun _ => 0) (fun _ => 0) (fillV 12 9 (fun _ => 0)) (fillV 3 1 (fun _ => 0)) (fun _ => 0) 0, gMd d hm none none none rr rl rg rw (fun _ => 0) (fun _ => 0) (fun _ => 0) (fun _ => 0) (fun _ => 0) (fun _ => 0) 0 (fun _ => 0) 0 (fillV 12 9 (fun _ => 0)) (va_up (va_up (va_up (fun _ => 0) 0 1) 1 1) 2 1) 0 0 10 0 0 0 0 0 0 0 (fun _ => 0) 0 (fun _ => 0) (fun _ => 0) 0 (fun _ => 0) 0 0 (fun _ => 0) (fun _ => 0), gridJ d rr 8 40 (fun _ _ => 0), gridI d rl 20 7 (fun _ _ => 0), gridI d rg 8 3 (fun _ _ => 0), gridI d rw 7 5 (fun _ _ => 0)] 122 3685 275 [(3, .int 0), (2, .ref (hm 0)), (1, .ref (h0 0)), (0, .ref b)] [] := by
  refine J_aload_n hK dL_law_275 rfl 2 rfl rfl ?_
  refine J_aload_n hK dL_law_276 rfl 3 rfl rfl ?_
  refine J_iload_n hK dL_law_277 rfl 0 rfl rfl ?_
  refine J_iconst (v := 1) hK dL_law_278 rfl (by decide) ?_
  refine J_iadd hK dL_law_279 rfl ?_
  refine J_sld (v := xs 1) hK hX dL_law_280 rfl rfl ?_
  refine J_aload_n hK dL_law_281 rfl 3 rfl rfl ?_
  refine J_iload_n hK dL_law_282 rfl 0 rfl rfl ?_
  refine J_iconst (v := 2) hK dL_law_283 rfl (by decide) ?_
  refine J_iadd hK dL_law_284 rfl ?_
  refine J_sld (v := xs 2) hK hX dL_law_285 rfl rfl ?_
  refine J_aload_n hK dL_law_286 rfl 3 rfl rfl ?_
  refine J_iload_n hK dL_law_287 rfl 0 rfl rfl ?_
  refine J_iconst (v := 3) hK dL_law_288 rfl (by decide) ?_
  refine J_iadd hK dL_law_289 rfl ?_
  refine J_sld (v := xs 3) hK hX dL_law_290 rfl rfl ?_
  refine J_i2l hK dL_law_291 rfl ?_
  refine J_bipush (v := 32) hK dL_law_292 rfl (by decide) ?_
  refine J_lshl hK dL_law_294 rfl ?_
  refine J_aload_n hK dL_law_295 rfl 3 rfl rfl ?_
  refine J_iload_n hK dL_law_296 rfl 0 rfl rfl ?_
  refine J_iconst (v := 4) hK dL_law_297 rfl (by decide) ?_
  refine J_iadd hK dL_law_298 rfl ?_
  refine J_sld (v := xs 4) hK hX dL_law_299 rfl rfl ?_
  refine J_i2l hK dL_law_300 rfl ?_
  refine J_ldc2 (v := (4294967295 : Int64)) hK dL_law_301 rfl wk_RL_18 ?_
  refine J_land hK dL_law_304 rfl ?_
  refine J_lor hK dL_law_305 rfl ?_
  obtain ⟨ox, om, hx, hom, he⟩ := pe_1 (xs 1) (xs 2) (((xs 3).toInt64 <<< ((32 : Int32).toInt64 &&& 63)) ||| ((xs 4).toInt64 &&& (4294967295 : Int64)))
  refine J_callVd (m := 16) (ce' := 122) (sl' := 3685) (gr := [gLd d h1 0 0 0 10 (fun _ => 0) (fun _ => 0) (fun _ => 0) (fillV 12 9 (fun _ => 0)) (fillV 3 1 (fun _ => 0)) (fun _ => 0) 0, gLd d h2 0 0 0 10 (fun _ => 0) (fun _ => 0) (fun _ => 0) (fillV 12 9 (fun _ => 0)) (fillV 3 1 (fun _ => 0)) (fun _ => 0) 0, gTp d h3 (fun _ => 0) 0 0 0 0 0, gCh d h6 (h7 0) (h9 0) (h10 0) (fun _ => 0), gTr d h7 (h8 0) (fun _ => 0) (fun _ => 0) 0 0, gWy d h8 (fun _ => 0) (fun _ => 0) (fun _ => 0) (fun _ => 0) (fun _ => 0) (fun _ => 0) (fun _ => 0) (fun _ => 0) 0 (fun _ => 0) 0 0 0 (-1), gLd d h9 0 0 0 10 (fun _ => 0) (fun _ => 0) (fun _ => 0) (fillV 12 9 (fun _ => 0)) (fillV 3 1 (fun _ => 0)) (fun _ => 0) 0, gLd d h10 0 0 0 10 (fun _ => 0) (fun _ => 0) (fun _ => 0) (fillV 12 9 (fun _ => 0)) (fillV 3 1 (fun _ => 0)) (fun _ => 0) 0, gMd d hm none none none rr rl rg rw (fun _ => 0) (fun _ => 0) (fun _ => 0) (fun _ => 0) (fun _ => 0) (fun _ => 0) 0 (fun _ => 0) 0 (fillV 12 9 (fun _ => 0)) (va_up (va_up (va_up (fun _ => 0) 0 1) 1 1) 2 1) 0 0 10 0 0 0 0 0 0 0 (fun _ => 0) 0 (fun _ => 0) (fun _ => 0) 0 (fun _ => 0) 0 0 (fun _ => 0) (fun _ => 0), gridJ d rr 8 40 (fun _ _ => 0), gridI d rl 20 7 (fun _ _ => 0), gridI d rg 8 3 (fun _ _ => 0), gridI d rw 7 5 (fun _ _ => 0)]) (v := .int (ox.1)) (st := []) hK dL_law_306 cv_RL_20 iv_yX6_set (As := [.int (xs 1), .int (xs 2), .long (((xs 3).toInt64 <<< ((32 : Int32).toInt64 &&& 63)) ||| ((xs 4).toInt64 &&& (4294967295 : Int64)))]) (kX6_set _ d h0 (h1 0) (h2 0) (h3 0) (h6 0) (h7 0) h4 rE (fun _ => 0) 0 0 0 (fun _ _ => 0) (fillV 8 (-1) (fun _ => 0)) (fun _ => 0) (xs 1) (xs 2) (((xs 3).toInt64 <<< ((32 : Int32).toInt64 &&& 63)) ||| ((xs 4).toInt64 &&& (4294967295 : Int64))) hx) (fun _ => rfl) rfl rfl (Nat.le_of_ble_eq_true rfl) (by decide) 0 0 rfl rfl rfl [0, 4, 5] [1, 2, 3, 6, 7, 8, 9, 10, 11, 12, 13, 14, 15] rfl (by decide +kernel) rfl rfl rfl rfl rfl ?_
  refine J_drp (gs2 := [gMd d hm none none none rr rl rg rw (fun _ => 0) (fun _ => 0) (fun _ => 0) (fun _ => 0) (fun _ => 0) (fun _ => 0) 0 (fun _ => 0) 0 (fillV 12 9 (fun _ => 0)) (va_up (va_up (va_up (fun _ => 0) 0 1) 1 1) 2 1) 0 0 10 0 0 0 0 0 0 0 (fun _ => 0) 0 (fun _ => 0) (fun _ => 0) 0 (fun _ => 0) 0 0 (fun _ => 0) (fun _ => 0), gridJ d rr 8 40 (fun _ _ => 0), gridI d rl 20 7 (fun _ _ => 0), gridI d rg 8 3 (fun _ _ => 0), gridI d rw 7 5 (fun _ _ => 0)]) 8 rfl ?_
  refine J_aload_n hK dL_law_309 rfl 1 rfl rfl ?_
  refine J_aload_n hK dL_law_310 rfl 3 rfl rfl ?_
  refine J_iload_n hK dL_law_311 rfl 0 rfl rfl ?_
  refine J_iconst (v := 1) hK dL_law_312 rfl (by decide) ?_
  refine J_iadd hK dL_law_313 rfl ?_
  refine J_sld (v := xs 1) hK hX dL_law_314 rfl rfl ?_
  refine J_aload_n hK dL_law_315 rfl 3 rfl rfl ?_
  refine J_iload_n hK dL_law_316 rfl 0 rfl rfl ?_
  refine J_iconst (v := 2) hK dL_law_317 rfl (by decide) ?_
  refine J_iadd hK dL_law_318 rfl ?_
  refine J_sld (v := xs 2) hK hX dL_law_319 rfl rfl ?_
  refine J_aload_n hK dL_law_320 rfl 3 rfl rfl ?_
  refine J_iload_n hK dL_law_321 rfl 0 rfl rfl ?_
  refine J_iconst (v := 3) hK dL_law_322 rfl (by decide) ?_
  refine J_iadd hK dL_law_323 rfl ?_
  refine J_sld (v := xs 3) hK hX dL_law_324 rfl rfl ?_
  refine J_i2l hK dL_law_325 rfl ?_
  refine J_bipush (v := 32) hK dL_law_326 rfl (by decide) ?_
  refine J_lshl hK dL_law_328 rfl ?_
  refine J_aload_n hK dL_law_329 rfl 3 rfl rfl ?_
  refine J_iload_n hK dL_law_330 rfl 0 rfl rfl ?_
  refine J_iconst (v := 4) hK dL_law_331 rfl (by decide) ?_
  refine J_iadd hK dL_law_332 rfl ?_
  refine J_sld (v := xs 4) hK hX dL_law_333 rfl rfl ?_
  refine J_i2l hK dL_law_334 rfl ?_
  refine J_ldc2 (v := (4294967295 : Int64)) hK dL_law_335 rfl wk_RL_18 ?_
  refine J_land hK dL_law_338 rfl ?_
  refine J_lor hK dL_law_339 rfl ?_
  refine J_callVd (m := 5) (ce' := 122) (sl' := 3685) (gr := [gridI d rl 20 7 (fun _ _ => 0), gridI d rg 8 3 (fun _ _ => 0), gridI d rw 7 5 (fun _ _ => 0)]) (v := .int (om.1)) (st := [.int (ox.1)]) hK dL_law_340 cv_RL_24 iv_yX7_set (As := [.int (xs 1), .int (xs 2), .long (((xs 3).toInt64 <<< ((32 : Int32).toInt64 &&& 63)) ||| ((xs 4).toInt64 &&& (4294967295 : Int64)))]) (kX7_set _ d hm rr rl rg rw none none none (fun _ => 0) (fun _ => 0) (fun _ => 0) (fun _ _ => 0) (fun _ => 0) (fun _ => 0) (fun _ => 0) 0 (fun _ => 0) 0 (fun _ _ => 0) (fillV 12 9 (fun _ => 0)) (va_up (va_up (va_up (fun _ => 0) 0 1) 1 1) 2 1) 0 (fun _ _ => 0) 0 (fun _ _ => 0) 10 0 0 0 0 0 0 0 (fun _ => 0) 0 (fun _ => 0) (fun _ => 0) 0 (fun _ => 0) 0 0 (fun _ => 0) (fun _ => 0) (xs 1) (xs 2) (((xs 3).toInt64 <<< ((32 : Int32).toInt64 &&& 63)) ||| ((xs 4).toInt64 &&& (4294967295 : Int64))) hom) (fun _ => rfl) rfl rfl (Nat.le_of_ble_eq_true rfl) (by decide) 0 0 rfl rfl rfl [0, 1] [2, 3, 4] rfl (by decide +kernel) rfl rfl rfl rfl rfl ?_
  refine J_icmp_eq (tg := 1595) hK dL_law_343 rfl rfl (fun _ => ?_) (fun h => absurd he h)
  exact J_nil (tail (by decide) (by decide))

set_option maxHeartbeats 4000000 in
set_option maxRecDepth 100000 in
theorem cs_2 {d : DT} {Φ : JC} {nm : String} (hK : Ok d Φ RL nm cL_law 4 (some .boolean) room_1) {b : Nat} {xs : Nat → Int32} (hX : Scr Φ b 7 xs) (h0 : Nat → Nat) (h1 : Nat → Nat) (h2 : Nat → Nat) (h3 : Nat → Nat) (h4 : Nat → Nat) (h6 : Nat → Nat) (h7 : Nat → Nat) (h8 : Nat → Nat) (h9 : Nat → Nat) (h10 : Nat → Nat) (rE hm rr rl rg rw : Nat → Nat) (tail : ∀ {ce sl : Nat}, ce ≤ 600000 → sl ≤ 7302250 → J d Φ 4 [] ce sl 1595 [(3, .int 0), (2, .ref (hm 0)), (1, .ref (h0 0)), (0, .ref b)] []) : J d Φ 4 [gTw d h0 (h1 0) (h2 0) (h3 0) (h4 0) (h6 0) (h7 0) (fun _ => 0) 0 0 0, gLd d h1 0 0 0 10 (fun _ => 0) (fun _ => 0) (fun _ => 0) (fillV 12 9 (fun _ => 0)) (fillV 3 1 (fun _ => 0)) (fun _ => 0) 0, gLd d h2 0 0 0 10 (fun _ => 0) (fun _ => 0) (fun _ => 0) (fillV 12 9 (fun _ => 0)) (fillV 3 1 (fun _ => 0)) (fun _ => 0) 0, gTp d h3 (fun _ => 0) 0 0 0 0 0, gSh d h4 rE (fillV 8 (-1) (fun _ => 0)) (fun _ => 0), gridJ d rE 8 40 (fun _ _ => 0), gCh d h6 (h7 0) (h9 0) (h10 0) (fun _ => 0), gTr d h7 (h8 0) (fun _ => 0) (fun _ => 0) 0 0, gWy d h8 (fun _ => 0) (fun _ => 0) (fun _ => 0) (fun _ => 0) (fun _ => 0) (fun _ => 0) (fun _ => 0) (fun _ => 0) 0 (fun _ => 0) 0 0 0 (-1), gLd d h9 0 0 0 10 (fun _ => 0) (fun _ => 0) (fun _ => 0) (fillV 12 9 (fun _ => 0)) (fillV 3 1 (fun _ => 0)) (fun _ => 0) 0, gLd d h10 0 0 0 10 (fun _ => 0) (fun _ => 0) (fun _ => 0) (fillV 12 9 (fun _ => 0)) (fillV 3 1 (fun _ => 0)) (fun _ => 0) 0, gMd d hm none none none rr rl rg rw (fun _ => 0) (fun _ => 0) (fun _ => 0) (fun _ => 0) (fun _ => 0) (fun _ => 0) 0 (fun _ => 0) 0 (fillV 12 9 (fun _ => 0)) (va_up (va_up (va_up (fun _ => 0) 0 1) 1 1) 2 1) 0 0 10 0 0 0 0 0 0 0 (fun _ => 0) 0 (fun _ => 0) (fun _ => 0) 0 (fun _ => 0) 0 0 (fun _ => 0) (fun _ => 0), gridJ d rr 8 40 (fun _ _ => 0), gridI d rl 20 7 (fun _ _ => 0), gridI d rg 8 3 (fun _ _ => 0), gridI d rw 7 5 (fun _ _ => 0)] 122 3685 348 [(3, .int 0), (2, .ref (hm 0)), (1, .ref (h0 0)), (0, .ref b)] [] := by
  refine J_aload_n hK dL_law_348 rfl 2 rfl rfl ?_
  refine J_aload_n hK dL_law_349 rfl 3 rfl rfl ?_
  refine J_iload_n hK dL_law_350 rfl 0 rfl rfl ?_
  refine J_iconst (v := 1) hK dL_law_351 rfl (by decide) ?_
  refine J_iadd hK dL_law_352 rfl ?_
  refine J_sld (v := xs 1) hK hX dL_law_353 rfl rfl ?_
  refine J_aload_n hK dL_law_354 rfl 3 rfl rfl ?_
  refine J_iload_n hK dL_law_355 rfl 0 rfl rfl ?_
  refine J_iconst (v := 2) hK dL_law_356 rfl (by decide) ?_
  refine J_iadd hK dL_law_357 rfl ?_
  refine J_sld (v := xs 2) hK hX dL_law_358 rfl rfl ?_
  refine J_aload_n hK dL_law_359 rfl 3 rfl rfl ?_
  refine J_iload_n hK dL_law_360 rfl 0 rfl rfl ?_
  refine J_iconst (v := 3) hK dL_law_361 rfl (by decide) ?_
  refine J_iadd hK dL_law_362 rfl ?_
  refine J_sld (v := xs 3) hK hX dL_law_363 rfl rfl ?_
  refine J_aload_n hK dL_law_364 rfl 3 rfl rfl ?_
  refine J_iload_n hK dL_law_365 rfl 0 rfl rfl ?_
  refine J_iconst (v := 4) hK dL_law_366 rfl (by decide) ?_
  refine J_iadd hK dL_law_367 rfl ?_
  refine J_sld (v := xs 4) hK hX dL_law_368 rfl rfl ?_
  refine J_aload_n hK dL_law_369 rfl 3 rfl rfl ?_
  refine J_iload_n hK dL_law_370 rfl 0 rfl rfl ?_
  refine J_iconst (v := 5) hK dL_law_371 rfl (by decide) ?_
  refine J_iadd hK dL_law_372 rfl ?_
  refine J_sld (v := xs 5) hK hX dL_law_373 rfl rfl ?_
  obtain ⟨ox, om, hx, hom, he⟩ := pe_2 (xs 1) (xs 2) (xs 3) (xs 4) (xs 5)
  refine J_callVd (m := 16) (ce' := 122) (sl' := 3685) (gr := [gLd d h1 0 0 0 10 (fun _ => 0) (fun _ => 0) (fun _ => 0) (fillV 12 9 (fun _ => 0)) (fillV 3 1 (fun _ => 0)) (fun _ => 0) 0, gLd d h2 0 0 0 10 (fun _ => 0) (fun _ => 0) (fun _ => 0) (fillV 12 9 (fun _ => 0)) (fillV 3 1 (fun _ => 0)) (fun _ => 0) 0, gTp d h3 (fun _ => 0) 0 0 0 0 0, gCh d h6 (h7 0) (h9 0) (h10 0) (fun _ => 0), gTr d h7 (h8 0) (fun _ => 0) (fun _ => 0) 0 0, gWy d h8 (fun _ => 0) (fun _ => 0) (fun _ => 0) (fun _ => 0) (fun _ => 0) (fun _ => 0) (fun _ => 0) (fun _ => 0) 0 (fun _ => 0) 0 0 0 (-1), gLd d h9 0 0 0 10 (fun _ => 0) (fun _ => 0) (fun _ => 0) (fillV 12 9 (fun _ => 0)) (fillV 3 1 (fun _ => 0)) (fun _ => 0) 0, gLd d h10 0 0 0 10 (fun _ => 0) (fun _ => 0) (fun _ => 0) (fillV 12 9 (fun _ => 0)) (fillV 3 1 (fun _ => 0)) (fun _ => 0) 0, gMd d hm none none none rr rl rg rw (fun _ => 0) (fun _ => 0) (fun _ => 0) (fun _ => 0) (fun _ => 0) (fun _ => 0) 0 (fun _ => 0) 0 (fillV 12 9 (fun _ => 0)) (va_up (va_up (va_up (fun _ => 0) 0 1) 1 1) 2 1) 0 0 10 0 0 0 0 0 0 0 (fun _ => 0) 0 (fun _ => 0) (fun _ => 0) 0 (fun _ => 0) 0 0 (fun _ => 0) (fun _ => 0), gridJ d rr 8 40 (fun _ _ => 0), gridI d rl 20 7 (fun _ _ => 0), gridI d rg 8 3 (fun _ _ => 0), gridI d rw 7 5 (fun _ _ => 0)]) (v := .int (ox.1)) (st := []) hK dL_law_374 cv_RL_25 iv_yX6_copy (As := [.int (xs 1), .int (xs 2), .int (xs 3), .int (xs 4), .int (xs 5)]) (kX6_copy _ d h0 (h1 0) (h2 0) (h3 0) (h6 0) (h7 0) h4 rE (fun _ => 0) 0 0 0 (fun _ _ => 0) (fillV 8 (-1) (fun _ => 0)) (fun _ => 0) (xs 1) (xs 2) (xs 3) (xs 4) (xs 5) hx) (fun _ => rfl) rfl rfl (Nat.le_of_ble_eq_true rfl) (by decide) 0 0 rfl rfl rfl [0, 4, 5] [1, 2, 3, 6, 7, 8, 9, 10, 11, 12, 13, 14, 15] rfl (by decide +kernel) rfl rfl rfl rfl rfl ?_
  refine J_drp (gs2 := [gMd d hm none none none rr rl rg rw (fun _ => 0) (fun _ => 0) (fun _ => 0) (fun _ => 0) (fun _ => 0) (fun _ => 0) 0 (fun _ => 0) 0 (fillV 12 9 (fun _ => 0)) (va_up (va_up (va_up (fun _ => 0) 0 1) 1 1) 2 1) 0 0 10 0 0 0 0 0 0 0 (fun _ => 0) 0 (fun _ => 0) (fun _ => 0) 0 (fun _ => 0) 0 0 (fun _ => 0) (fun _ => 0), gridJ d rr 8 40 (fun _ _ => 0), gridI d rl 20 7 (fun _ _ => 0), gridI d rg 8 3 (fun _ _ => 0), gridI d rw 7 5 (fun _ _ => 0)]) 8 rfl ?_
  refine J_aload_n hK dL_law_377 rfl 1 rfl rfl ?_
  refine J_aload_n hK dL_law_378 rfl 3 rfl rfl ?_
  refine J_iload_n hK dL_law_379 rfl 0 rfl rfl ?_
  refine J_iconst (v := 1) hK dL_law_380 rfl (by decide) ?_
  refine J_iadd hK dL_law_381 rfl ?_
  refine J_sld (v := xs 1) hK hX dL_law_382 rfl rfl ?_
  refine J_aload_n hK dL_law_383 rfl 3 rfl rfl ?_
  refine J_iload_n hK dL_law_384 rfl 0 rfl rfl ?_
  refine J_iconst (v := 2) hK dL_law_385 rfl (by decide) ?_
  refine J_iadd hK dL_law_386 rfl ?_
  refine J_sld (v := xs 2) hK hX dL_law_387 rfl rfl ?_
  refine J_aload_n hK dL_law_388 rfl 3 rfl rfl ?_
  refine J_iload_n hK dL_law_389 rfl 0 rfl rfl ?_
  refine J_iconst (v := 3) hK dL_law_390 rfl (by decide) ?_
  refine J_iadd hK dL_law_391 rfl ?_
  refine J_sld (v := xs 3) hK hX dL_law_392 rfl rfl ?_
  refine J_aload_n hK dL_law_393 rfl 3 rfl rfl ?_
  refine J_iload_n hK dL_law_394 rfl 0 rfl rfl ?_
  refine J_iconst (v := 4) hK dL_law_395 rfl (by decide) ?_
  refine J_iadd hK dL_law_396 rfl ?_
  refine J_sld (v := xs 4) hK hX dL_law_397 rfl rfl ?_
  refine J_aload_n hK dL_law_398 rfl 3 rfl rfl ?_
  refine J_iload_n hK dL_law_399 rfl 0 rfl rfl ?_
  refine J_iconst (v := 5) hK dL_law_400 rfl (by decide) ?_
  refine J_iadd hK dL_law_401 rfl ?_
  refine J_sld (v := xs 5) hK hX dL_law_402 rfl rfl ?_
  refine J_callVd (m := 5) (ce' := 122) (sl' := 3685) (gr := [gridI d rl 20 7 (fun _ _ => 0), gridI d rg 8 3 (fun _ _ => 0), gridI d rw 7 5 (fun _ _ => 0)]) (v := .int (om.1)) (st := [.int (ox.1)]) hK dL_law_403 cv_RL_29 iv_yX7_copy (As := [.int (xs 1), .int (xs 2), .int (xs 3), .int (xs 4), .int (xs 5)]) (kX7_copy _ d hm rr rl rg rw none none none 1000 (fun _ => 0) (fun _ => 0) (fun _ => 0) (fun _ _ => 0) (fun _ => 0) (fun _ => 0) (fun _ => 0) 0 (fun _ => 0) 0 (fun _ _ => 0) (fillV 12 9 (fun _ => 0)) (va_up (va_up (va_up (fun _ => 0) 0 1) 1 1) 2 1) 0 (fun _ _ => 0) 0 (fun _ _ => 0) 10 0 0 0 0 0 0 0 (fun _ => 0) 0 (fun _ => 0) (fun _ => 0) 0 (fun _ => 0) 0 0 (fun _ => 0) (fun _ => 0) (xs 1) (xs 2) (xs 3) (xs 4) (xs 5) hom) (fun _ => rfl) rfl rfl (Nat.le_of_ble_eq_true rfl) (by decide) 0 0 rfl rfl rfl [0, 1] [2, 3, 4] rfl (by decide +kernel) rfl rfl rfl rfl rfl ?_
  refine J_icmp_eq (tg := 1595) hK dL_law_406 rfl rfl (fun _ => ?_) (fun h => absurd he h)
  exact J_nil (tail (by decide) (by decide))

set_option maxHeartbeats 4000000 in
set_option maxRecDepth 100000 in
theorem cs_3 {d : DT} {Φ : JC} {nm : String} (hK : Ok d Φ RL nm cL_law 4 (some .boolean) room_1) {b : Nat} {xs : Nat → Int32} (hX : Scr Φ b 7 xs) (h0 : Nat → Nat) (h1 : Nat → Nat) (h2 : Nat → Nat) (h3 : Nat → Nat) (h4 : Nat → Nat) (h6 : Nat → Nat) (h7 : Nat → Nat) (h8 : Nat → Nat) (h9 : Nat → Nat) (h10 : Nat → Nat) (rE hm rr rl rg rw : Nat → Nat) (tail : ∀ {ce sl : Nat}, ce ≤ 600000 → sl ≤ 7302250 → J d Φ 4 [] ce sl 1595 [(3, .int 0), (2, .ref (hm 0)), (1, .ref (h0 0)), (0, .ref b)] []) : J d Φ 4 [gTw d h0 (h1 0) (h2 0) (h3 0) (h4 0) (h6 0) (h7 0) (fun _ => 0) 0 0 0, gLd d h1 0 0 0 10 (fun _ => 0) (fun _ => 0) (fun _ => 0) (fillV 12 9 (fun _ => 0)) (fillV 3 1 (fun _ => 0)) (fun _ => 0) 0, gLd d h2 0 0 0 10 (fun _ => 0) (fun _ => 0) (fun _ => 0) (fillV 12 9 (fun _ => 0)) (fillV 3 1 (fun _ => 0)) (fun _ => 0) 0, gTp d h3 (fun _ => 0) 0 0 0 0 0, gSh d h4 rE (fillV 8 (-1) (fun _ => 0)) (fun _ => 0), gridJ d rE 8 40 (fun _ _ => 0), gCh d h6 (h7 0) (h9 0) (h10 0) (fun _ => 0), gTr d h7 (h8 0) (fun _ => 0) (fun _ => 0) 0 0, gWy d h8 (fun _ => 0) (fun _ => 0) (fun _ => 0) (fun _ => 0) (fun _ => 0) (fun _ => 0) (fun _ => 0) (fun _ => 0) 0 (fun _ => 0) 0 0 0 (-1), gLd d h9 0 0 0 10 (fun _ => 0) (fun _ => 0) (fun _ => 0) (fillV 12 9 (fun _ => 0)) (fillV 3 1 (fun _ => 0)) (fun _ => 0) 0, gLd d h10 0 0 0 10 (fun _ => 0) (fun _ => 0) (fun _ => 0) (fillV 12 9 (fun _ => 0)) (fillV 3 1 (fun _ => 0)) (fun _ => 0) 0, gMd d hm none none none rr rl rg rw (fun _ => 0) (fun _ => 0) (fun _ => 0) (fun _ => 0) (fun _ => 0) (fun _ => 0) 0 (fun _ => 0) 0 (fillV 12 9 (fun _ => 0)) (va_up (va_up (va_up (fun _ => 0) 0 1) 1 1) 2 1) 0 0 10 0 0 0 0 0 0 0 (fun _ => 0) 0 (fun _ => 0) (fun _ => 0) 0 (fun _ => 0) 0 0 (fun _ => 0) (fun _ => 0), gridJ d rr 8 40 (fun _ _ => 0), gridI d rl 20 7 (fun _ _ => 0), gridI d rg 8 3 (fun _ _ => 0), gridI d rw 7 5 (fun _ _ => 0)] 122 3685 411 [(3, .int 0), (2, .ref (hm 0)), (1, .ref (h0 0)), (0, .ref b)] [] := by
  refine J_aload_n hK dL_law_411 rfl 2 rfl rfl ?_
  refine J_aload_n hK dL_law_412 rfl 3 rfl rfl ?_
  refine J_iload_n hK dL_law_413 rfl 0 rfl rfl ?_
  refine J_iconst (v := 1) hK dL_law_414 rfl (by decide) ?_
  refine J_iadd hK dL_law_415 rfl ?_
  refine J_sld (v := xs 1) hK hX dL_law_416 rfl rfl ?_
  refine J_aload_n hK dL_law_417 rfl 3 rfl rfl ?_
  refine J_iload_n hK dL_law_418 rfl 0 rfl rfl ?_
  refine J_iconst (v := 2) hK dL_law_419 rfl (by decide) ?_
  refine J_iadd hK dL_law_420 rfl ?_
  refine J_sld (v := xs 2) hK hX dL_law_421 rfl rfl ?_
  obtain ⟨ox, om, hx, hom, he⟩ := pe_3 (xs 1) (xs 2)
  refine J_callVd (m := 16) (ce' := 122) (sl' := 3685) (gr := [gLd d h1 0 0 0 10 (fun _ => 0) (fun _ => 0) (fun _ => 0) (fillV 12 9 (fun _ => 0)) (fillV 3 1 (fun _ => 0)) (fun _ => 0) 0, gLd d h2 0 0 0 10 (fun _ => 0) (fun _ => 0) (fun _ => 0) (fillV 12 9 (fun _ => 0)) (fillV 3 1 (fun _ => 0)) (fun _ => 0) 0, gTp d h3 (fun _ => 0) 0 0 0 0 0, gCh d h6 (h7 0) (h9 0) (h10 0) (fun _ => 0), gTr d h7 (h8 0) (fun _ => 0) (fun _ => 0) 0 0, gWy d h8 (fun _ => 0) (fun _ => 0) (fun _ => 0) (fun _ => 0) (fun _ => 0) (fun _ => 0) (fun _ => 0) (fun _ => 0) 0 (fun _ => 0) 0 0 0 (-1), gLd d h9 0 0 0 10 (fun _ => 0) (fun _ => 0) (fun _ => 0) (fillV 12 9 (fun _ => 0)) (fillV 3 1 (fun _ => 0)) (fun _ => 0) 0, gLd d h10 0 0 0 10 (fun _ => 0) (fun _ => 0) (fun _ => 0) (fillV 12 9 (fun _ => 0)) (fillV 3 1 (fun _ => 0)) (fun _ => 0) 0, gMd d hm none none none rr rl rg rw (fun _ => 0) (fun _ => 0) (fun _ => 0) (fun _ => 0) (fun _ => 0) (fun _ => 0) 0 (fun _ => 0) 0 (fillV 12 9 (fun _ => 0)) (va_up (va_up (va_up (fun _ => 0) 0 1) 1 1) 2 1) 0 0 10 0 0 0 0 0 0 0 (fun _ => 0) 0 (fun _ => 0) (fun _ => 0) 0 (fun _ => 0) 0 0 (fun _ => 0) (fun _ => 0), gridJ d rr 8 40 (fun _ _ => 0), gridI d rl 20 7 (fun _ _ => 0), gridI d rg 8 3 (fun _ _ => 0), gridI d rw 7 5 (fun _ _ => 0)]) (v := .long ox) (st := []) hK dL_law_422 cv_RL_30 iv_yX6_element (As := [.int (xs 1), .int (xs 2)]) (kX6_element _ d h0 (h1 0) (h2 0) (h3 0) (h6 0) (h7 0) h4 rE (fun _ => 0) 0 0 0 (fun _ _ => 0) (fillV 8 (-1) (fun _ => 0)) (fun _ => 0) (xs 1) (xs 2) hx) (fun _ => rfl) rfl rfl (Nat.le_of_ble_eq_true rfl) (by decide) 0 0 rfl rfl rfl [0, 4, 5] [1, 2, 3, 6, 7, 8, 9, 10, 11, 12, 13, 14, 15] rfl (by decide +kernel) rfl rfl rfl rfl rfl ?_
  refine J_drp (gs2 := [gMd d hm none none none rr rl rg rw (fun _ => 0) (fun _ => 0) (fun _ => 0) (fun _ => 0) (fun _ => 0) (fun _ => 0) 0 (fun _ => 0) 0 (fillV 12 9 (fun _ => 0)) (va_up (va_up (va_up (fun _ => 0) 0 1) 1 1) 2 1) 0 0 10 0 0 0 0 0 0 0 (fun _ => 0) 0 (fun _ => 0) (fun _ => 0) 0 (fun _ => 0) 0 0 (fun _ => 0) (fun _ => 0), gridJ d rr 8 40 (fun _ _ => 0), gridI d rl 20 7 (fun _ _ => 0), gridI d rg 8 3 (fun _ _ => 0), gridI d rw 7 5 (fun _ _ => 0)]) 8 rfl ?_
  refine J_aload_n hK dL_law_425 rfl 1 rfl rfl ?_
  refine J_aload_n hK dL_law_426 rfl 3 rfl rfl ?_
  refine J_iload_n hK dL_law_427 rfl 0 rfl rfl ?_
  refine J_iconst (v := 1) hK dL_law_428 rfl (by decide) ?_
  refine J_iadd hK dL_law_429 rfl ?_
  refine J_sld (v := xs 1) hK hX dL_law_430 rfl rfl ?_
  refine J_aload_n hK dL_law_431 rfl 3 rfl rfl ?_
  refine J_iload_n hK dL_law_432 rfl 0 rfl rfl ?_
  refine J_iconst (v := 2) hK dL_law_433 rfl (by decide) ?_
  refine J_iadd hK dL_law_434 rfl ?_
  refine J_sld (v := xs 2) hK hX dL_law_435 rfl rfl ?_
  refine J_callVd (m := 5) (ce' := 122) (sl' := 3685) (gr := [gridI d rl 20 7 (fun _ _ => 0), gridI d rg 8 3 (fun _ _ => 0), gridI d rw 7 5 (fun _ _ => 0)]) (v := .long om) (st := [.long ox]) hK dL_law_436 cv_RL_34 iv_yX7_element (As := [.int (xs 1), .int (xs 2)]) (kX7_element _ d hm rr rl rg rw none none none (fun _ => 0) (fun _ => 0) (fun _ => 0) (fun _ _ => 0) (fun _ => 0) (fun _ => 0) (fun _ => 0) 0 (fun _ => 0) 0 (fun _ _ => 0) (fillV 12 9 (fun _ => 0)) (va_up (va_up (va_up (fun _ => 0) 0 1) 1 1) 2 1) 0 (fun _ _ => 0) 0 (fun _ _ => 0) 10 0 0 0 0 0 0 0 (fun _ => 0) 0 (fun _ => 0) (fun _ => 0) 0 (fun _ => 0) 0 0 (fun _ => 0) (fun _ => 0) (xs 1) (xs 2) hom) (fun _ => rfl) rfl rfl (Nat.le_of_ble_eq_true rfl) (by decide) 0 0 rfl rfl rfl [0, 1] [2, 3, 4] rfl (by decide +kernel) rfl rfl rfl rfl rfl ?_
  refine J_lcmp hK dL_law_439 rfl ?_
  refine J_if_eq (tg := 1595) hK dL_law_440 rfl rfl (fun _ => ?_) (fun h => absurd (by rw [he]; exact lgc_self _) h)
  exact J_nil (tail (by decide) (by decide))

set_option maxHeartbeats 4000000 in
set_option maxRecDepth 100000 in
theorem cs_4 {d : DT} {Φ : JC} {nm : String} (hK : Ok d Φ RL nm cL_law 4 (some .boolean) room_1) {b : Nat} {xs : Nat → Int32} (hX : Scr Φ b 7 xs) (h0 : Nat → Nat) (h1 : Nat → Nat) (h2 : Nat → Nat) (h3 : Nat → Nat) (h4 : Nat → Nat) (h6 : Nat → Nat) (h7 : Nat → Nat) (h8 : Nat → Nat) (h9 : Nat → Nat) (h10 : Nat → Nat) (rE hm rr rl rg rw : Nat → Nat) (tail : ∀ {ce sl : Nat}, ce ≤ 600000 → sl ≤ 7302250 → J d Φ 4 [] ce sl 1595 [(3, .int 0), (2, .ref (hm 0)), (1, .ref (h0 0)), (0, .ref b)] []) : J d Φ 4 [gTw d h0 (h1 0) (h2 0) (h3 0) (h4 0) (h6 0) (h7 0) (fun _ => 0) 0 0 0, gLd d h1 0 0 0 10 (fun _ => 0) (fun _ => 0) (fun _ => 0) (fillV 12 9 (fun _ => 0)) (fillV 3 1 (fun _ => 0)) (fun _ => 0) 0, gLd d h2 0 0 0 10 (fun _ => 0) (fun _ => 0) (fun _ => 0) (fillV 12 9 (fun _ => 0)) (fillV 3 1 (fun _ => 0)) (fun _ => 0) 0, gTp d h3 (fun _ => 0) 0 0 0 0 0, gSh d h4 rE (fillV 8 (-1) (fun _ => 0)) (fun _ => 0), gridJ d rE 8 40 (fun _ _ => 0), gCh d h6 (h7 0) (h9 0) (h10 0) (fun _ => 0), gTr d h7 (h8 0) (fun _ => 0) (fun _ => 0) 0 0, gWy d h8 (fun _ => 0) (fun _ => 0) (fun _ => 0) (fun _ => 0) (fun _ => 0) (fun _ => 0) (fun _ => 0) (fun _ => 0) 0 (fun _ => 0) 0 0 0 (-1), gLd d h9 0 0 0 10 (fun _ => 0) (fun _ => 0) (fun _ => 0) (fillV 12 9 (fun _ => 0)) (fillV 3 1 (fun _ => 0)) (fun _ => 0) 0, gLd d h10 0 0 0 10 (fun _ => 0) (fun _ => 0) (fun _ => 0) (fillV 12 9 (fun _ => 0)) (fillV 3 1 (fun _ => 0)) (fun _ => 0) 0, gMd d hm none none none rr rl rg rw (fun _ => 0) (fun _ => 0) (fun _ => 0) (fun _ => 0) (fun _ => 0) (fun _ => 0) 0 (fun _ => 0) 0 (fillV 12 9 (fun _ => 0)) (va_up (va_up (va_up (fun _ => 0) 0 1) 1 1) 2 1) 0 0 10 0 0 0 0 0 0 0 (fun _ => 0) 0 (fun _ => 0) (fun _ => 0) 0 (fun _ => 0) 0 0 (fun _ => 0) (fun _ => 0), gridJ d rr 8 40 (fun _ _ => 0), gridI d rl 20 7 (fun _ _ => 0), gridI d rg 8 3 (fun _ _ => 0), gridI d rw 7 5 (fun _ _ => 0)] 122 3685 445 [(3, .int 0), (2, .ref (hm 0)), (1, .ref (h0 0)), (0, .ref b)] [] := by
  refine J_aload_n hK dL_law_445 rfl 2 rfl rfl ?_
  refine J_aload_n hK dL_law_446 rfl 3 rfl rfl ?_
  refine J_iload_n hK dL_law_447 rfl 0 rfl rfl ?_
  refine J_iconst (v := 1) hK dL_law_448 rfl (by decide) ?_
  refine J_iadd hK dL_law_449 rfl ?_
  refine J_sld (v := xs 1) hK hX dL_law_450 rfl rfl ?_
  obtain ⟨ox, om, hx, hom, he⟩ := pe_4 (xs 1)
  refine J_callVd (m := 16) (ce' := 122) (sl' := 3685) (gr := [gLd d h1 0 0 0 10 (fun _ => 0) (fun _ => 0) (fun _ => 0) (fillV 12 9 (fun _ => 0)) (fillV 3 1 (fun _ => 0)) (fun _ => 0) 0, gLd d h2 0 0 0 10 (fun _ => 0) (fun _ => 0) (fun _ => 0) (fillV 12 9 (fun _ => 0)) (fillV 3 1 (fun _ => 0)) (fun _ => 0) 0, gTp d h3 (fun _ => 0) 0 0 0 0 0, gridJ d rE 8 40 (fun _ _ => 0), gCh d h6 (h7 0) (h9 0) (h10 0) (fun _ => 0), gTr d h7 (h8 0) (fun _ => 0) (fun _ => 0) 0 0, gWy d h8 (fun _ => 0) (fun _ => 0) (fun _ => 0) (fun _ => 0) (fun _ => 0) (fun _ => 0) (fun _ => 0) (fun _ => 0) 0 (fun _ => 0) 0 0 0 (-1), gLd d h9 0 0 0 10 (fun _ => 0) (fun _ => 0) (fun _ => 0) (fillV 12 9 (fun _ => 0)) (fillV 3 1 (fun _ => 0)) (fun _ => 0) 0, gLd d h10 0 0 0 10 (fun _ => 0) (fun _ => 0) (fun _ => 0) (fillV 12 9 (fun _ => 0)) (fillV 3 1 (fun _ => 0)) (fun _ => 0) 0, gMd d hm none none none rr rl rg rw (fun _ => 0) (fun _ => 0) (fun _ => 0) (fun _ => 0) (fun _ => 0) (fun _ => 0) 0 (fun _ => 0) 0 (fillV 12 9 (fun _ => 0)) (va_up (va_up (va_up (fun _ => 0) 0 1) 1 1) 2 1) 0 0 10 0 0 0 0 0 0 0 (fun _ => 0) 0 (fun _ => 0) (fun _ => 0) 0 (fun _ => 0) 0 0 (fun _ => 0) (fun _ => 0), gridJ d rr 8 40 (fun _ _ => 0), gridI d rl 20 7 (fun _ _ => 0), gridI d rg 8 3 (fun _ _ => 0), gridI d rw 7 5 (fun _ _ => 0)]) (v := .int ox) (st := []) hK dL_law_451 cv_RL_35 iv_yX6_holds (As := [.int (xs 1)]) (kX6_holds _ d h0 (h1 0) (h2 0) (h3 0) (h6 0) (h7 0) h4 rE (fun _ => 0) 0 0 0 (fun _ _ => 0) (fillV 8 (-1) (fun _ => 0)) (fun _ => 0) (xs 1) hx) (fun _ => rfl) rfl rfl (Nat.le_of_ble_eq_true rfl) (by decide) 0 0 rfl rfl rfl [0, 4] [1, 2, 3, 5, 6, 7, 8, 9, 10, 11, 12, 13, 14, 15] rfl (by decide +kernel) rfl rfl rfl rfl rfl ?_
  refine J_drp (gs2 := [gMd d hm none none none rr rl rg rw (fun _ => 0) (fun _ => 0) (fun _ => 0) (fun _ => 0) (fun _ => 0) (fun _ => 0) 0 (fun _ => 0) 0 (fillV 12 9 (fun _ => 0)) (va_up (va_up (va_up (fun _ => 0) 0 1) 1 1) 2 1) 0 0 10 0 0 0 0 0 0 0 (fun _ => 0) 0 (fun _ => 0) (fun _ => 0) 0 (fun _ => 0) 0 0 (fun _ => 0) (fun _ => 0), gridJ d rr 8 40 (fun _ _ => 0), gridI d rl 20 7 (fun _ _ => 0), gridI d rg 8 3 (fun _ _ => 0), gridI d rw 7 5 (fun _ _ => 0)]) 9 rfl ?_
  refine J_aload_n hK dL_law_454 rfl 1 rfl rfl ?_
  refine J_aload_n hK dL_law_455 rfl 3 rfl rfl ?_
  refine J_iload_n hK dL_law_456 rfl 0 rfl rfl ?_
  refine J_iconst (v := 1) hK dL_law_457 rfl (by decide) ?_
  refine J_iadd hK dL_law_458 rfl ?_
  refine J_sld (v := xs 1) hK hX dL_law_459 rfl rfl ?_
  refine J_callVd (m := 5) (ce' := 122) (sl' := 3685) (gr := [gridJ d rr 8 40 (fun _ _ => 0), gridI d rl 20 7 (fun _ _ => 0), gridI d rg 8 3 (fun _ _ => 0), gridI d rw 7 5 (fun _ _ => 0)]) (v := .int om) (st := [.int ox]) hK dL_law_460 cv_RL_39 iv_yX7_holds (As := [.int (xs 1)]) (kX7_holds _ d hm rr rl rg rw none none none (fun _ => 0) (fun _ => 0) (fun _ => 0) (fun _ _ => 0) (fun _ => 0) (fun _ => 0) (fun _ => 0) 0 (fun _ => 0) 0 (fun _ _ => 0) (fillV 12 9 (fun _ => 0)) (va_up (va_up (va_up (fun _ => 0) 0 1) 1 1) 2 1) 0 (fun _ _ => 0) 0 (fun _ _ => 0) 10 0 0 0 0 0 0 0 (fun _ => 0) 0 (fun _ => 0) (fun _ => 0) 0 (fun _ => 0) 0 0 (fun _ => 0) (fun _ => 0) (xs 1) hom) (fun _ => rfl) rfl rfl (Nat.le_of_ble_eq_true rfl) (by decide) 0 0 rfl rfl rfl [0] [1, 2, 3, 4] rfl (by decide +kernel) rfl rfl rfl rfl rfl ?_
  refine J_icmp_eq (tg := 1595) hK dL_law_463 rfl rfl (fun _ => ?_) (fun h => absurd he h)
  exact J_nil (tail (by decide) (by decide))

set_option maxHeartbeats 4000000 in
set_option maxRecDepth 100000 in
theorem cs_5 {d : DT} {Φ : JC} {nm : String} (hK : Ok d Φ RL nm cL_law 4 (some .boolean) room_1) {b : Nat} {xs : Nat → Int32} (hX : Scr Φ b 7 xs) (h0 : Nat → Nat) (h1 : Nat → Nat) (h2 : Nat → Nat) (h3 : Nat → Nat) (h4 : Nat → Nat) (h6 : Nat → Nat) (h7 : Nat → Nat) (h8 : Nat → Nat) (h9 : Nat → Nat) (h10 : Nat → Nat) (rE hm rr rl rg rw : Nat → Nat) (tail : ∀ {ce sl : Nat}, ce ≤ 600000 → sl ≤ 7302250 → J d Φ 4 [] ce sl 1595 [(3, .int 0), (2, .ref (hm 0)), (1, .ref (h0 0)), (0, .ref b)] []) : J d Φ 4 [gTw d h0 (h1 0) (h2 0) (h3 0) (h4 0) (h6 0) (h7 0) (fun _ => 0) 0 0 0, gLd d h1 0 0 0 10 (fun _ => 0) (fun _ => 0) (fun _ => 0) (fillV 12 9 (fun _ => 0)) (fillV 3 1 (fun _ => 0)) (fun _ => 0) 0, gLd d h2 0 0 0 10 (fun _ => 0) (fun _ => 0) (fun _ => 0) (fillV 12 9 (fun _ => 0)) (fillV 3 1 (fun _ => 0)) (fun _ => 0) 0, gTp d h3 (fun _ => 0) 0 0 0 0 0, gSh d h4 rE (fillV 8 (-1) (fun _ => 0)) (fun _ => 0), gridJ d rE 8 40 (fun _ _ => 0), gCh d h6 (h7 0) (h9 0) (h10 0) (fun _ => 0), gTr d h7 (h8 0) (fun _ => 0) (fun _ => 0) 0 0, gWy d h8 (fun _ => 0) (fun _ => 0) (fun _ => 0) (fun _ => 0) (fun _ => 0) (fun _ => 0) (fun _ => 0) (fun _ => 0) 0 (fun _ => 0) 0 0 0 (-1), gLd d h9 0 0 0 10 (fun _ => 0) (fun _ => 0) (fun _ => 0) (fillV 12 9 (fun _ => 0)) (fillV 3 1 (fun _ => 0)) (fun _ => 0) 0, gLd d h10 0 0 0 10 (fun _ => 0) (fun _ => 0) (fun _ => 0) (fillV 12 9 (fun _ => 0)) (fillV 3 1 (fun _ => 0)) (fun _ => 0) 0, gMd d hm none none none rr rl rg rw (fun _ => 0) (fun _ => 0) (fun _ => 0) (fun _ => 0) (fun _ => 0) (fun _ => 0) 0 (fun _ => 0) 0 (fillV 12 9 (fun _ => 0)) (va_up (va_up (va_up (fun _ => 0) 0 1) 1 1) 2 1) 0 0 10 0 0 0 0 0 0 0 (fun _ => 0) 0 (fun _ => 0) (fun _ => 0) 0 (fun _ => 0) 0 0 (fun _ => 0) (fun _ => 0), gridJ d rr 8 40 (fun _ _ => 0), gridI d rl 20 7 (fun _ _ => 0), gridI d rg 8 3 (fun _ _ => 0), gridI d rw 7 5 (fun _ _ => 0)] 122 3685 468 [(3, .int 0), (2, .ref (hm 0)), (1, .ref (h0 0)), (0, .ref b)] [] := by
  refine J_aload_n hK dL_law_468 rfl 2 rfl rfl ?_
  refine J_aload_n hK dL_law_469 rfl 3 rfl rfl ?_
  refine J_iload_n hK dL_law_470 rfl 0 rfl rfl ?_
  refine J_iconst (v := 1) hK dL_law_471 rfl (by decide) ?_
  refine J_iadd hK dL_law_472 rfl ?_
  refine J_sld (v := xs 1) hK hX dL_law_473 rfl rfl ?_
  refine J_aload_n hK dL_law_474 rfl 3 rfl rfl ?_
  refine J_iload_n hK dL_law_475 rfl 0 rfl rfl ?_
  refine J_iconst (v := 2) hK dL_law_476 rfl (by decide) ?_
  refine J_iadd hK dL_law_477 rfl ?_
  refine J_sld (v := xs 2) hK hX dL_law_478 rfl rfl ?_
  obtain ⟨ox, om, hx, hom, he⟩ := pe_5 (xs 1) (xs 2)
  refine J_callVd (m := 16) (ce' := 122) (sl' := 3685) (gr := [gLd d h2 0 0 0 10 (fun _ => 0) (fun _ => 0) (fun _ => 0) (fillV 12 9 (fun _ => 0)) (fillV 3 1 (fun _ => 0)) (fun _ => 0) 0, gTp d h3 (fun _ => 0) 0 0 0 0 0, gridJ d rE 8 40 (fun _ _ => 0), gCh d h6 (h7 0) (h9 0) (h10 0) (fun _ => 0), gTr d h7 (h8 0) (fun _ => 0) (fun _ => 0) 0 0, gWy d h8 (fun _ => 0) (fun _ => 0) (fun _ => 0) (fun _ => 0) (fun _ => 0) (fun _ => 0) (fun _ => 0) (fun _ => 0) 0 (fun _ => 0) 0 0 0 (-1), gLd d h9 0 0 0 10 (fun _ => 0) (fun _ => 0) (fun _ => 0) (fillV 12 9 (fun _ => 0)) (fillV 3 1 (fun _ => 0)) (fun _ => 0) 0, gLd d h10 0 0 0 10 (fun _ => 0) (fun _ => 0) (fun _ => 0) (fillV 12 9 (fun _ => 0)) (fillV 3 1 (fun _ => 0)) (fun _ => 0) 0, gMd d hm none none none rr rl rg rw (fun _ => 0) (fun _ => 0) (fun _ => 0) (fun _ => 0) (fun _ => 0) (fun _ => 0) 0 (fun _ => 0) 0 (fillV 12 9 (fun _ => 0)) (va_up (va_up (va_up (fun _ => 0) 0 1) 1 1) 2 1) 0 0 10 0 0 0 0 0 0 0 (fun _ => 0) 0 (fun _ => 0) (fun _ => 0) 0 (fun _ => 0) 0 0 (fun _ => 0) (fun _ => 0), gridJ d rr 8 40 (fun _ _ => 0), gridI d rl 20 7 (fun _ _ => 0), gridI d rg 8 3 (fun _ _ => 0), gridI d rw 7 5 (fun _ _ => 0)]) (v := .int (ox.1)) (st := []) hK dL_law_479 cv_RL_40 iv_yX6_show (As := [.int (xs 1), .int (xs 2)]) (kX6_show _ d h0 (h2 0) (h3 0) (h6 0) (h7 0) h4 rE h1 (fun _ => 0) 0 0 0 (fun _ _ => 0) (fillV 8 (-1) (fun _ => 0)) (fun _ => 0) 0 0 0 10 (fun _ => 0) (fun _ => 0) (fun _ => 0) (fillV 12 9 (fun _ => 0)) (fillV 3 1 (fun _ => 0)) (fun _ => 0) 0 (xs 1) (xs 2) hx) (fun _ => rfl) rfl rfl (Nat.le_of_ble_eq_true rfl) (by decide) 0 0 rfl rfl rfl [0, 4, 1] [2, 3, 5, 6, 7, 8, 9, 10, 11, 12, 13, 14, 15] rfl (by decide +kernel) rfl rfl rfl rfl rfl ?_
  refine J_drp (gs2 := [gMd d hm none none none rr rl rg rw (fun _ => 0) (fun _ => 0) (fun _ => 0) (fun _ => 0) (fun _ => 0) (fun _ => 0) 0 (fun _ => 0) 0 (fillV 12 9 (fun _ => 0)) (va_up (va_up (va_up (fun _ => 0) 0 1) 1 1) 2 1) 0 0 10 0 0 0 0 0 0 0 (fun _ => 0) 0 (fun _ => 0) (fun _ => 0) 0 (fun _ => 0) 0 0 (fun _ => 0) (fun _ => 0), gridJ d rr 8 40 (fun _ _ => 0), gridI d rl 20 7 (fun _ _ => 0), gridI d rg 8 3 (fun _ _ => 0), gridI d rw 7 5 (fun _ _ => 0)]) 8 rfl ?_
  refine J_aload_n hK dL_law_482 rfl 1 rfl rfl ?_
  refine J_aload_n hK dL_law_483 rfl 3 rfl rfl ?_
  refine J_iload_n hK dL_law_484 rfl 0 rfl rfl ?_
  refine J_iconst (v := 1) hK dL_law_485 rfl (by decide) ?_
  refine J_iadd hK dL_law_486 rfl ?_
  refine J_sld (v := xs 1) hK hX dL_law_487 rfl rfl ?_
  refine J_aload_n hK dL_law_488 rfl 3 rfl rfl ?_
  refine J_iload_n hK dL_law_489 rfl 0 rfl rfl ?_
  refine J_iconst (v := 2) hK dL_law_490 rfl (by decide) ?_
  refine J_iadd hK dL_law_491 rfl ?_
  refine J_sld (v := xs 2) hK hX dL_law_492 rfl rfl ?_
  refine J_callVd (m := 5) (ce' := 122) (sl' := 3685) (gr := [gridJ d rr 8 40 (fun _ _ => 0), gridI d rl 20 7 (fun _ _ => 0), gridI d rg 8 3 (fun _ _ => 0), gridI d rw 7 5 (fun _ _ => 0)]) (v := .int (om.1)) (st := [.int (ox.1)]) hK dL_law_493 cv_RL_44 iv_yX7_show (As := [.int (xs 1), .int (xs 2)]) (kX7_show _ d hm rr rl rg rw none none none (fun _ => 0) (fun _ => 0) (fun _ => 0) (fun _ _ => 0) (fun _ => 0) (fun _ => 0) (fun _ => 0) 0 (fun _ => 0) 0 (fun _ _ => 0) (fillV 12 9 (fun _ => 0)) (va_up (va_up (va_up (fun _ => 0) 0 1) 1 1) 2 1) 0 (fun _ _ => 0) 0 (fun _ _ => 0) 10 0 0 0 0 0 0 0 (fun _ => 0) 0 (fun _ => 0) (fun _ => 0) 0 (fun _ => 0) 0 0 (fun _ => 0) (fun _ => 0) (xs 1) (xs 2) hom) (fun _ => rfl) rfl rfl (Nat.le_of_ble_eq_true rfl) (by decide) 0 0 rfl rfl rfl [0] [1, 2, 3, 4] rfl (by decide +kernel) rfl rfl rfl rfl rfl ?_
  refine J_icmp_eq (tg := 1595) hK dL_law_496 rfl rfl (fun _ => ?_) (fun h => absurd he h)
  exact J_nil (tail (by decide) (by decide))

set_option maxHeartbeats 4000000 in
set_option maxRecDepth 100000 in
theorem cs_6 {d : DT} {Φ : JC} {nm : String} (hK : Ok d Φ RL nm cL_law 4 (some .boolean) room_1) {b : Nat} {xs : Nat → Int32} (hX : Scr Φ b 7 xs) (h0 : Nat → Nat) (h1 : Nat → Nat) (h2 : Nat → Nat) (h3 : Nat → Nat) (h4 : Nat → Nat) (h6 : Nat → Nat) (h7 : Nat → Nat) (h8 : Nat → Nat) (h9 : Nat → Nat) (h10 : Nat → Nat) (rE hm rr rl rg rw : Nat → Nat) (tail : ∀ {ce sl : Nat}, ce ≤ 600000 → sl ≤ 7302250 → J d Φ 4 [] ce sl 1595 [(3, .int 0), (2, .ref (hm 0)), (1, .ref (h0 0)), (0, .ref b)] []) : J d Φ 4 [gTw d h0 (h1 0) (h2 0) (h3 0) (h4 0) (h6 0) (h7 0) (fun _ => 0) 0 0 0, gLd d h1 0 0 0 10 (fun _ => 0) (fun _ => 0) (fun _ => 0) (fillV 12 9 (fun _ => 0)) (fillV 3 1 (fun _ => 0)) (fun _ => 0) 0, gLd d h2 0 0 0 10 (fun _ => 0) (fun _ => 0) (fun _ => 0) (fillV 12 9 (fun _ => 0)) (fillV 3 1 (fun _ => 0)) (fun _ => 0) 0, gTp d h3 (fun _ => 0) 0 0 0 0 0, gSh d h4 rE (fillV 8 (-1) (fun _ => 0)) (fun _ => 0), gridJ d rE 8 40 (fun _ _ => 0), gCh d h6 (h7 0) (h9 0) (h10 0) (fun _ => 0), gTr d h7 (h8 0) (fun _ => 0) (fun _ => 0) 0 0, gWy d h8 (fun _ => 0) (fun _ => 0) (fun _ => 0) (fun _ => 0) (fun _ => 0) (fun _ => 0) (fun _ => 0) (fun _ => 0) 0 (fun _ => 0) 0 0 0 (-1), gLd d h9 0 0 0 10 (fun _ => 0) (fun _ => 0) (fun _ => 0) (fillV 12 9 (fun _ => 0)) (fillV 3 1 (fun _ => 0)) (fun _ => 0) 0, gLd d h10 0 0 0 10 (fun _ => 0) (fun _ => 0) (fun _ => 0) (fillV 12 9 (fun _ => 0)) (fillV 3 1 (fun _ => 0)) (fun _ => 0) 0, gMd d hm none none none rr rl rg rw (fun _ => 0) (fun _ => 0) (fun _ => 0) (fun _ => 0) (fun _ => 0) (fun _ => 0) 0 (fun _ => 0) 0 (fillV 12 9 (fun _ => 0)) (va_up (va_up (va_up (fun _ => 0) 0 1) 1 1) 2 1) 0 0 10 0 0 0 0 0 0 0 (fun _ => 0) 0 (fun _ => 0) (fun _ => 0) 0 (fun _ => 0) 0 0 (fun _ => 0) (fun _ => 0), gridJ d rr 8 40 (fun _ _ => 0), gridI d rl 20 7 (fun _ _ => 0), gridI d rg 8 3 (fun _ _ => 0), gridI d rw 7 5 (fun _ _ => 0)] 122 3685 501 [(3, .int 0), (2, .ref (hm 0)), (1, .ref (h0 0)), (0, .ref b)] [] := by
  refine J_aload_n hK dL_law_501 rfl 2 rfl rfl ?_
  refine J_aload_n hK dL_law_502 rfl 3 rfl rfl ?_
  refine J_iload_n hK dL_law_503 rfl 0 rfl rfl ?_
  refine J_iconst (v := 1) hK dL_law_504 rfl (by decide) ?_
  refine J_iadd hK dL_law_505 rfl ?_
  refine J_sld (v := xs 1) hK hX dL_law_506 rfl rfl ?_
  refine J_aload_n hK dL_law_507 rfl 3 rfl rfl ?_
  refine J_iload_n hK dL_law_508 rfl 0 rfl rfl ?_
  refine J_iconst (v := 2) hK dL_law_509 rfl (by decide) ?_
  refine J_iadd hK dL_law_510 rfl ?_
  refine J_sld (v := xs 2) hK hX dL_law_511 rfl rfl ?_
  obtain ⟨ox, om, hx, hom, he⟩ := pe_6 (xs 1) (xs 2)
  refine J_callVd (m := 16) (ce' := 122) (sl' := 3685) (gr := [gLd d h2 0 0 0 10 (fun _ => 0) (fun _ => 0) (fun _ => 0) (fillV 12 9 (fun _ => 0)) (fillV 3 1 (fun _ => 0)) (fun _ => 0) 0, gTp d h3 (fun _ => 0) 0 0 0 0 0, gridJ d rE 8 40 (fun _ _ => 0), gCh d h6 (h7 0) (h9 0) (h10 0) (fun _ => 0), gTr d h7 (h8 0) (fun _ => 0) (fun _ => 0) 0 0, gWy d h8 (fun _ => 0) (fun _ => 0) (fun _ => 0) (fun _ => 0) (fun _ => 0) (fun _ => 0) (fun _ => 0) (fun _ => 0) 0 (fun _ => 0) 0 0 0 (-1), gLd d h9 0 0 0 10 (fun _ => 0) (fun _ => 0) (fun _ => 0) (fillV 12 9 (fun _ => 0)) (fillV 3 1 (fun _ => 0)) (fun _ => 0) 0, gLd d h10 0 0 0 10 (fun _ => 0) (fun _ => 0) (fun _ => 0) (fillV 12 9 (fun _ => 0)) (fillV 3 1 (fun _ => 0)) (fun _ => 0) 0, gMd d hm none none none rr rl rg rw (fun _ => 0) (fun _ => 0) (fun _ => 0) (fun _ => 0) (fun _ => 0) (fun _ => 0) 0 (fun _ => 0) 0 (fillV 12 9 (fun _ => 0)) (va_up (va_up (va_up (fun _ => 0) 0 1) 1 1) 2 1) 0 0 10 0 0 0 0 0 0 0 (fun _ => 0) 0 (fun _ => 0) (fun _ => 0) 0 (fun _ => 0) 0 0 (fun _ => 0) (fun _ => 0), gridJ d rr 8 40 (fun _ _ => 0), gridI d rl 20 7 (fun _ _ => 0), gridI d rg 8 3 (fun _ _ => 0), gridI d rw 7 5 (fun _ _ => 0)]) (v := .int (ox.1)) (st := []) hK dL_law_512 cv_RL_45 iv_yX6_says (As := [.int (xs 1), .int (xs 2)]) (kX6_says _ d h0 (h2 0) (h3 0) (h6 0) (h7 0) h4 rE h1 1000 (fun _ => 0) 0 0 0 (fun _ _ => 0) (fillV 8 (-1) (fun _ => 0)) (fun _ => 0) 0 0 0 10 (fun _ => 0) (fun _ => 0) (fun _ => 0) (fillV 12 9 (fun _ => 0)) (fillV 3 1 (fun _ => 0)) (fun _ => 0) 0 (xs 1) (xs 2) hx) (fun _ => rfl) rfl rfl (Nat.le_of_ble_eq_true rfl) (by decide) 0 0 rfl rfl rfl [0, 4, 1] [2, 3, 5, 6, 7, 8, 9, 10, 11, 12, 13, 14, 15] rfl (by decide +kernel) rfl rfl rfl rfl rfl ?_
  refine J_drp (gs2 := [gMd d hm none none none rr rl rg rw (fun _ => 0) (fun _ => 0) (fun _ => 0) (fun _ => 0) (fun _ => 0) (fun _ => 0) 0 (fun _ => 0) 0 (fillV 12 9 (fun _ => 0)) (va_up (va_up (va_up (fun _ => 0) 0 1) 1 1) 2 1) 0 0 10 0 0 0 0 0 0 0 (fun _ => 0) 0 (fun _ => 0) (fun _ => 0) 0 (fun _ => 0) 0 0 (fun _ => 0) (fun _ => 0), gridJ d rr 8 40 (fun _ _ => 0), gridI d rl 20 7 (fun _ _ => 0), gridI d rg 8 3 (fun _ _ => 0), gridI d rw 7 5 (fun _ _ => 0)]) 8 rfl ?_
  refine J_aload_n hK dL_law_515 rfl 1 rfl rfl ?_
  refine J_aload_n hK dL_law_516 rfl 3 rfl rfl ?_
  refine J_iload_n hK dL_law_517 rfl 0 rfl rfl ?_
  refine J_iconst (v := 1) hK dL_law_518 rfl (by decide) ?_
  refine J_iadd hK dL_law_519 rfl ?_
  refine J_sld (v := xs 1) hK hX dL_law_520 rfl rfl ?_
  refine J_aload_n hK dL_law_521 rfl 3 rfl rfl ?_
  refine J_iload_n hK dL_law_522 rfl 0 rfl rfl ?_
  refine J_iconst (v := 2) hK dL_law_523 rfl (by decide) ?_
  refine J_iadd hK dL_law_524 rfl ?_
  refine J_sld (v := xs 2) hK hX dL_law_525 rfl rfl ?_
  refine J_callVd (m := 5) (ce' := 122) (sl' := 3685) (gr := [gridJ d rr 8 40 (fun _ _ => 0), gridI d rl 20 7 (fun _ _ => 0), gridI d rg 8 3 (fun _ _ => 0)]) (v := .int (om.1)) (st := [.int (ox.1)]) hK dL_law_526 cv_RL_48 iv_yX7_says (As := [.int (xs 1), .int (xs 2)]) (kX7_says _ d hm rr rl rg rw none none none (fun _ => 0) (fun _ => 0) (fun _ => 0) (fun _ _ => 0) (fun _ => 0) (fun _ => 0) (fun _ => 0) 0 (fun _ => 0) 0 (fun _ _ => 0) (fillV 12 9 (fun _ => 0)) (va_up (va_up (va_up (fun _ => 0) 0 1) 1 1) 2 1) 0 (fun _ _ => 0) 0 (fun _ _ => 0) 10 0 0 0 0 0 0 0 (fun _ => 0) 0 (fun _ => 0) (fun _ => 0) 0 (fun _ => 0) 0 0 (fun _ => 0) (fun _ => 0) (xs 1) (xs 2) hom) (fun _ => rfl) rfl rfl (Nat.le_of_ble_eq_true rfl) (by decide) 0 0 rfl rfl rfl [0, 4] [1, 2, 3] rfl (by decide +kernel) rfl rfl rfl rfl rfl ?_
  refine J_icmp_eq (tg := 1595) hK dL_law_529 rfl rfl (fun _ => ?_) (fun h => absurd he h)
  exact J_nil (tail (by decide) (by decide))

set_option maxHeartbeats 4000000 in
set_option maxRecDepth 100000 in
theorem cs_7 {d : DT} {Φ : JC} {nm : String} (hK : Ok d Φ RL nm cL_law 4 (some .boolean) room_1) {b : Nat} {xs : Nat → Int32} (hX : Scr Φ b 7 xs) (h0 : Nat → Nat) (h1 : Nat → Nat) (h2 : Nat → Nat) (h3 : Nat → Nat) (h4 : Nat → Nat) (h6 : Nat → Nat) (h7 : Nat → Nat) (h8 : Nat → Nat) (h9 : Nat → Nat) (h10 : Nat → Nat) (rE hm rr rl rg rw : Nat → Nat) (tail : ∀ {ce sl : Nat}, ce ≤ 600000 → sl ≤ 7302250 → J d Φ 4 [] ce sl 1595 [(3, .int 0), (2, .ref (hm 0)), (1, .ref (h0 0)), (0, .ref b)] []) : J d Φ 4 [gTw d h0 (h1 0) (h2 0) (h3 0) (h4 0) (h6 0) (h7 0) (fun _ => 0) 0 0 0, gLd d h1 0 0 0 10 (fun _ => 0) (fun _ => 0) (fun _ => 0) (fillV 12 9 (fun _ => 0)) (fillV 3 1 (fun _ => 0)) (fun _ => 0) 0, gLd d h2 0 0 0 10 (fun _ => 0) (fun _ => 0) (fun _ => 0) (fillV 12 9 (fun _ => 0)) (fillV 3 1 (fun _ => 0)) (fun _ => 0) 0, gTp d h3 (fun _ => 0) 0 0 0 0 0, gSh d h4 rE (fillV 8 (-1) (fun _ => 0)) (fun _ => 0), gridJ d rE 8 40 (fun _ _ => 0), gCh d h6 (h7 0) (h9 0) (h10 0) (fun _ => 0), gTr d h7 (h8 0) (fun _ => 0) (fun _ => 0) 0 0, gWy d h8 (fun _ => 0) (fun _ => 0) (fun _ => 0) (fun _ => 0) (fun _ => 0) (fun _ => 0) (fun _ => 0) (fun _ => 0) 0 (fun _ => 0) 0 0 0 (-1), gLd d h9 0 0 0 10 (fun _ => 0) (fun _ => 0) (fun _ => 0) (fillV 12 9 (fun _ => 0)) (fillV 3 1 (fun _ => 0)) (fun _ => 0) 0, gLd d h10 0 0 0 10 (fun _ => 0) (fun _ => 0) (fun _ => 0) (fillV 12 9 (fun _ => 0)) (fillV 3 1 (fun _ => 0)) (fun _ => 0) 0, gMd d hm none none none rr rl rg rw (fun _ => 0) (fun _ => 0) (fun _ => 0) (fun _ => 0) (fun _ => 0) (fun _ => 0) 0 (fun _ => 0) 0 (fillV 12 9 (fun _ => 0)) (va_up (va_up (va_up (fun _ => 0) 0 1) 1 1) 2 1) 0 0 10 0 0 0 0 0 0 0 (fun _ => 0) 0 (fun _ => 0) (fun _ => 0) 0 (fun _ => 0) 0 0 (fun _ => 0) (fun _ => 0), gridJ d rr 8 40 (fun _ _ => 0), gridI d rl 20 7 (fun _ _ => 0), gridI d rg 8 3 (fun _ _ => 0), gridI d rw 7 5 (fun _ _ => 0)] 122 3685 534 [(3, .int 0), (2, .ref (hm 0)), (1, .ref (h0 0)), (0, .ref b)] [] := by
  refine J_aload_n hK dL_law_534 rfl 2 rfl rfl ?_
  refine J_aload_n hK dL_law_535 rfl 3 rfl rfl ?_
  refine J_iload_n hK dL_law_536 rfl 0 rfl rfl ?_
  refine J_iconst (v := 1) hK dL_law_537 rfl (by decide) ?_
  refine J_iadd hK dL_law_538 rfl ?_
  refine J_sld (v := xs 1) hK hX dL_law_539 rfl rfl ?_
  refine J_aload_n hK dL_law_540 rfl 3 rfl rfl ?_
  refine J_iload_n hK dL_law_541 rfl 0 rfl rfl ?_
  refine J_iconst (v := 2) hK dL_law_542 rfl (by decide) ?_
  refine J_iadd hK dL_law_543 rfl ?_
  refine J_sld (v := xs 2) hK hX dL_law_544 rfl rfl ?_
  refine J_aload_n hK dL_law_545 rfl 3 rfl rfl ?_
  refine J_iload_n hK dL_law_546 rfl 0 rfl rfl ?_
  refine J_iconst (v := 3) hK dL_law_547 rfl (by decide) ?_
  refine J_iadd hK dL_law_548 rfl ?_
  refine J_sld (v := xs 3) hK hX dL_law_549 rfl rfl ?_
  refine J_aload_n hK dL_law_550 rfl 3 rfl rfl ?_
  refine J_iload_n hK dL_law_551 rfl 0 rfl rfl ?_
  refine J_iconst (v := 4) hK dL_law_552 rfl (by decide) ?_
  refine J_iadd hK dL_law_553 rfl ?_
  refine J_sld (v := xs 4) hK hX dL_law_554 rfl rfl ?_
  refine J_aload_n hK dL_law_555 rfl 3 rfl rfl ?_
  refine J_iload_n hK dL_law_556 rfl 0 rfl rfl ?_
  refine J_iconst (v := 5) hK dL_law_557 rfl (by decide) ?_
  refine J_iadd hK dL_law_558 rfl ?_
  refine J_sld (v := xs 5) hK hX dL_law_559 rfl rfl ?_
  refine J_aload_n hK dL_law_560 rfl 3 rfl rfl ?_
  refine J_iload_n hK dL_law_561 rfl 0 rfl rfl ?_
  refine J_bipush (v := 6) hK dL_law_562 rfl (by decide) ?_
  refine J_iadd hK dL_law_564 rfl ?_
  refine J_sld (v := xs 6) hK hX dL_law_565 rfl rfl ?_
  obtain ⟨ox, om, hx, hom, he⟩ := pe_7 (xs 1) (xs 2) (xs 3) (xs 4) (xs 5) (xs 6)
  refine J_callVd (m := 16) (ce' := 122) (sl' := 3685) (gr := [gLd d h2 0 0 0 10 (fun _ => 0) (fun _ => 0) (fun _ => 0) (fillV 12 9 (fun _ => 0)) (fillV 3 1 (fun _ => 0)) (fun _ => 0) 0, gTp d h3 (fun _ => 0) 0 0 0 0 0, gSh d h4 rE (fillV 8 (-1) (fun _ => 0)) (fun _ => 0), gridJ d rE 8 40 (fun _ _ => 0), gCh d h6 (h7 0) (h9 0) (h10 0) (fun _ => 0), gTr d h7 (h8 0) (fun _ => 0) (fun _ => 0) 0 0, gWy d h8 (fun _ => 0) (fun _ => 0) (fun _ => 0) (fun _ => 0) (fun _ => 0) (fun _ => 0) (fun _ => 0) (fun _ => 0) 0 (fun _ => 0) 0 0 0 (-1), gLd d h9 0 0 0 10 (fun _ => 0) (fun _ => 0) (fun _ => 0) (fillV 12 9 (fun _ => 0)) (fillV 3 1 (fun _ => 0)) (fun _ => 0) 0, gLd d h10 0 0 0 10 (fun _ => 0) (fun _ => 0) (fun _ => 0) (fillV 12 9 (fun _ => 0)) (fillV 3 1 (fun _ => 0)) (fun _ => 0) 0, gMd d hm none none none rr rl rg rw (fun _ => 0) (fun _ => 0) (fun _ => 0) (fun _ => 0) (fun _ => 0) (fun _ => 0) 0 (fun _ => 0) 0 (fillV 12 9 (fun _ => 0)) (va_up (va_up (va_up (fun _ => 0) 0 1) 1 1) 2 1) 0 0 10 0 0 0 0 0 0 0 (fun _ => 0) 0 (fun _ => 0) (fun _ => 0) 0 (fun _ => 0) 0 0 (fun _ => 0) (fun _ => 0), gridJ d rr 8 40 (fun _ _ => 0), gridI d rl 20 7 (fun _ _ => 0), gridI d rg 8 3 (fun _ _ => 0), gridI d rw 7 5 (fun _ _ => 0)]) (v := .int (ox.1)) (st := []) hK dL_law_566 cv_RL_49 iv_yX6_line (As := [.int (xs 1), .int (xs 2), .int (xs 3), .int (xs 4), .int (xs 5), .int (xs 6)]) (kX6_line _ d h0 (h2 0) (h3 0) (h4 0) (h6 0) (h7 0) h1 (fun _ => 0) 0 0 0 0 0 0 10 (fun _ => 0) (fun _ => 0) (fun _ => 0) (fillV 12 9 (fun _ => 0)) (fillV 3 1 (fun _ => 0)) (fun _ => 0) 0 (xs 1) (xs 2) (xs 3) (xs 4) (xs 5) (xs 6) hx) (fun _ => rfl) rfl rfl (Nat.le_of_ble_eq_true rfl) (by decide) 0 0 rfl rfl rfl [0, 1] [2, 3, 4, 5, 6, 7, 8, 9, 10, 11, 12, 13, 14, 15] rfl (by decide +kernel) rfl rfl rfl rfl rfl ?_
  refine J_drp (gs2 := [gMd d hm none none none rr rl rg rw (fun _ => 0) (fun _ => 0) (fun _ => 0) (fun _ => 0) (fun _ => 0) (fun _ => 0) 0 (fun _ => 0) 0 (fillV 12 9 (fun _ => 0)) (va_up (va_up (va_up (fun _ => 0) 0 1) 1 1) 2 1) 0 0 10 0 0 0 0 0 0 0 (fun _ => 0) 0 (fun _ => 0) (fun _ => 0) 0 (fun _ => 0) 0 0 (fun _ => 0) (fun _ => 0), gridJ d rr 8 40 (fun _ _ => 0), gridI d rl 20 7 (fun _ _ => 0), gridI d rg 8 3 (fun _ _ => 0), gridI d rw 7 5 (fun _ _ => 0)]) 9 rfl ?_
  refine J_aload_n hK dL_law_569 rfl 1 rfl rfl ?_
  refine J_aload_n hK dL_law_570 rfl 3 rfl rfl ?_
  refine J_iload_n hK dL_law_571 rfl 0 rfl rfl ?_
  refine J_iconst (v := 1) hK dL_law_572 rfl (by decide) ?_
  refine J_iadd hK dL_law_573 rfl ?_
  refine J_sld (v := xs 1) hK hX dL_law_574 rfl rfl ?_
  refine J_aload_n hK dL_law_575 rfl 3 rfl rfl ?_
  refine J_iload_n hK dL_law_576 rfl 0 rfl rfl ?_
  refine J_iconst (v := 2) hK dL_law_577 rfl (by decide) ?_
  refine J_iadd hK dL_law_578 rfl ?_
  refine J_sld (v := xs 2) hK hX dL_law_579 rfl rfl ?_
  refine J_aload_n hK dL_law_580 rfl 3 rfl rfl ?_
  refine J_iload_n hK dL_law_581 rfl 0 rfl rfl ?_
  refine J_iconst (v := 3) hK dL_law_582 rfl (by decide) ?_
  refine J_iadd hK dL_law_583 rfl ?_
  refine J_sld (v := xs 3) hK hX dL_law_584 rfl rfl ?_
  refine J_aload_n hK dL_law_585 rfl 3 rfl rfl ?_
  refine J_iload_n hK dL_law_586 rfl 0 rfl rfl ?_
  refine J_iconst (v := 4) hK dL_law_587 rfl (by decide) ?_
  refine J_iadd hK dL_law_588 rfl ?_
  refine J_sld (v := xs 4) hK hX dL_law_589 rfl rfl ?_
  refine J_aload_n hK dL_law_590 rfl 3 rfl rfl ?_
  refine J_iload_n hK dL_law_591 rfl 0 rfl rfl ?_
  refine J_iconst (v := 5) hK dL_law_592 rfl (by decide) ?_
  refine J_iadd hK dL_law_593 rfl ?_
  refine J_sld (v := xs 5) hK hX dL_law_594 rfl rfl ?_
  refine J_aload_n hK dL_law_595 rfl 3 rfl rfl ?_
  refine J_iload_n hK dL_law_596 rfl 0 rfl rfl ?_
  refine J_bipush (v := 6) hK dL_law_597 rfl (by decide) ?_
  refine J_iadd hK dL_law_599 rfl ?_
  refine J_sld (v := xs 6) hK hX dL_law_600 rfl rfl ?_
  refine J_callVd (m := 5) (ce' := 122) (sl' := 3685) (gr := [gridJ d rr 8 40 (fun _ _ => 0), gridI d rg 8 3 (fun _ _ => 0), gridI d rw 7 5 (fun _ _ => 0)]) (v := .int (om.1)) (st := [.int (ox.1)]) hK dL_law_601 cv_RL_53 iv_yX7_line (As := [.int (xs 1), .int (xs 2), .int (xs 3), .int (xs 4), .int (xs 5), .int (xs 6)]) (kX7_line _ d hm rr rl rg rw none none none (fun _ => 0) (fun _ => 0) (fun _ => 0) (fun _ _ => 0) (fun _ => 0) (fun _ => 0) (fun _ => 0) 0 (fun _ => 0) 0 (fun _ _ => 0) (fillV 12 9 (fun _ => 0)) (va_up (va_up (va_up (fun _ => 0) 0 1) 1 1) 2 1) 0 (fun _ _ => 0) 0 (fun _ _ => 0) 10 0 0 0 0 0 0 0 (fun _ => 0) 0 (fun _ => 0) (fun _ => 0) 0 (fun _ => 0) 0 0 (fun _ => 0) (fun _ => 0) (xs 1) (xs 2) (xs 3) (xs 4) (xs 5) (xs 6) hom) (fun _ => rfl) rfl rfl (Nat.le_of_ble_eq_true rfl) (by decide) 0 0 rfl rfl rfl [0, 2] [1, 3, 4] rfl (by decide +kernel) rfl rfl rfl rfl rfl ?_
  refine J_icmp_eq (tg := 1595) hK dL_law_604 rfl rfl (fun _ => ?_) (fun h => absurd he h)
  exact J_nil (tail (by decide) (by decide))

theorem lgc_self (a : Int64) : lg_cmp a a = 0 := by unfold lg_cmp; simp
set_option maxHeartbeats 4000000 in
set_option maxRecDepth 100000 in
theorem cs_0 {d : DT} {Φ : JC} {nm : String} (hK : Ok d Φ RL nm cL_law 4 (some .boolean) room_1) {b : Nat} {xs : Nat → Int32} (hX : Scr Φ b 7 xs) (h0 : Nat → Nat) (h1 : Nat → Nat) (h2 : Nat → Nat) (h3 : Nat → Nat) (h4 : Nat → Nat) (h6 : Nat → Nat) (h7 : Nat → Nat) (h8 : Nat → Nat) (h9 : Nat → Nat) (h10 : Nat → Nat) (rE hm rr rl rg rw : Nat → Nat) (tail : ∀ {ce sl : Nat}, ce ≤ 600000 → sl ≤ 7302250 → J d Φ 4 [] ce sl 1595 [(3, .int 0), (2, .ref (hm 0)), (1, .ref (h0 0)), (0, .ref b)] []) : J d Φ 4 [gTw d h0 (h1 0) (h2 0) (h3 0) (h4 0) (h6 0) (h7 0) (fun _ => 0) 0 0 0, gLd d h1 0 0 0 10 (fun _ => 0) (fun _ => 0) (fun _ => 0) (fillV 12 9 (fun _ => 0)) (fillV 3 1 (fun _ => 0)) (fun _ => 0) 0, gLd d h2 0 0 0 10 (fun _ => 0) (fun _ => 0) (fun _ => 0) (fillV 12 9 (fun _ => 0)) (fillV 3 1 (fun _ => 0)) (fun _ => 0) 0, gTp d h3 (fun _ => 0) 0 0 0 0 0, gSh d h4 rE (fillV 8 (-1) (fun _ => 0)) (fun _ => 0), gridJ d rE 8 40 (fun _ _ => 0), gCh d h6 (h7 0) (h9 0) (h10 0) (fun _ => 0), gTr d h7 (h8 0) (fun _ => 0) (fun _ => 0) 0 0, gWy d h8 (fun _ => 0) (fun _ => 0) (fun _ => 0) (fun _ => 0) (fun _ => 0) (fun _ => 0) (fun _ => 0) (fun _ => 0) 0 (fun _ => 0) 0 0 0 (-1), gLd d h9 0 0 0 10 (fun _ => 0) (fun _ => 0) (fun _ => 0) (fillV 12 9 (fun _ => 0)) (fillV 3 1 (fun _ => 0)) (fun _ => 0) 0, gLd d h10 0 0 0 10 (fun _ => 0) (fun _ => 0) (fun _ => 0) (fillV 12 9 (fun _ => 0)) (fillV 3 1 (fun _ => 0)) (fun _ => 0) 0, gMd d hm none none none rr rl rg rw (fun _ => 0) (fun _ => 0) (fun _ => 0) (fun _ => 0) (fun _ => 0) (fun _ => 0) 0 (fun _ => 0) 0 (fillV 12 9 (fun _ => 0)) (va_up (va_up (va_up (fun _ => 0) 0 1) 1 1) 2 1) 0 0 10 0 0 0 0 0 0 0 (fun _ => 0) 0 (fun _ => 0) (fun _ => 0) 0 (fun _ => 0) 0 0 (fun _ => 0) (fun _ => 0), gridJ d rr 8 40 (fun _ _ => 0), gridI d rl 20 7 (fun _ _ => 0), gridI d rg 8 3 (fun _ _ => 0), gridI d rw 7 5 (fun _ _ => 0)] 122 3685 232 [(3, .int 0), (2, .ref (hm 0)), (1, .ref (h0 0)), (0, .ref b)] [] := by
  refine J_aload_n hK dL_law_232 rfl 2 rfl rfl ?_
  refine J_aload_n hK dL_law_233 rfl 3 rfl rfl ?_
  refine J_iload_n hK dL_law_234 rfl 0 rfl rfl ?_
  refine J_iconst (v := 1) hK dL_law_235 rfl (by decide) ?_
  refine J_iadd hK dL_law_236 rfl ?_
  refine J_sld (v := xs 1) hK hX dL_law_237 rfl rfl ?_
  refine J_aload_n hK dL_law_238 rfl 3 rfl rfl ?_
  refine J_iload_n hK dL_law_239 rfl 0 rfl rfl ?_
  refine J_iconst (v := 2) hK dL_law_240 rfl (by decide) ?_
  refine J_iadd hK dL_law_241 rfl ?_
  refine J_sld (v := xs 2) hK hX dL_law_242 rfl rfl ?_
  refine J_aload_n hK dL_law_243 rfl 3 rfl rfl ?_
  refine J_iload_n hK dL_law_244 rfl 0 rfl rfl ?_
  refine J_iconst (v := 3) hK dL_law_245 rfl (by decide) ?_
  refine J_iadd hK dL_law_246 rfl ?_
  refine J_sld (v := xs 3) hK hX dL_law_247 rfl rfl ?_
  obtain ⟨ox, om, hx, hom, he⟩ := pe_0 (xs 1) (xs 2) (xs 3)
  refine J_callVd (ce' := 122) (sl' := 3685) (gr := [gLd d h1 0 0 0 10 (fun _ => 0) (fun _ => 0) (fun _ => 0) (fillV 12 9 (fun _ => 0)) (fillV 3 1 (fun _ => 0)) (fun _ => 0) 0, gLd d h2 0 0 0 10 (fun _ => 0) (fun _ => 0) (fun _ => 0) (fillV 12 9 (fun _ => 0)) (fillV 3 1 (fun _ => 0)) (fun _ => 0) 0, gTp d h3 (fun _ => 0) 0 0 0 0 0, gCh d h6 (h7 0) (h9 0) (h10 0) (fun _ => 0), gTr d h7 (h8 0) (fun _ => 0) (fun _ => 0) 0 0, gWy d h8 (fun _ => 0) (fun _ => 0) (fun _ => 0) (fun _ => 0) (fun _ => 0) (fun _ => 0) (fun _ => 0) (fun _ => 0) 0 (fun _ => 0) 0 0 0 (-1), gLd d h9 0 0 0 10 (fun _ => 0) (fun _ => 0) (fun _ => 0) (fillV 12 9 (fun _ => 0)) (fillV 3 1 (fun _ => 0)) (fun _ => 0) 0, gLd d h10 0 0 0 10 (fun _ => 0) (fun _ => 0) (fun _ => 0) (fillV 12 9 (fun _ => 0)) (fillV 3 1 (fun _ => 0)) (fun _ => 0) 0, gMd d hm none none none rr rl rg rw (fun _ => 0) (fun _ => 0) (fun _ => 0) (fun _ => 0) (fun _ => 0) (fun _ => 0) 0 (fun _ => 0) 0 (fillV 12 9 (fun _ => 0)) (va_up (va_up (va_up (fun _ => 0) 0 1) 1 1) 2 1) 0 0 10 0 0 0 0 0 0 0 (fun _ => 0) 0 (fun _ => 0) (fun _ => 0) 0 (fun _ => 0) 0 0 (fun _ => 0) (fun _ => 0), gridJ d rr 8 40 (fun _ _ => 0), gridI d rl 20 7 (fun _ _ => 0), gridI d rg 8 3 (fun _ _ => 0), gridI d rw 7 5 (fun _ _ => 0)]) (v := .int (ox.1)) (st := []) hK dL_law_248 cv_RL_13 iv_yX6_row (As := [.int (xs 1), .int (xs 2), .int (xs 3)]) (kX6_row _ d h0 (h1 0) (h2 0) (h3 0) (h6 0) (h7 0) h4 rE 1000 (fun _ => 0) 0 0 0 (fun _ _ => 0) (fillV 8 (-1) (fun _ => 0)) (fun _ => 0) (xs 1) (xs 2) (xs 3) hx) (fun _ => rfl) rfl rfl (Nat.le_of_ble_eq_true rfl) (by decide) 0 0 rfl rfl rfl [0, 4, 5] [1, 2, 3, 6, 7, 8, 9, 10, 11, 12, 13, 14, 15] rfl rfl rfl rfl rfl rfl rfl ?_
  refine J_drp (gs2 := [gMd d hm none none none rr rl rg rw (fun _ => 0) (fun _ => 0) (fun _ => 0) (fun _ => 0) (fun _ => 0) (fun _ => 0) 0 (fun _ => 0) 0 (fillV 12 9 (fun _ => 0)) (va_up (va_up (va_up (fun _ => 0) 0 1) 1 1) 2 1) 0 0 10 0 0 0 0 0 0 0 (fun _ => 0) 0 (fun _ => 0) (fun _ => 0) 0 (fun _ => 0) 0 0 (fun _ => 0) (fun _ => 0), gridJ d rr 8 40 (fun _ _ => 0), gridI d rl 20 7 (fun _ _ => 0), gridI d rg 8 3 (fun _ _ => 0), gridI d rw 7 5 (fun _ _ => 0)]) 8 rfl ?_
  refine J_aload_n hK dL_law_251 rfl 1 rfl rfl ?_
  refine J_aload_n hK dL_law_252 rfl 3 rfl rfl ?_
  refine J_iload_n hK dL_law_253 rfl 0 rfl rfl ?_
  refine J_iconst (v := 1) hK dL_law_254 rfl (by decide) ?_
  refine J_iadd hK dL_law_255 rfl ?_
  refine J_sld (v := xs 1) hK hX dL_law_256 rfl rfl ?_
  refine J_aload_n hK dL_law_257 rfl 3 rfl rfl ?_
  refine J_iload_n hK dL_law_258 rfl 0 rfl rfl ?_
  refine J_iconst (v := 2) hK dL_law_259 rfl (by decide) ?_
  refine J_iadd hK dL_law_260 rfl ?_
  refine J_sld (v := xs 2) hK hX dL_law_261 rfl rfl ?_
  refine J_aload_n hK dL_law_262 rfl 3 rfl rfl ?_
  refine J_iload_n hK dL_law_263 rfl 0 rfl rfl ?_
  refine J_iconst (v := 3) hK dL_law_264 rfl (by decide) ?_
  refine J_iadd hK dL_law_265 rfl ?_
  refine J_sld (v := xs 3) hK hX dL_law_266 rfl rfl ?_
  refine J_callVd (ce' := 122) (sl' := 3685) (gr := [gridI d rl 20 7 (fun _ _ => 0), gridI d rg 8 3 (fun _ _ => 0), gridI d rw 7 5 (fun _ _ => 0)]) (v := .int (om.1)) (st := [.int (ox.1)]) hK dL_law_267 cv_RL_17 iv_yX7_row (As := [.int (xs 1), .int (xs 2), .int (xs 3)]) (kX7_row _ d hm rr rl rg rw none none none 1000 (fun _ => 0) (fun _ => 0) (fun _ => 0) (fun _ _ => 0) (fun _ => 0) (fun _ => 0) (fun _ => 0) 0 (fun _ => 0) 0 (fun _ _ => 0) (fillV 12 9 (fun _ => 0)) (va_up (va_up (va_up (fun _ => 0) 0 1) 1 1) 2 1) 0 (fun _ _ => 0) 0 (fun _ _ => 0) 10 0 0 0 0 0 0 0 (fun _ => 0) 0 (fun _ => 0) (fun _ => 0) 0 (fun _ => 0) 0 0 (fun _ => 0) (fun _ => 0) (xs 1) (xs 2) (xs 3) hom) (fun _ => rfl) rfl rfl (Nat.le_of_ble_eq_true rfl) (by decide) 0 0 rfl rfl rfl [0, 1] [2, 3, 4] rfl rfl rfl rfl rfl rfl rfl ?_
  refine J_icmp_eq (tg := 1595) hK dL_law_270 rfl rfl (fun _ => ?_) (fun h => absurd he h)
  exact J_nil (tail (by decide) (by decide))

set_option maxHeartbeats 4000000 in
set_option maxRecDepth 100000 in
theorem cs_1 {d : DT} {Φ : JC} {nm : String} (hK : Ok d Φ RL nm cL_law 4 (some .boolean) room_1) {b : Nat} {xs : Nat → Int32} (hX : Scr Φ b 7 xs) (h0 : Nat → Nat) (h1 : Nat → Nat) (h2 : Nat → Nat) (h3 : Nat → Nat) (h4 : Nat → Nat) (h6 : Nat → Nat) (h7 : Nat → Nat) (h8 : Nat → Nat) (h9 : Nat → Nat) (h10 : Nat → Nat) (rE hm rr rl rg rw : Nat → Nat) (tail : ∀ {ce sl : Nat}, ce ≤ 600000 → sl ≤ 7302250 → J d Φ 4 [] ce sl 1595 [(3, .int 0), (2, .ref (hm 0)), (1, .ref (h0 0)), (0, .ref b)] []) : J d Φ 4 [gTw d h0 (h1 0) (h2 0) (h3 0) (h4 0) (h6 0) (h7 0) (fun _ => 0) 0 0 0, gLd d h1 0 0 0 10 (fun _ => 0) (fun _ => 0) (fun _ => 0) (fillV 12 9 (fun _ => 0)) (fillV 3 1 (fun _ => 0)) (fun _ => 0) 0, gLd d h2 0 0 0 10 (fun _ => 0) (fun _ => 0) (fun _ => 0) (fillV 12 9 (fun _ => 0)) (fillV 3 1 (fun _ => 0)) (fun _ => 0) 0, gTp d h3 (fun _ => 0) 0 0 0 0 0, gSh d h4 rE (fillV 8 (-1) (fun _ => 0)) (fun _ => 0), gridJ d rE 8 40 (fun _ _ => 0), gCh d h6 (h7 0) (h9 0) (h10 0) (fun _ => 0), gTr d h7 (h8 0) (fun _ => 0) (fun _ => 0) 0 0, gWy d h8 (fun _ => 0) (fun _ => 0) (fun _ => 0) (fun _ => 0) (fun _ => 0) (fun _ => 0) (fun _ => 0) (fun _ => 0) 0 (fun _ => 0) 0 0 0 (-1), gLd d h9 0 0 0 10 (fun _ => 0) (fun _ => 0) (fun _ => 0) (fillV 12 9 (fun _ => 0)) (fillV 3 1 (fun _ => 0)) (fun _ => 0) 0, gLd d h10 0 0 0 10 (fun _ => 0) (fun _ => 0) (fun _ => 0) (fillV 12 9 (fun _ => 0)) (fillV 3 1 (fun _ => 0)) (fun _ => 0) 0, gMd d hm none none none rr rl rg rw (fun _ => 0) (fun _ => 0) (fun _ => 0) (fun _ => 0) (fun _ => 0) (fun _ => 0) 0 (fun _ => 0) 0 (fillV 12 9 (fun _ => 0)) (va_up (va_up (va_up (fun _ => 0) 0 1) 1 1) 2 1) 0 0 10 0 0 0 0 0 0 0 (fun _ => 0) 0 (fun _ => 0) (fun _ => 0) 0 (fun _ => 0) 0 0 (fun _ => 0) (fun _ => 0), gridJ d rr 8 40 (fun _ _ => 0), gridI d rl 20 7 (fun _ _ => 0), gridI d rg 8 3 (fun _ _ => 0), gridI d rw 7 5 (fun _ _ => 0)] 122 3685 275 [(3, .int 0), (2, .ref (hm 0)), (1, .ref (h0 0)), (0, .ref b)] [] := by
  refine J_aload_n hK dL_law_275 rfl 2 rfl rfl ?_
  refine J_aload_n hK dL_law_276 rfl 3 rfl rfl ?_
  refine J_iload_n hK dL_law_277 rfl 0 rfl rfl ?_
  refine J_iconst (v := 1) hK dL_law_278 rfl (by decide) ?_
  refine J_iadd hK dL_law_279 rfl ?_
  refine J_sld (v := xs 1) hK hX dL_law_280 rfl rfl ?_
  refine J_aload_n hK dL_law_281 rfl 3 rfl rfl ?_
  refine J_iload_n hK dL_law_282 rfl 0 rfl rfl ?_
  refine J_iconst (v := 2) hK dL_law_283 rfl (by decide) ?_
  refine J_iadd hK dL_law_284 rfl ?_
  refine J_sld (v := xs 2) hK hX dL_law_285 rfl rfl ?_
  refine J_aload_n hK dL_law_286 rfl 3 rfl rfl ?_
  refine J_iload_n hK dL_law_287 rfl 0 rfl rfl ?_
  refine J_iconst (v := 3) hK dL_law_288 rfl (by decide) ?_
  refine J_iadd hK dL_law_289 rfl ?_
  refine J_sld (v := xs 3) hK hX dL_law_290 rfl rfl ?_
  refine J_i2l hK dL_law_291 rfl ?_
  refine J_bipush (v := 32) hK dL_law_292 rfl (by decide) ?_
  refine J_lshl hK dL_law_294 rfl ?_
  refine J_aload_n hK dL_law_295 rfl 3 rfl rfl ?_
  refine J_iload_n hK dL_law_296 rfl 0 rfl rfl ?_
  refine J_iconst (v := 4) hK dL_law_297 rfl (by decide) ?_
  refine J_iadd hK dL_law_298 rfl ?_
  refine J_sld (v := xs 4) hK hX dL_law_299 rfl rfl ?_
  refine J_i2l hK dL_law_300 rfl ?_
  refine J_ldc2 (v := (4294967295 : Int64)) hK dL_law_301 rfl wk_RL_18 ?_
  refine J_land hK dL_law_304 rfl ?_
  refine J_lor hK dL_law_305 rfl ?_
  obtain ⟨ox, om, hx, hom, he⟩ := pe_1 (xs 1) (xs 2) (((xs 3).toInt64 <<< ((32 : Int32).toInt64 &&& 63)) ||| ((xs 4).toInt64 &&& (4294967295 : Int64)))
  refine J_callVd (ce' := 122) (sl' := 3685) (gr := [gLd d h1 0 0 0 10 (fun _ => 0) (fun _ => 0) (fun _ => 0) (fillV 12 9 (fun _ => 0)) (fillV 3 1 (fun _ => 0)) (fun _ => 0) 0, gLd d h2 0 0 0 10 (fun _ => 0) (fun _ => 0) (fun _ => 0) (fillV 12 9 (fun _ => 0)) (fillV 3 1 (fun _ => 0)) (fun _ => 0) 0, gTp d h3 (fun _ => 0) 0 0 0 0 0, gCh d h6 (h7 0) (h9 0) (h10 0) (fun _ => 0), gTr d h7 (h8 0) (fun _ => 0) (fun _ => 0) 0 0, gWy d h8 (fun _ => 0) (fun _ => 0) (fun _ => 0) (fun _ => 0) (fun _ => 0) (fun _ => 0) (fun _ => 0) (fun _ => 0) 0 (fun _ => 0) 0 0 0 (-1), gLd d h9 0 0 0 10 (fun _ => 0) (fun _ => 0) (fun _ => 0) (fillV 12 9 (fun _ => 0)) (fillV 3 1 (fun _ => 0)) (fun _ => 0) 0, gLd d h10 0 0 0 10 (fun _ => 0) (fun _ => 0) (fun _ => 0) (fillV 12 9 (fun _ => 0)) (fillV 3 1 (fun _ => 0)) (fun _ => 0) 0, gMd d hm none none none rr rl rg rw (fun _ => 0) (fun _ => 0) (fun _ => 0) (fun _ => 0) (fun _ => 0) (fun _ => 0) 0 (fun _ => 0) 0 (fillV 12 9 (fun _ => 0)) (va_up (va_up (va_up (fun _ => 0) 0 1) 1 1) 2 1) 0 0 10 0 0 0 0 0 0 0 (fun _ => 0) 0 (fun _ => 0) (fun _ => 0) 0 (fun _ => 0) 0 0 (fun _ => 0) (fun _ => 0), gridJ d rr 8 40 (fun _ _ => 0), gridI d rl 20 7 (fun _ _ => 0), gridI d rg 8 3 (fun _ _ => 0), gridI d rw 7 5 (fun _ _ => 0)]) (v := .int (ox.1)) (st := []) hK dL_law_306 cv_RL_20 iv_yX6_set (As := [.int (xs 1), .int (xs 2), .long (((xs 3).toInt64 <<< ((32 : Int32).toInt64 &&& 63)) ||| ((xs 4).toInt64 &&& (4294967295 : Int64)))]) (kX6_set _ d h0 (h1 0) (h2 0) (h3 0) (h6 0) (h7 0) h4 rE (fun _ => 0) 0 0 0 (fun _ _ => 0) (fillV 8 (-1) (fun _ => 0)) (fun _ => 0) (xs 1) (xs 2) (((xs 3).toInt64 <<< ((32 : Int32).toInt64 &&& 63)) ||| ((xs 4).toInt64 &&& (4294967295 : Int64))) hx) (fun _ => rfl) rfl rfl (Nat.le_of_ble_eq_true rfl) (by decide) 0 0 rfl rfl rfl [0, 4, 5] [1, 2, 3, 6, 7, 8, 9, 10, 11, 12, 13, 14, 15] rfl rfl rfl rfl rfl rfl rfl ?_
  refine J_drp (gs2 := [gMd d hm none none none rr rl rg rw (fun _ => 0) (fun _ => 0) (fun _ => 0) (fun _ => 0) (fun _ => 0) (fun _ => 0) 0 (fun _ => 0) 0 (fillV 12 9 (fun _ => 0)) (va_up (va_up (va_up (fun _ => 0) 0 1) 1 1) 2 1) 0 0 10 0 0 0 0 0 0 0 (fun _ => 0) 0 (fun _ => 0) (fun _ => 0) 0 (fun _ => 0) 0 0 (fun _ => 0) (fun _ => 0), gridJ d rr 8 40 (fun _ _ => 0), gridI d rl 20 7 (fun _ _ => 0), gridI d rg 8 3 (fun _ _ => 0), gridI d rw 7 5 (fun _ _ => 0)]) 8 rfl ?_
  refine J_aload_n hK dL_law_309 rfl 1 rfl rfl ?_
  refine J_aload_n hK dL_law_310 rfl 3 rfl rfl ?_
  refine J_iload_n hK dL_law_311 rfl 0 rfl rfl ?_
  refine J_iconst (v := 1) hK dL_law_312 rfl (by decide) ?_
  refine J_iadd hK dL_law_313 rfl ?_
  refine J_sld (v := xs 1) hK hX dL_law_314 rfl rfl ?_
  refine J_aload_n hK dL_law_315 rfl 3 rfl rfl ?_
  refine J_iload_n hK dL_law_316 rfl 0 rfl rfl ?_
  refine J_iconst (v := 2) hK dL_law_317 rfl (by decide) ?_
  refine J_iadd hK dL_law_318 rfl ?_
  refine J_sld (v := xs 2) hK hX dL_law_319 rfl rfl ?_
  refine J_aload_n hK dL_law_320 rfl 3 rfl rfl ?_
  refine J_iload_n hK dL_law_321 rfl 0 rfl rfl ?_
  refine J_iconst (v := 3) hK dL_law_322 rfl (by decide) ?_
  refine J_iadd hK dL_law_323 rfl ?_
  refine J_sld (v := xs 3) hK hX dL_law_324 rfl rfl ?_
  refine J_i2l hK dL_law_325 rfl ?_
  refine J_bipush (v := 32) hK dL_law_326 rfl (by decide) ?_
  refine J_lshl hK dL_law_328 rfl ?_
  refine J_aload_n hK dL_law_329 rfl 3 rfl rfl ?_
  refine J_iload_n hK dL_law_330 rfl 0 rfl rfl ?_
  refine J_iconst (v := 4) hK dL_law_331 rfl (by decide) ?_
  refine J_iadd hK dL_law_332 rfl ?_
  refine J_sld (v := xs 4) hK hX dL_law_333 rfl rfl ?_
  refine J_i2l hK dL_law_334 rfl ?_
  refine J_ldc2 (v := (4294967295 : Int64)) hK dL_law_335 rfl wk_RL_18 ?_
  refine J_land hK dL_law_338 rfl ?_
  refine J_lor hK dL_law_339 rfl ?_
  refine J_callVd (ce' := 122) (sl' := 3685) (gr := [gridI d rl 20 7 (fun _ _ => 0), gridI d rg 8 3 (fun _ _ => 0), gridI d rw 7 5 (fun _ _ => 0)]) (v := .int (om.1)) (st := [.int (ox.1)]) hK dL_law_340 cv_RL_24 iv_yX7_set (As := [.int (xs 1), .int (xs 2), .long (((xs 3).toInt64 <<< ((32 : Int32).toInt64 &&& 63)) ||| ((xs 4).toInt64 &&& (4294967295 : Int64)))]) (kX7_set _ d hm rr rl rg rw none none none (fun _ => 0) (fun _ => 0) (fun _ => 0) (fun _ _ => 0) (fun _ => 0) (fun _ => 0) (fun _ => 0) 0 (fun _ => 0) 0 (fun _ _ => 0) (fillV 12 9 (fun _ => 0)) (va_up (va_up (va_up (fun _ => 0) 0 1) 1 1) 2 1) 0 (fun _ _ => 0) 0 (fun _ _ => 0) 10 0 0 0 0 0 0 0 (fun _ => 0) 0 (fun _ => 0) (fun _ => 0) 0 (fun _ => 0) 0 0 (fun _ => 0) (fun _ => 0) (xs 1) (xs 2) (((xs 3).toInt64 <<< ((32 : Int32).toInt64 &&& 63)) ||| ((xs 4).toInt64 &&& (4294967295 : Int64))) hom) (fun _ => rfl) rfl rfl (Nat.le_of_ble_eq_true rfl) (by decide) 0 0 rfl rfl rfl [0, 1] [2, 3, 4] rfl rfl rfl rfl rfl rfl rfl ?_
  refine J_icmp_eq (tg := 1595) hK dL_law_343 rfl rfl (fun _ => ?_) (fun h => absurd he h)
  exact J_nil (tail (by decide) (by decide))

set_option maxHeartbeats 4000000 in
set_option maxRecDepth 100000 in
theorem cs_2 {d : DT} {Φ : JC} {nm : String} (hK : Ok d Φ RL nm cL_law 4 (some .boolean) room_1) {b : Nat} {xs : Nat → Int32} (hX : Scr Φ b 7 xs) (h0 : Nat → Nat) (h1 : Nat → Nat) (h2 : Nat → Nat) (h3 : Nat → Nat) (h4 : Nat → Nat) (h6 : Nat → Nat) (h7 : Nat → Nat) (h8 : Nat → Nat) (h9 : Nat → Nat) (h10 : Nat → Nat) (rE hm rr rl rg rw : Nat → Nat) (tail : ∀ {ce sl : Nat}, ce ≤ 600000 → sl ≤ 7302250 → J d Φ 4 [] ce sl 1595 [(3, .int 0), (2, .ref (hm 0)), (1, .ref (h0 0)), (0, .ref b)] []) : J d Φ 4 [gTw d h0 (h1 0) (h2 0) (h3 0) (h4 0) (h6 0) (h7 0) (fun _ => 0) 0 0 0, gLd d h1 0 0 0 10 (fun _ => 0) (fun _ => 0) (fun _ => 0) (fillV 12 9 (fun _ => 0)) (fillV 3 1 (fun _ => 0)) (fun _ => 0) 0, gLd d h2 0 0 0 10 (fun _ => 0) (fun _ => 0) (fun _ => 0) (fillV 12 9 (fun _ => 0)) (fillV 3 1 (fun _ => 0)) (fun _ => 0) 0, gTp d h3 (fun _ => 0) 0 0 0 0 0, gSh d h4 rE (fillV 8 (-1) (fun _ => 0)) (fun _ => 0), gridJ d rE 8 40 (fun _ _ => 0), gCh d h6 (h7 0) (h9 0) (h10 0) (fun _ => 0), gTr d h7 (h8 0) (fun _ => 0) (fun _ => 0) 0 0, gWy d h8 (fun _ => 0) (fun _ => 0) (fun _ => 0) (fun _ => 0) (fun _ => 0) (fun _ => 0) (fun _ => 0) (fun _ => 0) 0 (fun _ => 0) 0 0 0 (-1), gLd d h9 0 0 0 10 (fun _ => 0) (fun _ => 0) (fun _ => 0) (fillV 12 9 (fun _ => 0)) (fillV 3 1 (fun _ => 0)) (fun _ => 0) 0, gLd d h10 0 0 0 10 (fun _ => 0) (fun _ => 0) (fun _ => 0) (fillV 12 9 (fun _ => 0)) (fillV 3 1 (fun _ => 0)) (fun _ => 0) 0, gMd d hm none none none rr rl rg rw (fun _ => 0) (fun _ => 0) (fun _ => 0) (fun _ => 0) (fun _ => 0) (fun _ => 0) 0 (fun _ => 0) 0 (fillV 12 9 (fun _ => 0)) (va_up (va_up (va_up (fun _ => 0) 0 1) 1 1) 2 1) 0 0 10 0 0 0 0 0 0 0 (fun _ => 0) 0 (fun _ => 0) (fun _ => 0) 0 (fun _ => 0) 0 0 (fun _ => 0) (fun _ => 0), gridJ d rr 8 40 (fun _ _ => 0), gridI d rl 20 7 (fun _ _ => 0), gridI d rg 8 3 (fun _ _ => 0), gridI d rw 7 5 (fun _ _ => 0)] 122 3685 348 [(3, .int 0), (2, .ref (hm 0)), (1, .ref (h0 0)), (0, .ref b)] [] := by
  refine J_aload_n hK dL_law_348 rfl 2 rfl rfl ?_
  refine J_aload_n hK dL_law_349 rfl 3 rfl rfl ?_
  refine J_iload_n hK dL_law_350 rfl 0 rfl rfl ?_
  refine J_iconst (v := 1) hK dL_law_351 rfl (by decide) ?_
  refine J_iadd hK dL_law_352 rfl ?_
  refine J_sld (v := xs 1) hK hX dL_law_353 rfl rfl ?_
  refine J_aload_n hK dL_law_354 rfl 3 rfl rfl ?_
  refine J_iload_n hK dL_law_355 rfl 0 rfl rfl ?_
  refine J_iconst (v := 2) hK dL_law_356 rfl (by decide) ?_
  refine J_iadd hK dL_law_357 rfl ?_
  refine J_sld (v := xs 2) hK hX dL_law_358 rfl rfl ?_
  refine J_aload_n hK dL_law_359 rfl 3 rfl rfl ?_
  refine J_iload_n hK dL_law_360 rfl 0 rfl rfl ?_
  refine J_iconst (v := 3) hK dL_law_361 rfl (by decide) ?_
  refine J_iadd hK dL_law_362 rfl ?_
  refine J_sld (v := xs 3) hK hX dL_law_363 rfl rfl ?_
  refine J_aload_n hK dL_law_364 rfl 3 rfl rfl ?_
  refine J_iload_n hK dL_law_365 rfl 0 rfl rfl ?_
  refine J_iconst (v := 4) hK dL_law_366 rfl (by decide) ?_
  refine J_iadd hK dL_law_367 rfl ?_
  refine J_sld (v := xs 4) hK hX dL_law_368 rfl rfl ?_
  refine J_aload_n hK dL_law_369 rfl 3 rfl rfl ?_
  refine J_iload_n hK dL_law_370 rfl 0 rfl rfl ?_
  refine J_iconst (v := 5) hK dL_law_371 rfl (by decide) ?_
  refine J_iadd hK dL_law_372 rfl ?_
  refine J_sld (v := xs 5) hK hX dL_law_373 rfl rfl ?_
  obtain ⟨ox, om, hx, hom, he⟩ := pe_2 (xs 1) (xs 2) (xs 3) (xs 4) (xs 5)
  refine J_callVd (ce' := 122) (sl' := 3685) (gr := [gLd d h1 0 0 0 10 (fun _ => 0) (fun _ => 0) (fun _ => 0) (fillV 12 9 (fun _ => 0)) (fillV 3 1 (fun _ => 0)) (fun _ => 0) 0, gLd d h2 0 0 0 10 (fun _ => 0) (fun _ => 0) (fun _ => 0) (fillV 12 9 (fun _ => 0)) (fillV 3 1 (fun _ => 0)) (fun _ => 0) 0, gTp d h3 (fun _ => 0) 0 0 0 0 0, gCh d h6 (h7 0) (h9 0) (h10 0) (fun _ => 0), gTr d h7 (h8 0) (fun _ => 0) (fun _ => 0) 0 0, gWy d h8 (fun _ => 0) (fun _ => 0) (fun _ => 0) (fun _ => 0) (fun _ => 0) (fun _ => 0) (fun _ => 0) (fun _ => 0) 0 (fun _ => 0) 0 0 0 (-1), gLd d h9 0 0 0 10 (fun _ => 0) (fun _ => 0) (fun _ => 0) (fillV 12 9 (fun _ => 0)) (fillV 3 1 (fun _ => 0)) (fun _ => 0) 0, gLd d h10 0 0 0 10 (fun _ => 0) (fun _ => 0) (fun _ => 0) (fillV 12 9 (fun _ => 0)) (fillV 3 1 (fun _ => 0)) (fun _ => 0) 0, gMd d hm none none none rr rl rg rw (fun _ => 0) (fun _ => 0) (fun _ => 0) (fun _ => 0) (fun _ => 0) (fun _ => 0) 0 (fun _ => 0) 0 (fillV 12 9 (fun _ => 0)) (va_up (va_up (va_up (fun _ => 0) 0 1) 1 1) 2 1) 0 0 10 0 0 0 0 0 0 0 (fun _ => 0) 0 (fun _ => 0) (fun _ => 0) 0 (fun _ => 0) 0 0 (fun _ => 0) (fun _ => 0), gridJ d rr 8 40 (fun _ _ => 0), gridI d rl 20 7 (fun _ _ => 0), gridI d rg 8 3 (fun _ _ => 0), gridI d rw 7 5 (fun _ _ => 0)]) (v := .int (ox.1)) (st := []) hK dL_law_374 cv_RL_25 iv_yX6_copy (As := [.int (xs 1), .int (xs 2), .int (xs 3), .int (xs 4), .int (xs 5)]) (kX6_copy _ d h0 (h1 0) (h2 0) (h3 0) (h6 0) (h7 0) h4 rE (fun _ => 0) 0 0 0 (fun _ _ => 0) (fillV 8 (-1) (fun _ => 0)) (fun _ => 0) (xs 1) (xs 2) (xs 3) (xs 4) (xs 5) hx) (fun _ => rfl) rfl rfl (Nat.le_of_ble_eq_true rfl) (by decide) 0 0 rfl rfl rfl [0, 4, 5] [1, 2, 3, 6, 7, 8, 9, 10, 11, 12, 13, 14, 15] rfl rfl rfl rfl rfl rfl rfl ?_
  refine J_drp (gs2 := [gMd d hm none none none rr rl rg rw (fun _ => 0) (fun _ => 0) (fun _ => 0) (fun _ => 0) (fun _ => 0) (fun _ => 0) 0 (fun _ => 0) 0 (fillV 12 9 (fun _ => 0)) (va_up (va_up (va_up (fun _ => 0) 0 1) 1 1) 2 1) 0 0 10 0 0 0 0 0 0 0 (fun _ => 0) 0 (fun _ => 0) (fun _ => 0) 0 (fun _ => 0) 0 0 (fun _ => 0) (fun _ => 0), gridJ d rr 8 40 (fun _ _ => 0), gridI d rl 20 7 (fun _ _ => 0), gridI d rg 8 3 (fun _ _ => 0), gridI d rw 7 5 (fun _ _ => 0)]) 8 rfl ?_
  refine J_aload_n hK dL_law_377 rfl 1 rfl rfl ?_
  refine J_aload_n hK dL_law_378 rfl 3 rfl rfl ?_
  refine J_iload_n hK dL_law_379 rfl 0 rfl rfl ?_
  refine J_iconst (v := 1) hK dL_law_380 rfl (by decide) ?_
  refine J_iadd hK dL_law_381 rfl ?_
  refine J_sld (v := xs 1) hK hX dL_law_382 rfl rfl ?_
  refine J_aload_n hK dL_law_383 rfl 3 rfl rfl ?_
  refine J_iload_n hK dL_law_384 rfl 0 rfl rfl ?_
  refine J_iconst (v := 2) hK dL_law_385 rfl (by decide) ?_
  refine J_iadd hK dL_law_386 rfl ?_
  refine J_sld (v := xs 2) hK hX dL_law_387 rfl rfl ?_
  refine J_aload_n hK dL_law_388 rfl 3 rfl rfl ?_
  refine J_iload_n hK dL_law_389 rfl 0 rfl rfl ?_
  refine J_iconst (v := 3) hK dL_law_390 rfl (by decide) ?_
  refine J_iadd hK dL_law_391 rfl ?_
  refine J_sld (v := xs 3) hK hX dL_law_392 rfl rfl ?_
  refine J_aload_n hK dL_law_393 rfl 3 rfl rfl ?_
  refine J_iload_n hK dL_law_394 rfl 0 rfl rfl ?_
  refine J_iconst (v := 4) hK dL_law_395 rfl (by decide) ?_
  refine J_iadd hK dL_law_396 rfl ?_
  refine J_sld (v := xs 4) hK hX dL_law_397 rfl rfl ?_
  refine J_aload_n hK dL_law_398 rfl 3 rfl rfl ?_
  refine J_iload_n hK dL_law_399 rfl 0 rfl rfl ?_
  refine J_iconst (v := 5) hK dL_law_400 rfl (by decide) ?_
  refine J_iadd hK dL_law_401 rfl ?_
  refine J_sld (v := xs 5) hK hX dL_law_402 rfl rfl ?_
  refine J_callVd (ce' := 122) (sl' := 3685) (gr := [gridI d rl 20 7 (fun _ _ => 0), gridI d rg 8 3 (fun _ _ => 0), gridI d rw 7 5 (fun _ _ => 0)]) (v := .int (om.1)) (st := [.int (ox.1)]) hK dL_law_403 cv_RL_29 iv_yX7_copy (As := [.int (xs 1), .int (xs 2), .int (xs 3), .int (xs 4), .int (xs 5)]) (kX7_copy _ d hm rr rl rg rw none none none 1000 (fun _ => 0) (fun _ => 0) (fun _ => 0) (fun _ _ => 0) (fun _ => 0) (fun _ => 0) (fun _ => 0) 0 (fun _ => 0) 0 (fun _ _ => 0) (fillV 12 9 (fun _ => 0)) (va_up (va_up (va_up (fun _ => 0) 0 1) 1 1) 2 1) 0 (fun _ _ => 0) 0 (fun _ _ => 0) 10 0 0 0 0 0 0 0 (fun _ => 0) 0 (fun _ => 0) (fun _ => 0) 0 (fun _ => 0) 0 0 (fun _ => 0) (fun _ => 0) (xs 1) (xs 2) (xs 3) (xs 4) (xs 5) hom) (fun _ => rfl) rfl rfl (Nat.le_of_ble_eq_true rfl) (by decide) 0 0 rfl rfl rfl [0, 1] [2, 3, 4] rfl rfl rfl rfl rfl rfl rfl ?_
  refine J_icmp_eq (tg := 1595) hK dL_law_406 rfl rfl (fun _ => ?_) (fun h => absurd he h)
  exact J_nil (tail (by decide) (by decide))

set_option maxHeartbeats 4000000 in
set_option maxRecDepth 100000 in
theorem cs_3 {d : DT} {Φ : JC} {nm : String} (hK : Ok d Φ RL nm cL_law 4 (some .boolean) room_1) {b : Nat} {xs : Nat → Int32} (hX : Scr Φ b 7 xs) (h0 : Nat → Nat) (h1 : Nat → Nat) (h2 : Nat → Nat) (h3 : Nat → Nat) (h4 : Nat → Nat) (h6 : Nat → Nat) (h7 : Nat → Nat) (h8 : Nat → Nat) (h9 : Nat → Nat) (h10 : Nat → Nat) (rE hm rr rl rg rw : Nat → Nat) (tail : ∀ {ce sl : Nat}, ce ≤ 600000 → sl ≤ 7302250 → J d Φ 4 [] ce sl 1595 [(3, .int 0), (2, .ref (hm 0)), (1, .ref (h0 0)), (0, .ref b)] []) : J d Φ 4 [gTw d h0 (h1 0) (h2 0) (h3 0) (h4 0) (h6 0) (h7 0) (fun _ => 0) 0 0 0, gLd d h1 0 0 0 10 (fun _ => 0) (fun _ => 0) (fun _ => 0) (fillV 12 9 (fun _ => 0)) (fillV 3 1 (fun _ => 0)) (fun _ => 0) 0, gLd d h2 0 0 0 10 (fun _ => 0) (fun _ => 0) (fun _ => 0) (fillV 12 9 (fun _ => 0)) (fillV 3 1 (fun _ => 0)) (fun _ => 0) 0, gTp d h3 (fun _ => 0) 0 0 0 0 0, gSh d h4 rE (fillV 8 (-1) (fun _ => 0)) (fun _ => 0), gridJ d rE 8 40 (fun _ _ => 0), gCh d h6 (h7 0) (h9 0) (h10 0) (fun _ => 0), gTr d h7 (h8 0) (fun _ => 0) (fun _ => 0) 0 0, gWy d h8 (fun _ => 0) (fun _ => 0) (fun _ => 0) (fun _ => 0) (fun _ => 0) (fun _ => 0) (fun _ => 0) (fun _ => 0) 0 (fun _ => 0) 0 0 0 (-1), gLd d h9 0 0 0 10 (fun _ => 0) (fun _ => 0) (fun _ => 0) (fillV 12 9 (fun _ => 0)) (fillV 3 1 (fun _ => 0)) (fun _ => 0) 0, gLd d h10 0 0 0 10 (fun _ => 0) (fun _ => 0) (fun _ => 0) (fillV 12 9 (fun _ => 0)) (fillV 3 1 (fun _ => 0)) (fun _ => 0) 0, gMd d hm none none none rr rl rg rw (fun _ => 0) (fun _ => 0) (fun _ => 0) (fun _ => 0) (fun _ => 0) (fun _ => 0) 0 (fun _ => 0) 0 (fillV 12 9 (fun _ => 0)) (va_up (va_up (va_up (fun _ => 0) 0 1) 1 1) 2 1) 0 0 10 0 0 0 0 0 0 0 (fun _ => 0) 0 (fun _ => 0) (fun _ => 0) 0 (fun _ => 0) 0 0 (fun _ => 0) (fun _ => 0), gridJ d rr 8 40 (fun _ _ => 0), gridI d rl 20 7 (fun _ _ => 0), gridI d rg 8 3 (fun _ _ => 0), gridI d rw 7 5 (fun _ _ => 0)] 122 3685 411 [(3, .int 0), (2, .ref (hm 0)), (1, .ref (h0 0)), (0, .ref b)] [] := by
  refine J_aload_n hK dL_law_411 rfl 2 rfl rfl ?_
  refine J_aload_n hK dL_law_412 rfl 3 rfl rfl ?_
  refine J_iload_n hK dL_law_413 rfl 0 rfl rfl ?_
  refine J_iconst (v := 1) hK dL_law_414 rfl (by decide) ?_
  refine J_iadd hK dL_law_415 rfl ?_
  refine J_sld (v := xs 1) hK hX dL_law_416 rfl rfl ?_
  refine J_aload_n hK dL_law_417 rfl 3 rfl rfl ?_
  refine J_iload_n hK dL_law_418 rfl 0 rfl rfl ?_
  refine J_iconst (v := 2) hK dL_law_419 rfl (by decide) ?_
  refine J_iadd hK dL_law_420 rfl ?_
  refine J_sld (v := xs 2) hK hX dL_law_421 rfl rfl ?_
  obtain ⟨ox, om, hx, hom, he⟩ := pe_3 (xs 1) (xs 2)
  refine J_callVd (ce' := 122) (sl' := 3685) (gr := [gLd d h1 0 0 0 10 (fun _ => 0) (fun _ => 0) (fun _ => 0) (fillV 12 9 (fun _ => 0)) (fillV 3 1 (fun _ => 0)) (fun _ => 0) 0, gLd d h2 0 0 0 10 (fun _ => 0) (fun _ => 0) (fun _ => 0) (fillV 12 9 (fun _ => 0)) (fillV 3 1 (fun _ => 0)) (fun _ => 0) 0, gTp d h3 (fun _ => 0) 0 0 0 0 0, gCh d h6 (h7 0) (h9 0) (h10 0) (fun _ => 0), gTr d h7 (h8 0) (fun _ => 0) (fun _ => 0) 0 0, gWy d h8 (fun _ => 0) (fun _ => 0) (fun _ => 0) (fun _ => 0) (fun _ => 0) (fun _ => 0) (fun _ => 0) (fun _ => 0) 0 (fun _ => 0) 0 0 0 (-1), gLd d h9 0 0 0 10 (fun _ => 0) (fun _ => 0) (fun _ => 0) (fillV 12 9 (fun _ => 0)) (fillV 3 1 (fun _ => 0)) (fun _ => 0) 0, gLd d h10 0 0 0 10 (fun _ => 0) (fun _ => 0) (fun _ => 0) (fillV 12 9 (fun _ => 0)) (fillV 3 1 (fun _ => 0)) (fun _ => 0) 0, gMd d hm none none none rr rl rg rw (fun _ => 0) (fun _ => 0) (fun _ => 0) (fun _ => 0) (fun _ => 0) (fun _ => 0) 0 (fun _ => 0) 0 (fillV 12 9 (fun _ => 0)) (va_up (va_up (va_up (fun _ => 0) 0 1) 1 1) 2 1) 0 0 10 0 0 0 0 0 0 0 (fun _ => 0) 0 (fun _ => 0) (fun _ => 0) 0 (fun _ => 0) 0 0 (fun _ => 0) (fun _ => 0), gridJ d rr 8 40 (fun _ _ => 0), gridI d rl 20 7 (fun _ _ => 0), gridI d rg 8 3 (fun _ _ => 0), gridI d rw 7 5 (fun _ _ => 0)]) (v := .long ox) (st := []) hK dL_law_422 cv_RL_30 iv_yX6_element (As := [.int (xs 1), .int (xs 2)]) (kX6_element _ d h0 (h1 0) (h2 0) (h3 0) (h6 0) (h7 0) h4 rE (fun _ => 0) 0 0 0 (fun _ _ => 0) (fillV 8 (-1) (fun _ => 0)) (fun _ => 0) (xs 1) (xs 2) hx) (fun _ => rfl) rfl rfl (Nat.le_of_ble_eq_true rfl) (by decide) 0 0 rfl rfl rfl [0, 4, 5] [1, 2, 3, 6, 7, 8, 9, 10, 11, 12, 13, 14, 15] rfl rfl rfl rfl rfl rfl rfl ?_
  refine J_drp (gs2 := [gMd d hm none none none rr rl rg rw (fun _ => 0) (fun _ => 0) (fun _ => 0) (fun _ => 0) (fun _ => 0) (fun _ => 0) 0 (fun _ => 0) 0 (fillV 12 9 (fun _ => 0)) (va_up (va_up (va_up (fun _ => 0) 0 1) 1 1) 2 1) 0 0 10 0 0 0 0 0 0 0 (fun _ => 0) 0 (fun _ => 0) (fun _ => 0) 0 (fun _ => 0) 0 0 (fun _ => 0) (fun _ => 0), gridJ d rr 8 40 (fun _ _ => 0), gridI d rl 20 7 (fun _ _ => 0), gridI d rg 8 3 (fun _ _ => 0), gridI d rw 7 5 (fun _ _ => 0)]) 8 rfl ?_
  refine J_aload_n hK dL_law_425 rfl 1 rfl rfl ?_
  refine J_aload_n hK dL_law_426 rfl 3 rfl rfl ?_
  refine J_iload_n hK dL_law_427 rfl 0 rfl rfl ?_
  refine J_iconst (v := 1) hK dL_law_428 rfl (by decide) ?_
  refine J_iadd hK dL_law_429 rfl ?_
  refine J_sld (v := xs 1) hK hX dL_law_430 rfl rfl ?_
  refine J_aload_n hK dL_law_431 rfl 3 rfl rfl ?_
  refine J_iload_n hK dL_law_432 rfl 0 rfl rfl ?_
  refine J_iconst (v := 2) hK dL_law_433 rfl (by decide) ?_
  refine J_iadd hK dL_law_434 rfl ?_
  refine J_sld (v := xs 2) hK hX dL_law_435 rfl rfl ?_
  refine J_callVd (ce' := 122) (sl' := 3685) (gr := [gridI d rl 20 7 (fun _ _ => 0), gridI d rg 8 3 (fun _ _ => 0), gridI d rw 7 5 (fun _ _ => 0)]) (v := .long om) (st := [.long ox]) hK dL_law_436 cv_RL_34 iv_yX7_element (As := [.int (xs 1), .int (xs 2)]) (kX7_element _ d hm rr rl rg rw none none none (fun _ => 0) (fun _ => 0) (fun _ => 0) (fun _ _ => 0) (fun _ => 0) (fun _ => 0) (fun _ => 0) 0 (fun _ => 0) 0 (fun _ _ => 0) (fillV 12 9 (fun _ => 0)) (va_up (va_up (va_up (fun _ => 0) 0 1) 1 1) 2 1) 0 (fun _ _ => 0) 0 (fun _ _ => 0) 10 0 0 0 0 0 0 0 (fun _ => 0) 0 (fun _ => 0) (fun _ => 0) 0 (fun _ => 0) 0 0 (fun _ => 0) (fun _ => 0) (xs 1) (xs 2) hom) (fun _ => rfl) rfl rfl (Nat.le_of_ble_eq_true rfl) (by decide) 0 0 rfl rfl rfl [0, 1] [2, 3, 4] rfl rfl rfl rfl rfl rfl rfl ?_
  refine J_lcmp hK dL_law_439 rfl ?_
  refine J_if_eq (tg := 1595) hK dL_law_440 rfl rfl (fun _ => ?_) (fun h => absurd (by rw [he]; exact lgc_self _) h)
  exact J_nil (tail (by decide) (by decide))

set_option maxHeartbeats 4000000 in
set_option maxRecDepth 100000 in
theorem cs_4 {d : DT} {Φ : JC} {nm : String} (hK : Ok d Φ RL nm cL_law 4 (some .boolean) room_1) {b : Nat} {xs : Nat → Int32} (hX : Scr Φ b 7 xs) (h0 : Nat → Nat) (h1 : Nat → Nat) (h2 : Nat → Nat) (h3 : Nat → Nat) (h4 : Nat → Nat) (h6 : Nat → Nat) (h7 : Nat → Nat) (h8 : Nat → Nat) (h9 : Nat → Nat) (h10 : Nat → Nat) (rE hm rr rl rg rw : Nat → Nat) (tail : ∀ {ce sl : Nat}, ce ≤ 600000 → sl ≤ 7302250 → J d Φ 4 [] ce sl 1595 [(3, .int 0), (2, .ref (hm 0)), (1, .ref (h0 0)), (0, .ref b)] []) : J d Φ 4 [gTw d h0 (h1 0) (h2 0) (h3 0) (h4 0) (h6 0) (h7 0) (fun _ => 0) 0 0 0, gLd d h1 0 0 0 10 (fun _ => 0) (fun _ => 0) (fun _ => 0) (fillV 12 9 (fun _ => 0)) (fillV 3 1 (fun _ => 0)) (fun _ => 0) 0, gLd d h2 0 0 0 10 (fun _ => 0) (fun _ => 0) (fun _ => 0) (fillV 12 9 (fun _ => 0)) (fillV 3 1 (fun _ => 0)) (fun _ => 0) 0, gTp d h3 (fun _ => 0) 0 0 0 0 0, gSh d h4 rE (fillV 8 (-1) (fun _ => 0)) (fun _ => 0), gridJ d rE 8 40 (fun _ _ => 0), gCh d h6 (h7 0) (h9 0) (h10 0) (fun _ => 0), gTr d h7 (h8 0) (fun _ => 0) (fun _ => 0) 0 0, gWy d h8 (fun _ => 0) (fun _ => 0) (fun _ => 0) (fun _ => 0) (fun _ => 0) (fun _ => 0) (fun _ => 0) (fun _ => 0) 0 (fun _ => 0) 0 0 0 (-1), gLd d h9 0 0 0 10 (fun _ => 0) (fun _ => 0) (fun _ => 0) (fillV 12 9 (fun _ => 0)) (fillV 3 1 (fun _ => 0)) (fun _ => 0) 0, gLd d h10 0 0 0 10 (fun _ => 0) (fun _ => 0) (fun _ => 0) (fillV 12 9 (fun _ => 0)) (fillV 3 1 (fun _ => 0)) (fun _ => 0) 0, gMd d hm none none none rr rl rg rw (fun _ => 0) (fun _ => 0) (fun _ => 0) (fun _ => 0) (fun _ => 0) (fun _ => 0) 0 (fun _ => 0) 0 (fillV 12 9 (fun _ => 0)) (va_up (va_up (va_up (fun _ => 0) 0 1) 1 1) 2 1) 0 0 10 0 0 0 0 0 0 0 (fun _ => 0) 0 (fun _ => 0) (fun _ => 0) 0 (fun _ => 0) 0 0 (fun _ => 0) (fun _ => 0), gridJ d rr 8 40 (fun _ _ => 0), gridI d rl 20 7 (fun _ _ => 0), gridI d rg 8 3 (fun _ _ => 0), gridI d rw 7 5 (fun _ _ => 0)] 122 3685 445 [(3, .int 0), (2, .ref (hm 0)), (1, .ref (h0 0)), (0, .ref b)] [] := by
  refine J_aload_n hK dL_law_445 rfl 2 rfl rfl ?_
  refine J_aload_n hK dL_law_446 rfl 3 rfl rfl ?_
  refine J_iload_n hK dL_law_447 rfl 0 rfl rfl ?_
  refine J_iconst (v := 1) hK dL_law_448 rfl (by decide) ?_
  refine J_iadd hK dL_law_449 rfl ?_
  refine J_sld (v := xs 1) hK hX dL_law_450 rfl rfl ?_
  obtain ⟨ox, om, hx, hom, he⟩ := pe_4 (xs 1)
  refine J_callVd (ce' := 122) (sl' := 3685) (gr := [gLd d h1 0 0 0 10 (fun _ => 0) (fun _ => 0) (fun _ => 0) (fillV 12 9 (fun _ => 0)) (fillV 3 1 (fun _ => 0)) (fun _ => 0) 0, gLd d h2 0 0 0 10 (fun _ => 0) (fun _ => 0) (fun _ => 0) (fillV 12 9 (fun _ => 0)) (fillV 3 1 (fun _ => 0)) (fun _ => 0) 0, gTp d h3 (fun _ => 0) 0 0 0 0 0, gridJ d rE 8 40 (fun _ _ => 0), gCh d h6 (h7 0) (h9 0) (h10 0) (fun _ => 0), gTr d h7 (h8 0) (fun _ => 0) (fun _ => 0) 0 0, gWy d h8 (fun _ => 0) (fun _ => 0) (fun _ => 0) (fun _ => 0) (fun _ => 0) (fun _ => 0) (fun _ => 0) (fun _ => 0) 0 (fun _ => 0) 0 0 0 (-1), gLd d h9 0 0 0 10 (fun _ => 0) (fun _ => 0) (fun _ => 0) (fillV 12 9 (fun _ => 0)) (fillV 3 1 (fun _ => 0)) (fun _ => 0) 0, gLd d h10 0 0 0 10 (fun _ => 0) (fun _ => 0) (fun _ => 0) (fillV 12 9 (fun _ => 0)) (fillV 3 1 (fun _ => 0)) (fun _ => 0) 0, gMd d hm none none none rr rl rg rw (fun _ => 0) (fun _ => 0) (fun _ => 0) (fun _ => 0) (fun _ => 0) (fun _ => 0) 0 (fun _ => 0) 0 (fillV 12 9 (fun _ => 0)) (va_up (va_up (va_up (fun _ => 0) 0 1) 1 1) 2 1) 0 0 10 0 0 0 0 0 0 0 (fun _ => 0) 0 (fun _ => 0) (fun _ => 0) 0 (fun _ => 0) 0 0 (fun _ => 0) (fun _ => 0), gridJ d rr 8 40 (fun _ _ => 0), gridI d rl 20 7 (fun _ _ => 0), gridI d rg 8 3 (fun _ _ => 0), gridI d rw 7 5 (fun _ _ => 0)]) (v := .int ox) (st := []) hK dL_law_451 cv_RL_35 iv_yX6_holds (As := [.int (xs 1)]) (kX6_holds _ d h0 (h1 0) (h2 0) (h3 0) (h6 0) (h7 0) h4 rE (fun _ => 0) 0 0 0 (fun _ _ => 0) (fillV 8 (-1) (fun _ => 0)) (fun _ => 0) (xs 1) hx) (fun _ => rfl) rfl rfl (Nat.le_of_ble_eq_true rfl) (by decide) 0 0 rfl rfl rfl [0, 4] [1, 2, 3, 5, 6, 7, 8, 9, 10, 11, 12, 13, 14, 15] rfl rfl rfl rfl rfl rfl rfl ?_
  refine J_drp (gs2 := [gMd d hm none none none rr rl rg rw (fun _ => 0) (fun _ => 0) (fun _ => 0) (fun _ => 0) (fun _ => 0) (fun _ => 0) 0 (fun _ => 0) 0 (fillV 12 9 (fun _ => 0)) (va_up (va_up (va_up (fun _ => 0) 0 1) 1 1) 2 1) 0 0 10 0 0 0 0 0 0 0 (fun _ => 0) 0 (fun _ => 0) (fun _ => 0) 0 (fun _ => 0) 0 0 (fun _ => 0) (fun _ => 0), gridJ d rr 8 40 (fun _ _ => 0), gridI d rl 20 7 (fun _ _ => 0), gridI d rg 8 3 (fun _ _ => 0), gridI d rw 7 5 (fun _ _ => 0)]) 9 rfl ?_
  refine J_aload_n hK dL_law_454 rfl 1 rfl rfl ?_
  refine J_aload_n hK dL_law_455 rfl 3 rfl rfl ?_
  refine J_iload_n hK dL_law_456 rfl 0 rfl rfl ?_
  refine J_iconst (v := 1) hK dL_law_457 rfl (by decide) ?_
  refine J_iadd hK dL_law_458 rfl ?_
  refine J_sld (v := xs 1) hK hX dL_law_459 rfl rfl ?_
  refine J_callVd (ce' := 122) (sl' := 3685) (gr := [gridJ d rr 8 40 (fun _ _ => 0), gridI d rl 20 7 (fun _ _ => 0), gridI d rg 8 3 (fun _ _ => 0), gridI d rw 7 5 (fun _ _ => 0)]) (v := .int om) (st := [.int ox]) hK dL_law_460 cv_RL_39 iv_yX7_holds (As := [.int (xs 1)]) (kX7_holds _ d hm rr rl rg rw none none none (fun _ => 0) (fun _ => 0) (fun _ => 0) (fun _ _ => 0) (fun _ => 0) (fun _ => 0) (fun _ => 0) 0 (fun _ => 0) 0 (fun _ _ => 0) (fillV 12 9 (fun _ => 0)) (va_up (va_up (va_up (fun _ => 0) 0 1) 1 1) 2 1) 0 (fun _ _ => 0) 0 (fun _ _ => 0) 10 0 0 0 0 0 0 0 (fun _ => 0) 0 (fun _ => 0) (fun _ => 0) 0 (fun _ => 0) 0 0 (fun _ => 0) (fun _ => 0) (xs 1) hom) (fun _ => rfl) rfl rfl (Nat.le_of_ble_eq_true rfl) (by decide) 0 0 rfl rfl rfl [0] [1, 2, 3, 4] rfl rfl rfl rfl rfl rfl rfl ?_
  refine J_icmp_eq (tg := 1595) hK dL_law_463 rfl rfl (fun _ => ?_) (fun h => absurd he h)
  exact J_nil (tail (by decide) (by decide))

set_option maxHeartbeats 4000000 in
set_option maxRecDepth 100000 in
theorem cs_5 {d : DT} {Φ : JC} {nm : String} (hK : Ok d Φ RL nm cL_law 4 (some .boolean) room_1) {b : Nat} {xs : Nat → Int32} (hX : Scr Φ b 7 xs) (h0 : Nat → Nat) (h1 : Nat → Nat) (h2 : Nat → Nat) (h3 : Nat → Nat) (h4 : Nat → Nat) (h6 : Nat → Nat) (h7 : Nat → Nat) (h8 : Nat → Nat) (h9 : Nat → Nat) (h10 : Nat → Nat) (rE hm rr rl rg rw : Nat → Nat) (tail : ∀ {ce sl : Nat}, ce ≤ 600000 → sl ≤ 7302250 → J d Φ 4 [] ce sl 1595 [(3, .int 0), (2, .ref (hm 0)), (1, .ref (h0 0)), (0, .ref b)] []) : J d Φ 4 [gTw d h0 (h1 0) (h2 0) (h3 0) (h4 0) (h6 0) (h7 0) (fun _ => 0) 0 0 0, gLd d h1 0 0 0 10 (fun _ => 0) (fun _ => 0) (fun _ => 0) (fillV 12 9 (fun _ => 0)) (fillV 3 1 (fun _ => 0)) (fun _ => 0) 0, gLd d h2 0 0 0 10 (fun _ => 0) (fun _ => 0) (fun _ => 0) (fillV 12 9 (fun _ => 0)) (fillV 3 1 (fun _ => 0)) (fun _ => 0) 0, gTp d h3 (fun _ => 0) 0 0 0 0 0, gSh d h4 rE (fillV 8 (-1) (fun _ => 0)) (fun _ => 0), gridJ d rE 8 40 (fun _ _ => 0), gCh d h6 (h7 0) (h9 0) (h10 0) (fun _ => 0), gTr d h7 (h8 0) (fun _ => 0) (fun _ => 0) 0 0, gWy d h8 (fun _ => 0) (fun _ => 0) (fun _ => 0) (fun _ => 0) (fun _ => 0) (fun _ => 0) (fun _ => 0) (fun _ => 0) 0 (fun _ => 0) 0 0 0 (-1), gLd d h9 0 0 0 10 (fun _ => 0) (fun _ => 0) (fun _ => 0) (fillV 12 9 (fun _ => 0)) (fillV 3 1 (fun _ => 0)) (fun _ => 0) 0, gLd d h10 0 0 0 10 (fun _ => 0) (fun _ => 0) (fun _ => 0) (fillV 12 9 (fun _ => 0)) (fillV 3 1 (fun _ => 0)) (fun _ => 0) 0, gMd d hm none none none rr rl rg rw (fun _ => 0) (fun _ => 0) (fun _ => 0) (fun _ => 0) (fun _ => 0) (fun _ => 0) 0 (fun _ => 0) 0 (fillV 12 9 (fun _ => 0)) (va_up (va_up (va_up (fun _ => 0) 0 1) 1 1) 2 1) 0 0 10 0 0 0 0 0 0 0 (fun _ => 0) 0 (fun _ => 0) (fun _ => 0) 0 (fun _ => 0) 0 0 (fun _ => 0) (fun _ => 0), gridJ d rr 8 40 (fun _ _ => 0), gridI d rl 20 7 (fun _ _ => 0), gridI d rg 8 3 (fun _ _ => 0), gridI d rw 7 5 (fun _ _ => 0)] 122 3685 468 [(3, .int 0), (2, .ref (hm 0)), (1, .ref (h0 0)), (0, .ref b)] [] := by
  refine J_aload_n hK dL_law_468 rfl 2 rfl rfl ?_
  refine J_aload_n hK dL_law_469 rfl 3 rfl rfl ?_
  refine J_iload_n hK dL_law_470 rfl 0 rfl rfl ?_
  refine J_iconst (v := 1) hK dL_law_471 rfl (by decide) ?_
  refine J_iadd hK dL_law_472 rfl ?_
  refine J_sld (v := xs 1) hK hX dL_law_473 rfl rfl ?_
  refine J_aload_n hK dL_law_474 rfl 3 rfl rfl ?_
  refine J_iload_n hK dL_law_475 rfl 0 rfl rfl ?_
  refine J_iconst (v := 2) hK dL_law_476 rfl (by decide) ?_
  refine J_iadd hK dL_law_477 rfl ?_
  refine J_sld (v := xs 2) hK hX dL_law_478 rfl rfl ?_
  obtain ⟨ox, om, hx, hom, he⟩ := pe_5 (xs 1) (xs 2)
  refine J_callVd (ce' := 122) (sl' := 3685) (gr := [gLd d h2 0 0 0 10 (fun _ => 0) (fun _ => 0) (fun _ => 0) (fillV 12 9 (fun _ => 0)) (fillV 3 1 (fun _ => 0)) (fun _ => 0) 0, gTp d h3 (fun _ => 0) 0 0 0 0 0, gridJ d rE 8 40 (fun _ _ => 0), gCh d h6 (h7 0) (h9 0) (h10 0) (fun _ => 0), gTr d h7 (h8 0) (fun _ => 0) (fun _ => 0) 0 0, gWy d h8 (fun _ => 0) (fun _ => 0) (fun _ => 0) (fun _ => 0) (fun _ => 0) (fun _ => 0) (fun _ => 0) (fun _ => 0) 0 (fun _ => 0) 0 0 0 (-1), gLd d h9 0 0 0 10 (fun _ => 0) (fun _ => 0) (fun _ => 0) (fillV 12 9 (fun _ => 0)) (fillV 3 1 (fun _ => 0)) (fun _ => 0) 0, gLd d h10 0 0 0 10 (fun _ => 0) (fun _ => 0) (fun _ => 0) (fillV 12 9 (fun _ => 0)) (fillV 3 1 (fun _ => 0)) (fun _ => 0) 0, gMd d hm none none none rr rl rg rw (fun _ => 0) (fun _ => 0) (fun _ => 0) (fun _ => 0) (fun _ => 0) (fun _ => 0) 0 (fun _ => 0) 0 (fillV 12 9 (fun _ => 0)) (va_up (va_up (va_up (fun _ => 0) 0 1) 1 1) 2 1) 0 0 10 0 0 0 0 0 0 0 (fun _ => 0) 0 (fun _ => 0) (fun _ => 0) 0 (fun _ => 0) 0 0 (fun _ => 0) (fun _ => 0), gridJ d rr 8 40 (fun _ _ => 0), gridI d rl 20 7 (fun _ _ => 0), gridI d rg 8 3 (fun _ _ => 0), gridI d rw 7 5 (fun _ _ => 0)]) (v := .int (ox.1)) (st := []) hK dL_law_479 cv_RL_40 iv_yX6_show (As := [.int (xs 1), .int (xs 2)]) (kX6_show _ d h0 (h2 0) (h3 0) (h6 0) (h7 0) h4 rE h1 (fun _ => 0) 0 0 0 (fun _ _ => 0) (fillV 8 (-1) (fun _ => 0)) (fun _ => 0) 0 0 0 10 (fun _ => 0) (fun _ => 0) (fun _ => 0) (fillV 12 9 (fun _ => 0)) (fillV 3 1 (fun _ => 0)) (fun _ => 0) 0 (xs 1) (xs 2) hx) (fun _ => rfl) rfl rfl (Nat.le_of_ble_eq_true rfl) (by decide) 0 0 rfl rfl rfl [0, 4, 1] [2, 3, 5, 6, 7, 8, 9, 10, 11, 12, 13, 14, 15] rfl rfl rfl rfl rfl rfl rfl ?_
  refine J_drp (gs2 := [gMd d hm none none none rr rl rg rw (fun _ => 0) (fun _ => 0) (fun _ => 0) (fun _ => 0) (fun _ => 0) (fun _ => 0) 0 (fun _ => 0) 0 (fillV 12 9 (fun _ => 0)) (va_up (va_up (va_up (fun _ => 0) 0 1) 1 1) 2 1) 0 0 10 0 0 0 0 0 0 0 (fun _ => 0) 0 (fun _ => 0) (fun _ => 0) 0 (fun _ => 0) 0 0 (fun _ => 0) (fun _ => 0), gridJ d rr 8 40 (fun _ _ => 0), gridI d rl 20 7 (fun _ _ => 0), gridI d rg 8 3 (fun _ _ => 0), gridI d rw 7 5 (fun _ _ => 0)]) 8 rfl ?_
  refine J_aload_n hK dL_law_482 rfl 1 rfl rfl ?_
  refine J_aload_n hK dL_law_483 rfl 3 rfl rfl ?_
  refine J_iload_n hK dL_law_484 rfl 0 rfl rfl ?_
  refine J_iconst (v := 1) hK dL_law_485 rfl (by decide) ?_
  refine J_iadd hK dL_law_486 rfl ?_
  refine J_sld (v := xs 1) hK hX dL_law_487 rfl rfl ?_
  refine J_aload_n hK dL_law_488 rfl 3 rfl rfl ?_
  refine J_iload_n hK dL_law_489 rfl 0 rfl rfl ?_
  refine J_iconst (v := 2) hK dL_law_490 rfl (by decide) ?_
  refine J_iadd hK dL_law_491 rfl ?_
  refine J_sld (v := xs 2) hK hX dL_law_492 rfl rfl ?_
  refine J_callVd (ce' := 122) (sl' := 3685) (gr := [gridJ d rr 8 40 (fun _ _ => 0), gridI d rl 20 7 (fun _ _ => 0), gridI d rg 8 3 (fun _ _ => 0), gridI d rw 7 5 (fun _ _ => 0)]) (v := .int (om.1)) (st := [.int (ox.1)]) hK dL_law_493 cv_RL_44 iv_yX7_show (As := [.int (xs 1), .int (xs 2)]) (kX7_show _ d hm rr rl rg rw none none none (fun _ => 0) (fun _ => 0) (fun _ => 0) (fun _ _ => 0) (fun _ => 0) (fun _ => 0) (fun _ => 0) 0 (fun _ => 0) 0 (fun _ _ => 0) (fillV 12 9 (fun _ => 0)) (va_up (va_up (va_up (fun _ => 0) 0 1) 1 1) 2 1) 0 (fun _ _ => 0) 0 (fun _ _ => 0) 10 0 0 0 0 0 0 0 (fun _ => 0) 0 (fun _ => 0) (fun _ => 0) 0 (fun _ => 0) 0 0 (fun _ => 0) (fun _ => 0) (xs 1) (xs 2) hom) (fun _ => rfl) rfl rfl (Nat.le_of_ble_eq_true rfl) (by decide) 0 0 rfl rfl rfl [0] [1, 2, 3, 4] rfl rfl rfl rfl rfl rfl rfl ?_
  refine J_icmp_eq (tg := 1595) hK dL_law_496 rfl rfl (fun _ => ?_) (fun h => absurd he h)
  exact J_nil (tail (by decide) (by decide))

set_option maxHeartbeats 4000000 in
set_option maxRecDepth 100000 in
theorem cs_6 {d : DT} {Φ : JC} {nm : String} (hK : Ok d Φ RL nm cL_law 4 (some .boolean) room_1) {b : Nat} {xs : Nat → Int32} (hX : Scr Φ b 7 xs) (h0 : Nat → Nat) (h1 : Nat → Nat) (h2 : Nat → Nat) (h3 : Nat → Nat) (h4 : Nat → Nat) (h6 : Nat → Nat) (h7 : Nat → Nat) (h8 : Nat → Nat) (h9 : Nat → Nat) (h10 : Nat → Nat) (rE hm rr rl rg rw : Nat → Nat) (tail : ∀ {ce sl : Nat}, ce ≤ 600000 → sl ≤ 7302250 → J d Φ 4 [] ce sl 1595 [(3, .int 0), (2, .ref (hm 0)), (1, .ref (h0 0)), (0, .ref b)] []) : J d Φ 4 [gTw d h0 (h1 0) (h2 0) (h3 0) (h4 0) (h6 0) (h7 0) (fun _ => 0) 0 0 0, gLd d h1 0 0 0 10 (fun _ => 0) (fun _ => 0) (fun _ => 0) (fillV 12 9 (fun _ => 0)) (fillV 3 1 (fun _ => 0)) (fun _ => 0) 0, gLd d h2 0 0 0 10 (fun _ => 0) (fun _ => 0) (fun _ => 0) (fillV 12 9 (fun _ => 0)) (fillV 3 1 (fun _ => 0)) (fun _ => 0) 0, gTp d h3 (fun _ => 0) 0 0 0 0 0, gSh d h4 rE (fillV 8 (-1) (fun _ => 0)) (fun _ => 0), gridJ d rE 8 40 (fun _ _ => 0), gCh d h6 (h7 0) (h9 0) (h10 0) (fun _ => 0), gTr d h7 (h8 0) (fun _ => 0) (fun _ => 0) 0 0, gWy d h8 (fun _ => 0) (fun _ => 0) (fun _ => 0) (fun _ => 0) (fun _ => 0) (fun _ => 0) (fun _ => 0) (fun _ => 0) 0 (fun _ => 0) 0 0 0 (-1), gLd d h9 0 0 0 10 (fun _ => 0) (fun _ => 0) (fun _ => 0) (fillV 12 9 (fun _ => 0)) (fillV 3 1 (fun _ => 0)) (fun _ => 0) 0, gLd d h10 0 0 0 10 (fun _ => 0) (fun _ => 0) (fun _ => 0) (fillV 12 9 (fun _ => 0)) (fillV 3 1 (fun _ => 0)) (fun _ => 0) 0, gMd d hm none none none rr rl rg rw (fun _ => 0) (fun _ => 0) (fun _ => 0) (fun _ => 0) (fun _ => 0) (fun _ => 0) 0 (fun _ => 0) 0 (fillV 12 9 (fun _ => 0)) (va_up (va_up (va_up (fun _ => 0) 0 1) 1 1) 2 1) 0 0 10 0 0 0 0 0 0 0 (fun _ => 0) 0 (fun _ => 0) (fun _ => 0) 0 (fun _ => 0) 0 0 (fun _ => 0) (fun _ => 0), gridJ d rr 8 40 (fun _ _ => 0), gridI d rl 20 7 (fun _ _ => 0), gridI d rg 8 3 (fun _ _ => 0), gridI d rw 7 5 (fun _ _ => 0)] 122 3685 501 [(3, .int 0), (2, .ref (hm 0)), (1, .ref (h0 0)), (0, .ref b)] [] := by
  refine J_aload_n hK dL_law_501 rfl 2 rfl rfl ?_
  refine J_aload_n hK dL_law_502 rfl 3 rfl rfl ?_
  refine J_iload_n hK dL_law_503 rfl 0 rfl rfl ?_
  refine J_iconst (v := 1) hK dL_law_504 rfl (by decide) ?_
  refine J_iadd hK dL_law_505 rfl ?_
  refine J_sld (v := xs 1) hK hX dL_law_506 rfl rfl ?_
  refine J_aload_n hK dL_law_507 rfl 3 rfl rfl ?_
  refine J_iload_n hK dL_law_508 rfl 0 rfl rfl ?_
  refine J_iconst (v := 2) hK dL_law_509 rfl (by decide) ?_
  refine J_iadd hK dL_law_510 rfl ?_
  refine J_sld (v := xs 2) hK hX dL_law_511 rfl rfl ?_
  obtain ⟨ox, om, hx, hom, he⟩ := pe_6 (xs 1) (xs 2)
  refine J_callVd (ce' := 122) (sl' := 3685) (gr := [gLd d h2 0 0 0 10 (fun _ => 0) (fun _ => 0) (fun _ => 0) (fillV 12 9 (fun _ => 0)) (fillV 3 1 (fun _ => 0)) (fun _ => 0) 0, gTp d h3 (fun _ => 0) 0 0 0 0 0, gridJ d rE 8 40 (fun _ _ => 0), gCh d h6 (h7 0) (h9 0) (h10 0) (fun _ => 0), gTr d h7 (h8 0) (fun _ => 0) (fun _ => 0) 0 0, gWy d h8 (fun _ => 0) (fun _ => 0) (fun _ => 0) (fun _ => 0) (fun _ => 0) (fun _ => 0) (fun _ => 0) (fun _ => 0) 0 (fun _ => 0) 0 0 0 (-1), gLd d h9 0 0 0 10 (fun _ => 0) (fun _ => 0) (fun _ => 0) (fillV 12 9 (fun _ => 0)) (fillV 3 1 (fun _ => 0)) (fun _ => 0) 0, gLd d h10 0 0 0 10 (fun _ => 0) (fun _ => 0) (fun _ => 0) (fillV 12 9 (fun _ => 0)) (fillV 3 1 (fun _ => 0)) (fun _ => 0) 0, gMd d hm none none none rr rl rg rw (fun _ => 0) (fun _ => 0) (fun _ => 0) (fun _ => 0) (fun _ => 0) (fun _ => 0) 0 (fun _ => 0) 0 (fillV 12 9 (fun _ => 0)) (va_up (va_up (va_up (fun _ => 0) 0 1) 1 1) 2 1) 0 0 10 0 0 0 0 0 0 0 (fun _ => 0) 0 (fun _ => 0) (fun _ => 0) 0 (fun _ => 0) 0 0 (fun _ => 0) (fun _ => 0), gridJ d rr 8 40 (fun _ _ => 0), gridI d rl 20 7 (fun _ _ => 0), gridI d rg 8 3 (fun _ _ => 0), gridI d rw 7 5 (fun _ _ => 0)]) (v := .int (ox.1)) (st := []) hK dL_law_512 cv_RL_45 iv_yX6_says (As := [.int (xs 1), .int (xs 2)]) (kX6_says _ d h0 (h2 0) (h3 0) (h6 0) (h7 0) h4 rE h1 1000 (fun _ => 0) 0 0 0 (fun _ _ => 0) (fillV 8 (-1) (fun _ => 0)) (fun _ => 0) 0 0 0 10 (fun _ => 0) (fun _ => 0) (fun _ => 0) (fillV 12 9 (fun _ => 0)) (fillV 3 1 (fun _ => 0)) (fun _ => 0) 0 (xs 1) (xs 2) hx) (fun _ => rfl) rfl rfl (Nat.le_of_ble_eq_true rfl) (by decide) 0 0 rfl rfl rfl [0, 4, 1] [2, 3, 5, 6, 7, 8, 9, 10, 11, 12, 13, 14, 15] rfl rfl rfl rfl rfl rfl rfl ?_
  refine J_drp (gs2 := [gMd d hm none none none rr rl rg rw (fun _ => 0) (fun _ => 0) (fun _ => 0) (fun _ => 0) (fun _ => 0) (fun _ => 0) 0 (fun _ => 0) 0 (fillV 12 9 (fun _ => 0)) (va_up (va_up (va_up (fun _ => 0) 0 1) 1 1) 2 1) 0 0 10 0 0 0 0 0 0 0 (fun _ => 0) 0 (fun _ => 0) (fun _ => 0) 0 (fun _ => 0) 0 0 (fun _ => 0) (fun _ => 0), gridJ d rr 8 40 (fun _ _ => 0), gridI d rl 20 7 (fun _ _ => 0), gridI d rg 8 3 (fun _ _ => 0), gridI d rw 7 5 (fun _ _ => 0)]) 8 rfl ?_
  refine J_aload_n hK dL_law_515 rfl 1 rfl rfl ?_
  refine J_aload_n hK dL_law_516 rfl 3 rfl rfl ?_
  refine J_iload_n hK dL_law_517 rfl 0 rfl rfl ?_
  refine J_iconst (v := 1) hK dL_law_518 rfl (by decide) ?_
  refine J_iadd hK dL_law_519 rfl ?_
  refine J_sld (v := xs 1) hK hX dL_law_520 rfl rfl ?_
  refine J_aload_n hK dL_law_521 rfl 3 rfl rfl ?_
  refine J_iload_n hK dL_law_522 rfl 0 rfl rfl ?_
  refine J_iconst (v := 2) hK dL_law_523 rfl (by decide) ?_
  refine J_iadd hK dL_law_524 rfl ?_
  refine J_sld (v := xs 2) hK hX dL_law_525 rfl rfl ?_
  refine J_callVd (ce' := 122) (sl' := 3685) (gr := [gridJ d rr 8 40 (fun _ _ => 0), gridI d rl 20 7 (fun _ _ => 0), gridI d rg 8 3 (fun _ _ => 0)]) (v := .int (om.1)) (st := [.int (ox.1)]) hK dL_law_526 cv_RL_48 iv_yX7_says (As := [.int (xs 1), .int (xs 2)]) (kX7_says _ d hm rr rl rg rw none none none (fun _ => 0) (fun _ => 0) (fun _ => 0) (fun _ _ => 0) (fun _ => 0) (fun _ => 0) (fun _ => 0) 0 (fun _ => 0) 0 (fun _ _ => 0) (fillV 12 9 (fun _ => 0)) (va_up (va_up (va_up (fun _ => 0) 0 1) 1 1) 2 1) 0 (fun _ _ => 0) 0 (fun _ _ => 0) 10 0 0 0 0 0 0 0 (fun _ => 0) 0 (fun _ => 0) (fun _ => 0) 0 (fun _ => 0) 0 0 (fun _ => 0) (fun _ => 0) (xs 1) (xs 2) hom) (fun _ => rfl) rfl rfl (Nat.le_of_ble_eq_true rfl) (by decide) 0 0 rfl rfl rfl [0, 4] [1, 2, 3] rfl rfl rfl rfl rfl rfl rfl ?_
  refine J_icmp_eq (tg := 1595) hK dL_law_529 rfl rfl (fun _ => ?_) (fun h => absurd he h)
  exact J_nil (tail (by decide) (by decide))

set_option maxHeartbeats 4000000 in
set_option maxRecDepth 100000 in
theorem cs_7 {d : DT} {Φ : JC} {nm : String} (hK : Ok d Φ RL nm cL_law 4 (some .boolean) room_1) {b : Nat} {xs : Nat → Int32} (hX : Scr Φ b 7 xs) (h0 : Nat → Nat) (h1 : Nat → Nat) (h2 : Nat → Nat) (h3 : Nat → Nat) (h4 : Nat → Nat) (h6 : Nat → Nat) (h7 : Nat → Nat) (h8 : Nat → Nat) (h9 : Nat → Nat) (h10 : Nat → Nat) (rE hm rr rl rg rw : Nat → Nat) (tail : ∀ {ce sl : Nat}, ce ≤ 600000 → sl ≤ 7302250 → J d Φ 4 [] ce sl 1595 [(3, .int 0), (2, .ref (hm 0)), (1, .ref (h0 0)), (0, .ref b)] []) : J d Φ 4 [gTw d h0 (h1 0) (h2 0) (h3 0) (h4 0) (h6 0) (h7 0) (fun _ => 0) 0 0 0, gLd d h1 0 0 0 10 (fun _ => 0) (fun _ => 0) (fun _ => 0) (fillV 12 9 (fun _ => 0)) (fillV 3 1 (fun _ => 0)) (fun _ => 0) 0, gLd d h2 0 0 0 10 (fun _ => 0) (fun _ => 0) (fun _ => 0) (fillV 12 9 (fun _ => 0)) (fillV 3 1 (fun _ => 0)) (fun _ => 0) 0, gTp d h3 (fun _ => 0) 0 0 0 0 0, gSh d h4 rE (fillV 8 (-1) (fun _ => 0)) (fun _ => 0), gridJ d rE 8 40 (fun _ _ => 0), gCh d h6 (h7 0) (h9 0) (h10 0) (fun _ => 0), gTr d h7 (h8 0) (fun _ => 0) (fun _ => 0) 0 0, gWy d h8 (fun _ => 0) (fun _ => 0) (fun _ => 0) (fun _ => 0) (fun _ => 0) (fun _ => 0) (fun _ => 0) (fun _ => 0) 0 (fun _ => 0) 0 0 0 (-1), gLd d h9 0 0 0 10 (fun _ => 0) (fun _ => 0) (fun _ => 0) (fillV 12 9 (fun _ => 0)) (fillV 3 1 (fun _ => 0)) (fun _ => 0) 0, gLd d h10 0 0 0 10 (fun _ => 0) (fun _ => 0) (fun _ => 0) (fillV 12 9 (fun _ => 0)) (fillV 3 1 (fun _ => 0)) (fun _ => 0) 0, gMd d hm none none none rr rl rg rw (fun _ => 0) (fun _ => 0) (fun _ => 0) (fun _ => 0) (fun _ => 0) (fun _ => 0) 0 (fun _ => 0) 0 (fillV 12 9 (fun _ => 0)) (va_up (va_up (va_up (fun _ => 0) 0 1) 1 1) 2 1) 0 0 10 0 0 0 0 0 0 0 (fun _ => 0) 0 (fun _ => 0) (fun _ => 0) 0 (fun _ => 0) 0 0 (fun _ => 0) (fun _ => 0), gridJ d rr 8 40 (fun _ _ => 0), gridI d rl 20 7 (fun _ _ => 0), gridI d rg 8 3 (fun _ _ => 0), gridI d rw 7 5 (fun _ _ => 0)] 122 3685 534 [(3, .int 0), (2, .ref (hm 0)), (1, .ref (h0 0)), (0, .ref b)] [] := by
  refine J_aload_n hK dL_law_534 rfl 2 rfl rfl ?_
  refine J_aload_n hK dL_law_535 rfl 3 rfl rfl ?_
  refine J_iload_n hK dL_law_536 rfl 0 rfl rfl ?_
  refine J_iconst (v := 1) hK dL_law_537 rfl (by decide) ?_
  refine J_iadd hK dL_law_538 rfl ?_
  refine J_sld (v := xs 1) hK hX dL_law_539 rfl rfl ?_
  refine J_aload_n hK dL_law_540 rfl 3 rfl rfl ?_
  refine J_iload_n hK dL_law_541 rfl 0 rfl rfl ?_
  refine J_iconst (v := 2) hK dL_law_542 rfl (by decide) ?_
  refine J_iadd hK dL_law_543 rfl ?_
  refine J_sld (v := xs 2) hK hX dL_law_544 rfl rfl ?_
  refine J_aload_n hK dL_law_545 rfl 3 rfl rfl ?_
  refine J_iload_n hK dL_law_546 rfl 0 rfl rfl ?_
  refine J_iconst (v := 3) hK dL_law_547 rfl (by decide) ?_
  refine J_iadd hK dL_law_548 rfl ?_
  refine J_sld (v := xs 3) hK hX dL_law_549 rfl rfl ?_
  refine J_aload_n hK dL_law_550 rfl 3 rfl rfl ?_
  refine J_iload_n hK dL_law_551 rfl 0 rfl rfl ?_
  refine J_iconst (v := 4) hK dL_law_552 rfl (by decide) ?_
  refine J_iadd hK dL_law_553 rfl ?_
  refine J_sld (v := xs 4) hK hX dL_law_554 rfl rfl ?_
  refine J_aload_n hK dL_law_555 rfl 3 rfl rfl ?_
  refine J_iload_n hK dL_law_556 rfl 0 rfl rfl ?_
  refine J_iconst (v := 5) hK dL_law_557 rfl (by decide) ?_
  refine J_iadd hK dL_law_558 rfl ?_
  refine J_sld (v := xs 5) hK hX dL_law_559 rfl rfl ?_
  refine J_aload_n hK dL_law_560 rfl 3 rfl rfl ?_
  refine J_iload_n hK dL_law_561 rfl 0 rfl rfl ?_
  refine J_bipush (v := 6) hK dL_law_562 rfl (by decide) ?_
  refine J_iadd hK dL_law_564 rfl ?_
  refine J_sld (v := xs 6) hK hX dL_law_565 rfl rfl ?_
  obtain ⟨ox, om, hx, hom, he⟩ := pe_7 (xs 1) (xs 2) (xs 3) (xs 4) (xs 5) (xs 6)
  refine J_callVd (ce' := 122) (sl' := 3685) (gr := [gLd d h2 0 0 0 10 (fun _ => 0) (fun _ => 0) (fun _ => 0) (fillV 12 9 (fun _ => 0)) (fillV 3 1 (fun _ => 0)) (fun _ => 0) 0, gTp d h3 (fun _ => 0) 0 0 0 0 0, gSh d h4 rE (fillV 8 (-1) (fun _ => 0)) (fun _ => 0), gridJ d rE 8 40 (fun _ _ => 0), gCh d h6 (h7 0) (h9 0) (h10 0) (fun _ => 0), gTr d h7 (h8 0) (fun _ => 0) (fun _ => 0) 0 0, gWy d h8 (fun _ => 0) (fun _ => 0) (fun _ => 0) (fun _ => 0) (fun _ => 0) (fun _ => 0) (fun _ => 0) (fun _ => 0) 0 (fun _ => 0) 0 0 0 (-1), gLd d h9 0 0 0 10 (fun _ => 0) (fun _ => 0) (fun _ => 0) (fillV 12 9 (fun _ => 0)) (fillV 3 1 (fun _ => 0)) (fun _ => 0) 0, gLd d h10 0 0 0 10 (fun _ => 0) (fun _ => 0) (fun _ => 0) (fillV 12 9 (fun _ => 0)) (fillV 3 1 (fun _ => 0)) (fun _ => 0) 0, gMd d hm none none none rr rl rg rw (fun _ => 0) (fun _ => 0) (fun _ => 0) (fun _ => 0) (fun _ => 0) (fun _ => 0) 0 (fun _ => 0) 0 (fillV 12 9 (fun _ => 0)) (va_up (va_up (va_up (fun _ => 0) 0 1) 1 1) 2 1) 0 0 10 0 0 0 0 0 0 0 (fun _ => 0) 0 (fun _ => 0) (fun _ => 0) 0 (fun _ => 0) 0 0 (fun _ => 0) (fun _ => 0), gridJ d rr 8 40 (fun _ _ => 0), gridI d rl 20 7 (fun _ _ => 0), gridI d rg 8 3 (fun _ _ => 0), gridI d rw 7 5 (fun _ _ => 0)]) (v := .int (ox.1)) (st := []) hK dL_law_566 cv_RL_49 iv_yX6_line (As := [.int (xs 1), .int (xs 2), .int (xs 3), .int (xs 4), .int (xs 5), .int (xs 6)]) (kX6_line _ d h0 (h2 0) (h3 0) (h4 0) (h6 0) (h7 0) h1 (fun _ => 0) 0 0 0 0 0 0 10 (fun _ => 0) (fun _ => 0) (fun _ => 0) (fillV 12 9 (fun _ => 0)) (fillV 3 1 (fun _ => 0)) (fun _ => 0) 0 (xs 1) (xs 2) (xs 3) (xs 4) (xs 5) (xs 6) hx) (fun _ => rfl) rfl rfl (Nat.le_of_ble_eq_true rfl) (by decide) 0 0 rfl rfl rfl [0, 1] [2, 3, 4, 5, 6, 7, 8, 9, 10, 11, 12, 13, 14, 15] rfl rfl rfl rfl rfl rfl rfl ?_
  refine J_drp (gs2 := [gMd d hm none none none rr rl rg rw (fun _ => 0) (fun _ => 0) (fun _ => 0) (fun _ => 0) (fun _ => 0) (fun _ => 0) 0 (fun _ => 0) 0 (fillV 12 9 (fun _ => 0)) (va_up (va_up (va_up (fun _ => 0) 0 1) 1 1) 2 1) 0 0 10 0 0 0 0 0 0 0 (fun _ => 0) 0 (fun _ => 0) (fun _ => 0) 0 (fun _ => 0) 0 0 (fun _ => 0) (fun _ => 0), gridJ d rr 8 40 (fun _ _ => 0), gridI d rl 20 7 (fun _ _ => 0), gridI d rg 8 3 (fun _ _ => 0), gridI d rw 7 5 (fun _ _ => 0)]) 9 rfl ?_
  refine J_aload_n hK dL_law_569 rfl 1 rfl rfl ?_
  refine J_aload_n hK dL_law_570 rfl 3 rfl rfl ?_
  refine J_iload_n hK dL_law_571 rfl 0 rfl rfl ?_
  refine J_iconst (v := 1) hK dL_law_572 rfl (by decide) ?_
  refine J_iadd hK dL_law_573 rfl ?_
  refine J_sld (v := xs 1) hK hX dL_law_574 rfl rfl ?_
  refine J_aload_n hK dL_law_575 rfl 3 rfl rfl ?_
  refine J_iload_n hK dL_law_576 rfl 0 rfl rfl ?_
  refine J_iconst (v := 2) hK dL_law_577 rfl (by decide) ?_
  refine J_iadd hK dL_law_578 rfl ?_
  refine J_sld (v := xs 2) hK hX dL_law_579 rfl rfl ?_
  refine J_aload_n hK dL_law_580 rfl 3 rfl rfl ?_
  refine J_iload_n hK dL_law_581 rfl 0 rfl rfl ?_
  refine J_iconst (v := 3) hK dL_law_582 rfl (by decide) ?_
  refine J_iadd hK dL_law_583 rfl ?_
  refine J_sld (v := xs 3) hK hX dL_law_584 rfl rfl ?_
  refine J_aload_n hK dL_law_585 rfl 3 rfl rfl ?_
  refine J_iload_n hK dL_law_586 rfl 0 rfl rfl ?_
  refine J_iconst (v := 4) hK dL_law_587 rfl (by decide) ?_
  refine J_iadd hK dL_law_588 rfl ?_
  refine J_sld (v := xs 4) hK hX dL_law_589 rfl rfl ?_
  refine J_aload_n hK dL_law_590 rfl 3 rfl rfl ?_
  refine J_iload_n hK dL_law_591 rfl 0 rfl rfl ?_
  refine J_iconst (v := 5) hK dL_law_592 rfl (by decide) ?_
  refine J_iadd hK dL_law_593 rfl ?_
  refine J_sld (v := xs 5) hK hX dL_law_594 rfl rfl ?_
  refine J_aload_n hK dL_law_595 rfl 3 rfl rfl ?_
  refine J_iload_n hK dL_law_596 rfl 0 rfl rfl ?_
  refine J_bipush (v := 6) hK dL_law_597 rfl (by decide) ?_
  refine J_iadd hK dL_law_599 rfl ?_
  refine J_sld (v := xs 6) hK hX dL_law_600 rfl rfl ?_
  refine J_callVd (ce' := 122) (sl' := 3685) (gr := [gridJ d rr 8 40 (fun _ _ => 0), gridI d rg 8 3 (fun _ _ => 0), gridI d rw 7 5 (fun _ _ => 0)]) (v := .int (om.1)) (st := [.int (ox.1)]) hK dL_law_601 cv_RL_53 iv_yX7_line (As := [.int (xs 1), .int (xs 2), .int (xs 3), .int (xs 4), .int (xs 5), .int (xs 6)]) (kX7_line _ d hm rr rl rg rw none none none (fun _ => 0) (fun _ => 0) (fun _ => 0) (fun _ _ => 0) (fun _ => 0) (fun _ => 0) (fun _ => 0) 0 (fun _ => 0) 0 (fun _ _ => 0) (fillV 12 9 (fun _ => 0)) (va_up (va_up (va_up (fun _ => 0) 0 1) 1 1) 2 1) 0 (fun _ _ => 0) 0 (fun _ _ => 0) 10 0 0 0 0 0 0 0 (fun _ => 0) 0 (fun _ => 0) (fun _ => 0) 0 (fun _ => 0) 0 0 (fun _ => 0) (fun _ => 0) (xs 1) (xs 2) (xs 3) (xs 4) (xs 5) (xs 6) hom) (fun _ => rfl) rfl rfl (Nat.le_of_ble_eq_true rfl) (by decide) 0 0 rfl rfl rfl [0, 2] [1, 3, 4] rfl rfl rfl rfl rfl rfl rfl ?_
  refine J_icmp_eq (tg := 1595) hK dL_law_604 rfl rfl (fun _ => ?_) (fun h => absurd he h)
  exact J_nil (tail (by decide) (by decide))

set_option maxHeartbeats 4000000 in
set_option maxRecDepth 100000 in
theorem cs_8 {d : DT} {Φ : JC} {nm : String} (hK : Ok d Φ RL nm cL_law 4 (some .boolean) room_1) {b : Nat} {xs : Nat → Int32} (hX : Scr Φ b 7 xs) (h0 : Nat → Nat) (h1 : Nat → Nat) (h2 : Nat → Nat) (h3 : Nat → Nat) (h4 : Nat → Nat) (h6 : Nat → Nat) (h7 : Nat → Nat) (h8 : Nat → Nat) (h9 : Nat → Nat) (h10 : Nat → Nat) (rE hm rr rl rg rw : Nat → Nat) (tail : ∀ {ce sl : Nat}, ce ≤ 600000 → sl ≤ 7302250 → J d Φ 4 [] ce sl 1595 [(3, .int 0), (2, .ref (hm 0)), (1, .ref (h0 0)), (0, .ref b)] []) : J d Φ 4 [gTw d h0 (h1 0) (h2 0) (h3 0) (h4 0) (h6 0) (h7 0) (fun _ => 0) 0 0 0, gLd d h1 0 0 0 10 (fun _ => 0) (fun _ => 0) (fun _ => 0) (fillV 12 9 (fun _ => 0)) (fillV 3 1 (fun _ => 0)) (fun _ => 0) 0, gLd d h2 0 0 0 10 (fun _ => 0) (fun _ => 0) (fun _ => 0) (fillV 12 9 (fun _ => 0)) (fillV 3 1 (fun _ => 0)) (fun _ => 0) 0, gTp d h3 (fun _ => 0) 0 0 0 0 0, gSh d h4 rE (fillV 8 (-1) (fun _ => 0)) (fun _ => 0), gridJ d rE 8 40 (fun _ _ => 0), gCh d h6 (h7 0) (h9 0) (h10 0) (fun _ => 0), gTr d h7 (h8 0) (fun _ => 0) (fun _ => 0) 0 0, gWy d h8 (fun _ => 0) (fun _ => 0) (fun _ => 0) (fun _ => 0) (fun _ => 0) (fun _ => 0) (fun _ => 0) (fun _ => 0) 0 (fun _ => 0) 0 0 0 (-1), gLd d h9 0 0 0 10 (fun _ => 0) (fun _ => 0) (fun _ => 0) (fillV 12 9 (fun _ => 0)) (fillV 3 1 (fun _ => 0)) (fun _ => 0) 0, gLd d h10 0 0 0 10 (fun _ => 0) (fun _ => 0) (fun _ => 0) (fillV 12 9 (fun _ => 0)) (fillV 3 1 (fun _ => 0)) (fun _ => 0) 0, gMd d hm none none none rr rl rg rw (fun _ => 0) (fun _ => 0) (fun _ => 0) (fun _ => 0) (fun _ => 0) (fun _ => 0) 0 (fun _ => 0) 0 (fillV 12 9 (fun _ => 0)) (va_up (va_up (va_up (fun _ => 0) 0 1) 1 1) 2 1) 0 0 10 0 0 0 0 0 0 0 (fun _ => 0) 0 (fun _ => 0) (fun _ => 0) 0 (fun _ => 0) 0 0 (fun _ => 0) (fun _ => 0), gridJ d rr 8 40 (fun _ _ => 0), gridI d rl 20 7 (fun _ _ => 0), gridI d rg 8 3 (fun _ _ => 0), gridI d rw 7 5 (fun _ _ => 0)] 122 3685 609 [(3, .int 0), (2, .ref (hm 0)), (1, .ref (h0 0)), (0, .ref b)] [] := by
  refine J_aload_n hK dL_law_609 rfl 2 rfl rfl ?_
  refine J_aload_n hK dL_law_610 rfl 3 rfl rfl ?_
  refine J_iload_n hK dL_law_611 rfl 0 rfl rfl ?_
  refine J_iconst (v := 1) hK dL_law_612 rfl (by decide) ?_
  refine J_iadd hK dL_law_613 rfl ?_
  refine J_sld (v := xs 1) hK hX dL_law_614 rfl rfl ?_
  refine J_aload_n hK dL_law_615 rfl 3 rfl rfl ?_
  refine J_iload_n hK dL_law_616 rfl 0 rfl rfl ?_
  refine J_iconst (v := 2) hK dL_law_617 rfl (by decide) ?_
  refine J_iadd hK dL_law_618 rfl ?_
  refine J_sld (v := xs 2) hK hX dL_law_619 rfl rfl ?_
  refine J_aload_n hK dL_law_620 rfl 3 rfl rfl ?_
  refine J_iload_n hK dL_law_621 rfl 0 rfl rfl ?_
  refine J_iconst (v := 3) hK dL_law_622 rfl (by decide) ?_
  refine J_iadd hK dL_law_623 rfl ?_
  refine J_sld (v := xs 3) hK hX dL_law_624 rfl rfl ?_
  obtain ⟨ox, om, hx, hom, he⟩ := pe_8 (xs 1) (xs 2) (xs 3)
  refine J_callVd (ce' := 122) (sl' := 3685) (gr := [gLd d h2 0 0 0 10 (fun _ => 0) (fun _ => 0) (fun _ => 0) (fillV 12 9 (fun _ => 0)) (fillV 3 1 (fun _ => 0)) (fun _ => 0) 0, gTp d h3 (fun _ => 0) 0 0 0 0 0, gSh d h4 rE (fillV 8 (-1) (fun _ => 0)) (fun _ => 0), gridJ d rE 8 40 (fun _ _ => 0), gCh d h6 (h7 0) (h9 0) (h10 0) (fun _ => 0), gTr d h7 (h8 0) (fun _ => 0) (fun _ => 0) 0 0, gWy d h8 (fun _ => 0) (fun _ => 0) (fun _ => 0) (fun _ => 0) (fun _ => 0) (fun _ => 0) (fun _ => 0) (fun _ => 0) 0 (fun _ => 0) 0 0 0 (-1), gLd d h9 0 0 0 10 (fun _ => 0) (fun _ => 0) (fun _ => 0) (fillV 12 9 (fun _ => 0)) (fillV 3 1 (fun _ => 0)) (fun _ => 0) 0, gLd d h10 0 0 0 10 (fun _ => 0) (fun _ => 0) (fun _ => 0) (fillV 12 9 (fun _ => 0)) (fillV 3 1 (fun _ => 0)) (fun _ => 0) 0, gMd d hm none none none rr rl rg rw (fun _ => 0) (fun _ => 0) (fun _ => 0) (fun _ => 0) (fun _ => 0) (fun _ => 0) 0 (fun _ => 0) 0 (fillV 12 9 (fun _ => 0)) (va_up (va_up (va_up (fun _ => 0) 0 1) 1 1) 2 1) 0 0 10 0 0 0 0 0 0 0 (fun _ => 0) 0 (fun _ => 0) (fun _ => 0) 0 (fun _ => 0) 0 0 (fun _ => 0) (fun _ => 0), gridJ d rr 8 40 (fun _ _ => 0), gridI d rl 20 7 (fun _ _ => 0), gridI d rg 8 3 (fun _ _ => 0), gridI d rw 7 5 (fun _ _ => 0)]) (v := .int (ox.1)) (st := []) hK dL_law_625 cv_RL_54 iv_yX6_goods (As := [.int (xs 1), .int (xs 2), .int (xs 3)]) (kX6_goods _ d h0 (h2 0) (h3 0) (h4 0) (h6 0) (h7 0) h1 (fun _ => 0) 0 0 0 0 0 0 10 (fun _ => 0) (fun _ => 0) (fun _ => 0) (fillV 12 9 (fun _ => 0)) (fillV 3 1 (fun _ => 0)) (fun _ => 0) 0 (xs 1) (xs 2) (xs 3) hx) (fun _ => rfl) rfl rfl (Nat.le_of_ble_eq_true rfl) (by decide) 0 0 rfl rfl rfl [0, 1] [2, 3, 4, 5, 6, 7, 8, 9, 10, 11, 12, 13, 14, 15] rfl rfl rfl rfl rfl rfl rfl ?_
  refine J_drp (gs2 := [gMd d hm none none none rr rl rg rw (fun _ => 0) (fun _ => 0) (fun _ => 0) (fun _ => 0) (fun _ => 0) (fun _ => 0) 0 (fun _ => 0) 0 (fillV 12 9 (fun _ => 0)) (va_up (va_up (va_up (fun _ => 0) 0 1) 1 1) 2 1) 0 0 10 0 0 0 0 0 0 0 (fun _ => 0) 0 (fun _ => 0) (fun _ => 0) 0 (fun _ => 0) 0 0 (fun _ => 0) (fun _ => 0), gridJ d rr 8 40 (fun _ _ => 0), gridI d rl 20 7 (fun _ _ => 0), gridI d rg 8 3 (fun _ _ => 0), gridI d rw 7 5 (fun _ _ => 0)]) 9 rfl ?_
  refine J_aload_n hK dL_law_628 rfl 1 rfl rfl ?_
  refine J_aload_n hK dL_law_629 rfl 3 rfl rfl ?_
  refine J_iload_n hK dL_law_630 rfl 0 rfl rfl ?_
  refine J_iconst (v := 1) hK dL_law_631 rfl (by decide) ?_
  refine J_iadd hK dL_law_632 rfl ?_
  refine J_sld (v := xs 1) hK hX dL_law_633 rfl rfl ?_
  refine J_aload_n hK dL_law_634 rfl 3 rfl rfl ?_
  refine J_iload_n hK dL_law_635 rfl 0 rfl rfl ?_
  refine J_iconst (v := 2) hK dL_law_636 rfl (by decide) ?_
  refine J_iadd hK dL_law_637 rfl ?_
  refine J_sld (v := xs 2) hK hX dL_law_638 rfl rfl ?_
  refine J_aload_n hK dL_law_639 rfl 3 rfl rfl ?_
  refine J_iload_n hK dL_law_640 rfl 0 rfl rfl ?_
  refine J_iconst (v := 3) hK dL_law_641 rfl (by decide) ?_
  refine J_iadd hK dL_law_642 rfl ?_
  refine J_sld (v := xs 3) hK hX dL_law_643 rfl rfl ?_
  refine J_callVd (ce' := 122) (sl' := 3685) (gr := [gridJ d rr 8 40 (fun _ _ => 0), gridI d rl 20 7 (fun _ _ => 0), gridI d rw 7 5 (fun _ _ => 0)]) (v := .int (om.1)) (st := [.int (ox.1)]) hK dL_law_644 cv_RL_57 iv_yX7_goods (As := [.int (xs 1), .int (xs 2), .int (xs 3)]) (kX7_goods _ d hm rr rl rg rw none none none (fun _ => 0) (fun _ => 0) (fun _ => 0) (fun _ _ => 0) (fun _ => 0) (fun _ => 0) (fun _ => 0) 0 (fun _ => 0) 0 (fun _ _ => 0) (fillV 12 9 (fun _ => 0)) (va_up (va_up (va_up (fun _ => 0) 0 1) 1 1) 2 1) 0 (fun _ _ => 0) 0 (fun _ _ => 0) 10 0 0 0 0 0 0 0 (fun _ => 0) 0 (fun _ => 0) (fun _ => 0) 0 (fun _ => 0) 0 0 (fun _ => 0) (fun _ => 0) (xs 1) (xs 2) (xs 3) hom) (fun _ => rfl) rfl rfl (Nat.le_of_ble_eq_true rfl) (by decide) 0 0 rfl rfl rfl [0, 3] [1, 2, 4] rfl rfl rfl rfl rfl rfl rfl ?_
  refine J_icmp_eq (tg := 1595) hK dL_law_647 rfl rfl (fun _ => ?_) (fun h => absurd he h)
  exact J_nil (tail (by decide) (by decide))

set_option maxHeartbeats 4000000 in
set_option maxRecDepth 100000 in
theorem cs_9 {d : DT} {Φ : JC} {nm : String} (hK : Ok d Φ RL nm cL_law 4 (some .boolean) room_1) {b : Nat} {xs : Nat → Int32} (hX : Scr Φ b 7 xs) (h0 : Nat → Nat) (h1 : Nat → Nat) (h2 : Nat → Nat) (h3 : Nat → Nat) (h4 : Nat → Nat) (h6 : Nat → Nat) (h7 : Nat → Nat) (h8 : Nat → Nat) (h9 : Nat → Nat) (h10 : Nat → Nat) (rE hm rr rl rg rw : Nat → Nat) (tail : ∀ {ce sl : Nat}, ce ≤ 600000 → sl ≤ 7302250 → J d Φ 4 [] ce sl 1595 [(3, .int 0), (2, .ref (hm 0)), (1, .ref (h0 0)), (0, .ref b)] []) : J d Φ 4 [gTw d h0 (h1 0) (h2 0) (h3 0) (h4 0) (h6 0) (h7 0) (fun _ => 0) 0 0 0, gLd d h1 0 0 0 10 (fun _ => 0) (fun _ => 0) (fun _ => 0) (fillV 12 9 (fun _ => 0)) (fillV 3 1 (fun _ => 0)) (fun _ => 0) 0, gLd d h2 0 0 0 10 (fun _ => 0) (fun _ => 0) (fun _ => 0) (fillV 12 9 (fun _ => 0)) (fillV 3 1 (fun _ => 0)) (fun _ => 0) 0, gTp d h3 (fun _ => 0) 0 0 0 0 0, gSh d h4 rE (fillV 8 (-1) (fun _ => 0)) (fun _ => 0), gridJ d rE 8 40 (fun _ _ => 0), gCh d h6 (h7 0) (h9 0) (h10 0) (fun _ => 0), gTr d h7 (h8 0) (fun _ => 0) (fun _ => 0) 0 0, gWy d h8 (fun _ => 0) (fun _ => 0) (fun _ => 0) (fun _ => 0) (fun _ => 0) (fun _ => 0) (fun _ => 0) (fun _ => 0) 0 (fun _ => 0) 0 0 0 (-1), gLd d h9 0 0 0 10 (fun _ => 0) (fun _ => 0) (fun _ => 0) (fillV 12 9 (fun _ => 0)) (fillV 3 1 (fun _ => 0)) (fun _ => 0) 0, gLd d h10 0 0 0 10 (fun _ => 0) (fun _ => 0) (fun _ => 0) (fillV 12 9 (fun _ => 0)) (fillV 3 1 (fun _ => 0)) (fun _ => 0) 0, gMd d hm none none none rr rl rg rw (fun _ => 0) (fun _ => 0) (fun _ => 0) (fun _ => 0) (fun _ => 0) (fun _ => 0) 0 (fun _ => 0) 0 (fillV 12 9 (fun _ => 0)) (va_up (va_up (va_up (fun _ => 0) 0 1) 1 1) 2 1) 0 0 10 0 0 0 0 0 0 0 (fun _ => 0) 0 (fun _ => 0) (fun _ => 0) 0 (fun _ => 0) 0 0 (fun _ => 0) (fun _ => 0), gridJ d rr 8 40 (fun _ _ => 0), gridI d rl 20 7 (fun _ _ => 0), gridI d rg 8 3 (fun _ _ => 0), gridI d rw 7 5 (fun _ _ => 0)] 122 3685 652 [(3, .int 0), (2, .ref (hm 0)), (1, .ref (h0 0)), (0, .ref b)] [] := by
  refine J_aload_n hK dL_law_652 rfl 2 rfl rfl ?_
  refine J_aload_n hK dL_law_653 rfl 3 rfl rfl ?_
  refine J_iload_n hK dL_law_654 rfl 0 rfl rfl ?_
  refine J_iconst (v := 1) hK dL_law_655 rfl (by decide) ?_
  refine J_iadd hK dL_law_656 rfl ?_
  refine J_sld (v := xs 1) hK hX dL_law_657 rfl rfl ?_
  refine J_aload_n hK dL_law_658 rfl 3 rfl rfl ?_
  refine J_iload_n hK dL_law_659 rfl 0 rfl rfl ?_
  refine J_iconst (v := 2) hK dL_law_660 rfl (by decide) ?_
  refine J_iadd hK dL_law_661 rfl ?_
  refine J_sld (v := xs 2) hK hX dL_law_662 rfl rfl ?_
  refine J_aload_n hK dL_law_663 rfl 3 rfl rfl ?_
  refine J_iload_n hK dL_law_664 rfl 0 rfl rfl ?_
  refine J_iconst (v := 3) hK dL_law_665 rfl (by decide) ?_
  refine J_iadd hK dL_law_666 rfl ?_
  refine J_sld (v := xs 3) hK hX dL_law_667 rfl rfl ?_
  refine J_aload_n hK dL_law_668 rfl 3 rfl rfl ?_
  refine J_iload_n hK dL_law_669 rfl 0 rfl rfl ?_
  refine J_iconst (v := 4) hK dL_law_670 rfl (by decide) ?_
  refine J_iadd hK dL_law_671 rfl ?_
  refine J_sld (v := xs 4) hK hX dL_law_672 rfl rfl ?_
  obtain ⟨ox, om, hx, hom, he⟩ := pe_9 (xs 1) (xs 2) (xs 3) (xs 4)
  refine J_callVd (ce' := 122) (sl' := 3685) (gr := [gLd d h2 0 0 0 10 (fun _ => 0) (fun _ => 0) (fun _ => 0) (fillV 12 9 (fun _ => 0)) (fillV 3 1 (fun _ => 0)) (fun _ => 0) 0, gTp d h3 (fun _ => 0) 0 0 0 0 0, gSh d h4 rE (fillV 8 (-1) (fun _ => 0)) (fun _ => 0), gridJ d rE 8 40 (fun _ _ => 0), gCh d h6 (h7 0) (h9 0) (h10 0) (fun _ => 0), gTr d h7 (h8 0) (fun _ => 0) (fun _ => 0) 0 0, gWy d h8 (fun _ => 0) (fun _ => 0) (fun _ => 0) (fun _ => 0) (fun _ => 0) (fun _ => 0) (fun _ => 0) (fun _ => 0) 0 (fun _ => 0) 0 0 0 (-1), gLd d h9 0 0 0 10 (fun _ => 0) (fun _ => 0) (fun _ => 0) (fillV 12 9 (fun _ => 0)) (fillV 3 1 (fun _ => 0)) (fun _ => 0) 0, gLd d h10 0 0 0 10 (fun _ => 0) (fun _ => 0) (fun _ => 0) (fillV 12 9 (fun _ => 0)) (fillV 3 1 (fun _ => 0)) (fun _ => 0) 0, gMd d hm none none none rr rl rg rw (fun _ => 0) (fun _ => 0) (fun _ => 0) (fun _ => 0) (fun _ => 0) (fun _ => 0) 0 (fun _ => 0) 0 (fillV 12 9 (fun _ => 0)) (va_up (va_up (va_up (fun _ => 0) 0 1) 1 1) 2 1) 0 0 10 0 0 0 0 0 0 0 (fun _ => 0) 0 (fun _ => 0) (fun _ => 0) 0 (fun _ => 0) 0 0 (fun _ => 0) (fun _ => 0), gridJ d rr 8 40 (fun _ _ => 0), gridI d rl 20 7 (fun _ _ => 0), gridI d rg 8 3 (fun _ _ => 0), gridI d rw 7 5 (fun _ _ => 0)]) (v := .int (ox.1)) (st := []) hK dL_law_673 cv_RL_58 iv_yX6_work (As := [.int (xs 1), .int (xs 2), .int (xs 3), .int (xs 4)]) (kX6_work _ d h0 (h2 0) (h3 0) (h4 0) (h6 0) (h7 0) h1 1000 (fun _ => 0) 0 0 0 0 0 0 10 (fun _ => 0) (fun _ => 0) (fun _ => 0) (fillV 12 9 (fun _ => 0)) (fillV 3 1 (fun _ => 0)) (fun _ => 0) 0 (xs 1) (xs 2) (xs 3) (xs 4) hx) (fun _ => rfl) rfl rfl (Nat.le_of_ble_eq_true rfl) (by decide) 0 0 rfl rfl rfl [0, 1] [2, 3, 4, 5, 6, 7, 8, 9, 10, 11, 12, 13, 14, 15] rfl rfl rfl rfl rfl rfl rfl ?_
  refine J_drp (gs2 := [gMd d hm none none none rr rl rg rw (fun _ => 0) (fun _ => 0) (fun _ => 0) (fun _ => 0) (fun _ => 0) (fun _ => 0) 0 (fun _ => 0) 0 (fillV 12 9 (fun _ => 0)) (va_up (va_up (va_up (fun _ => 0) 0 1) 1 1) 2 1) 0 0 10 0 0 0 0 0 0 0 (fun _ => 0) 0 (fun _ => 0) (fun _ => 0) 0 (fun _ => 0) 0 0 (fun _ => 0) (fun _ => 0), gridJ d rr 8 40 (fun _ _ => 0), gridI d rl 20 7 (fun _ _ => 0), gridI d rg 8 3 (fun _ _ => 0), gridI d rw 7 5 (fun _ _ => 0)]) 9 rfl ?_
  refine J_aload_n hK dL_law_676 rfl 1 rfl rfl ?_
  refine J_aload_n hK dL_law_677 rfl 3 rfl rfl ?_
  refine J_iload_n hK dL_law_678 rfl 0 rfl rfl ?_
  refine J_iconst (v := 1) hK dL_law_679 rfl (by decide) ?_
  refine J_iadd hK dL_law_680 rfl ?_
  refine J_sld (v := xs 1) hK hX dL_law_681 rfl rfl ?_
  refine J_aload_n hK dL_law_682 rfl 3 rfl rfl ?_
  refine J_iload_n hK dL_law_683 rfl 0 rfl rfl ?_
  refine J_iconst (v := 2) hK dL_law_684 rfl (by decide) ?_
  refine J_iadd hK dL_law_685 rfl ?_
  refine J_sld (v := xs 2) hK hX dL_law_686 rfl rfl ?_
  refine J_aload_n hK dL_law_687 rfl 3 rfl rfl ?_
  refine J_iload_n hK dL_law_688 rfl 0 rfl rfl ?_
  refine J_iconst (v := 3) hK dL_law_689 rfl (by decide) ?_
  refine J_iadd hK dL_law_690 rfl ?_
  refine J_sld (v := xs 3) hK hX dL_law_691 rfl rfl ?_
  refine J_aload_n hK dL_law_692 rfl 3 rfl rfl ?_
  refine J_iload_n hK dL_law_693 rfl 0 rfl rfl ?_
  refine J_iconst (v := 4) hK dL_law_694 rfl (by decide) ?_
  refine J_iadd hK dL_law_695 rfl ?_
  refine J_sld (v := xs 4) hK hX dL_law_696 rfl rfl ?_
  refine J_callVd (ce' := 122) (sl' := 3685) (gr := [gridJ d rr 8 40 (fun _ _ => 0), gridI d rl 20 7 (fun _ _ => 0), gridI d rg 8 3 (fun _ _ => 0)]) (v := .int (om.1)) (st := [.int (ox.1)]) hK dL_law_697 cv_RL_62 iv_yX7_work (As := [.int (xs 1), .int (xs 2), .int (xs 3), .int (xs 4)]) (kX7_work _ d hm rr rl rg rw none none none (fun _ => 0) (fun _ => 0) (fun _ => 0) (fun _ _ => 0) (fun _ => 0) (fun _ => 0) (fun _ => 0) 0 (fun _ => 0) 0 (fun _ _ => 0) (fillV 12 9 (fun _ => 0)) (va_up (va_up (va_up (fun _ => 0) 0 1) 1 1) 2 1) 0 (fun _ _ => 0) 0 (fun _ _ => 0) 10 0 0 0 0 0 0 0 (fun _ => 0) 0 (fun _ => 0) (fun _ => 0) 0 (fun _ => 0) 0 0 (fun _ => 0) (fun _ => 0) (xs 1) (xs 2) (xs 3) (xs 4) hom) (fun _ => rfl) rfl rfl (Nat.le_of_ble_eq_true rfl) (by decide) 0 0 rfl rfl rfl [0, 4] [1, 2, 3] rfl rfl rfl rfl rfl rfl rfl ?_
  refine J_icmp_eq (tg := 1595) hK dL_law_700 rfl rfl (fun _ => ?_) (fun h => absurd he h)
  exact J_nil (tail (by decide) (by decide))

set_option maxHeartbeats 4000000 in
set_option maxRecDepth 100000 in
theorem cs_10 {d : DT} {Φ : JC} {nm : String} (hK : Ok d Φ RL nm cL_law 4 (some .boolean) room_1) {b : Nat} {xs : Nat → Int32} (hX : Scr Φ b 7 xs) (h0 : Nat → Nat) (h1 : Nat → Nat) (h2 : Nat → Nat) (h3 : Nat → Nat) (h4 : Nat → Nat) (h6 : Nat → Nat) (h7 : Nat → Nat) (h8 : Nat → Nat) (h9 : Nat → Nat) (h10 : Nat → Nat) (rE hm rr rl rg rw : Nat → Nat) (tail : ∀ {ce sl : Nat}, ce ≤ 600000 → sl ≤ 7302250 → J d Φ 4 [] ce sl 1595 [(3, .int 0), (2, .ref (hm 0)), (1, .ref (h0 0)), (0, .ref b)] []) : J d Φ 4 [gTw d h0 (h1 0) (h2 0) (h3 0) (h4 0) (h6 0) (h7 0) (fun _ => 0) 0 0 0, gLd d h1 0 0 0 10 (fun _ => 0) (fun _ => 0) (fun _ => 0) (fillV 12 9 (fun _ => 0)) (fillV 3 1 (fun _ => 0)) (fun _ => 0) 0, gLd d h2 0 0 0 10 (fun _ => 0) (fun _ => 0) (fun _ => 0) (fillV 12 9 (fun _ => 0)) (fillV 3 1 (fun _ => 0)) (fun _ => 0) 0, gTp d h3 (fun _ => 0) 0 0 0 0 0, gSh d h4 rE (fillV 8 (-1) (fun _ => 0)) (fun _ => 0), gridJ d rE 8 40 (fun _ _ => 0), gCh d h6 (h7 0) (h9 0) (h10 0) (fun _ => 0), gTr d h7 (h8 0) (fun _ => 0) (fun _ => 0) 0 0, gWy d h8 (fun _ => 0) (fun _ => 0) (fun _ => 0) (fun _ => 0) (fun _ => 0) (fun _ => 0) (fun _ => 0) (fun _ => 0) 0 (fun _ => 0) 0 0 0 (-1), gLd d h9 0 0 0 10 (fun _ => 0) (fun _ => 0) (fun _ => 0) (fillV 12 9 (fun _ => 0)) (fillV 3 1 (fun _ => 0)) (fun _ => 0) 0, gLd d h10 0 0 0 10 (fun _ => 0) (fun _ => 0) (fun _ => 0) (fillV 12 9 (fun _ => 0)) (fillV 3 1 (fun _ => 0)) (fun _ => 0) 0, gMd d hm none none none rr rl rg rw (fun _ => 0) (fun _ => 0) (fun _ => 0) (fun _ => 0) (fun _ => 0) (fun _ => 0) 0 (fun _ => 0) 0 (fillV 12 9 (fun _ => 0)) (va_up (va_up (va_up (fun _ => 0) 0 1) 1 1) 2 1) 0 0 10 0 0 0 0 0 0 0 (fun _ => 0) 0 (fun _ => 0) (fun _ => 0) 0 (fun _ => 0) 0 0 (fun _ => 0) (fun _ => 0), gridJ d rr 8 40 (fun _ _ => 0), gridI d rl 20 7 (fun _ _ => 0), gridI d rg 8 3 (fun _ _ => 0), gridI d rw 7 5 (fun _ _ => 0)] 122 3685 705 [(3, .int 0), (2, .ref (hm 0)), (1, .ref (h0 0)), (0, .ref b)] [] := by
  refine J_aload_n hK dL_law_705 rfl 2 rfl rfl ?_
  refine J_aload_n hK dL_law_706 rfl 3 rfl rfl ?_
  refine J_iload_n hK dL_law_707 rfl 0 rfl rfl ?_
  refine J_iconst (v := 1) hK dL_law_708 rfl (by decide) ?_
  refine J_iadd hK dL_law_709 rfl ?_
  refine J_sld (v := xs 1) hK hX dL_law_710 rfl rfl ?_
  refine J_aload_n hK dL_law_711 rfl 3 rfl rfl ?_
  refine J_iload_n hK dL_law_712 rfl 0 rfl rfl ?_
  refine J_iconst (v := 2) hK dL_law_713 rfl (by decide) ?_
  refine J_iadd hK dL_law_714 rfl ?_
  refine J_sld (v := xs 2) hK hX dL_law_715 rfl rfl ?_
  obtain ⟨ox, om, hx, hom, he⟩ := pe_10 (xs 1) (xs 2)
  refine J_callVd (ce' := 122) (sl' := 3685) (gr := [gLd d h2 0 0 0 10 (fun _ => 0) (fun _ => 0) (fun _ => 0) (fillV 12 9 (fun _ => 0)) (fillV 3 1 (fun _ => 0)) (fun _ => 0) 0, gTp d h3 (fun _ => 0) 0 0 0 0 0, gSh d h4 rE (fillV 8 (-1) (fun _ => 0)) (fun _ => 0), gridJ d rE 8 40 (fun _ _ => 0), gCh d h6 (h7 0) (h9 0) (h10 0) (fun _ => 0), gTr d h7 (h8 0) (fun _ => 0) (fun _ => 0) 0 0, gWy d h8 (fun _ => 0) (fun _ => 0) (fun _ => 0) (fun _ => 0) (fun _ => 0) (fun _ => 0) (fun _ => 0) (fun _ => 0) 0 (fun _ => 0) 0 0 0 (-1), gLd d h9 0 0 0 10 (fun _ => 0) (fun _ => 0) (fun _ => 0) (fillV 12 9 (fun _ => 0)) (fillV 3 1 (fun _ => 0)) (fun _ => 0) 0, gLd d h10 0 0 0 10 (fun _ => 0) (fun _ => 0) (fun _ => 0) (fillV 12 9 (fun _ => 0)) (fillV 3 1 (fun _ => 0)) (fun _ => 0) 0, gMd d hm none none none rr rl rg rw (fun _ => 0) (fun _ => 0) (fun _ => 0) (fun _ => 0) (fun _ => 0) (fun _ => 0) 0 (fun _ => 0) 0 (fillV 12 9 (fun _ => 0)) (va_up (va_up (va_up (fun _ => 0) 0 1) 1 1) 2 1) 0 0 10 0 0 0 0 0 0 0 (fun _ => 0) 0 (fun _ => 0) (fun _ => 0) 0 (fun _ => 0) 0 0 (fun _ => 0) (fun _ => 0), gridJ d rr 8 40 (fun _ _ => 0), gridI d rl 20 7 (fun _ _ => 0), gridI d rg 8 3 (fun _ _ => 0), gridI d rw 7 5 (fun _ _ => 0)]) (v := .int (ox.1)) (st := []) hK dL_law_716 cv_RL_63 iv_yX6_change (As := [.int (xs 1), .int (xs 2)]) (kX6_change _ d h0 (h2 0) (h3 0) (h4 0) (h6 0) (h7 0) h1 (fun _ => 0) 0 0 0 0 0 0 10 (fun _ => 0) (fun _ => 0) (fun _ => 0) (fillV 12 9 (fun _ => 0)) (fillV 3 1 (fun _ => 0)) (fun _ => 0) 0 (xs 1) (xs 2) hx) (fun _ => rfl) rfl rfl (Nat.le_of_ble_eq_true rfl) (by decide) 0 0 rfl rfl rfl [0, 1] [2, 3, 4, 5, 6, 7, 8, 9, 10, 11, 12, 13, 14, 15] rfl rfl rfl rfl rfl rfl rfl ?_
  refine J_drp (gs2 := [gMd d hm none none none rr rl rg rw (fun _ => 0) (fun _ => 0) (fun _ => 0) (fun _ => 0) (fun _ => 0) (fun _ => 0) 0 (fun _ => 0) 0 (fillV 12 9 (fun _ => 0)) (va_up (va_up (va_up (fun _ => 0) 0 1) 1 1) 2 1) 0 0 10 0 0 0 0 0 0 0 (fun _ => 0) 0 (fun _ => 0) (fun _ => 0) 0 (fun _ => 0) 0 0 (fun _ => 0) (fun _ => 0), gridJ d rr 8 40 (fun _ _ => 0), gridI d rl 20 7 (fun _ _ => 0), gridI d rg 8 3 (fun _ _ => 0), gridI d rw 7 5 (fun _ _ => 0)]) 9 rfl ?_
  refine J_aload_n hK dL_law_719 rfl 1 rfl rfl ?_
  refine J_aload_n hK dL_law_720 rfl 3 rfl rfl ?_
  refine J_iload_n hK dL_law_721 rfl 0 rfl rfl ?_
  refine J_iconst (v := 1) hK dL_law_722 rfl (by decide) ?_
  refine J_iadd hK dL_law_723 rfl ?_
  refine J_sld (v := xs 1) hK hX dL_law_724 rfl rfl ?_
  refine J_aload_n hK dL_law_725 rfl 3 rfl rfl ?_
  refine J_iload_n hK dL_law_726 rfl 0 rfl rfl ?_
  refine J_iconst (v := 2) hK dL_law_727 rfl (by decide) ?_
  refine J_iadd hK dL_law_728 rfl ?_
  refine J_sld (v := xs 2) hK hX dL_law_729 rfl rfl ?_
  refine J_callVd (ce' := 122) (sl' := 3685) (gr := [gridJ d rr 8 40 (fun _ _ => 0), gridI d rl 20 7 (fun _ _ => 0), gridI d rg 8 3 (fun _ _ => 0), gridI d rw 7 5 (fun _ _ => 0)]) (v := .int (om.1)) (st := [.int (ox.1)]) hK dL_law_730 cv_RL_66 iv_yX7_change (As := [.int (xs 1), .int (xs 2)]) (kX7_change _ d hm rr rl rg rw none none none (fun _ => 0) (fun _ => 0) (fun _ => 0) (fun _ _ => 0) (fun _ => 0) (fun _ => 0) (fun _ => 0) 0 (fun _ => 0) 0 (fun _ _ => 0) (fillV 12 9 (fun _ => 0)) (va_up (va_up (va_up (fun _ => 0) 0 1) 1 1) 2 1) 0 (fun _ _ => 0) 0 (fun _ _ => 0) 10 0 0 0 0 0 0 0 (fun _ => 0) 0 (fun _ => 0) (fun _ => 0) 0 (fun _ => 0) 0 0 (fun _ => 0) (fun _ => 0) (xs 1) (xs 2) hom) (fun _ => rfl) rfl rfl (Nat.le_of_ble_eq_true rfl) (by decide) 0 0 rfl rfl rfl [0] [1, 2, 3, 4] rfl rfl rfl rfl rfl rfl rfl ?_
  refine J_icmp_eq (tg := 1595) hK dL_law_733 rfl rfl (fun _ => ?_) (fun h => absurd he h)
  exact J_nil (tail (by decide) (by decide))

set_option maxHeartbeats 4000000 in
set_option maxRecDepth 100000 in
theorem cs_11 {d : DT} {Φ : JC} {nm : String} (hK : Ok d Φ RL nm cL_law 4 (some .boolean) room_1) {b : Nat} {xs : Nat → Int32} (hX : Scr Φ b 7 xs) (h0 : Nat → Nat) (h1 : Nat → Nat) (h2 : Nat → Nat) (h3 : Nat → Nat) (h4 : Nat → Nat) (h6 : Nat → Nat) (h7 : Nat → Nat) (h8 : Nat → Nat) (h9 : Nat → Nat) (h10 : Nat → Nat) (rE hm rr rl rg rw : Nat → Nat) (tail : ∀ {ce sl : Nat}, ce ≤ 600000 → sl ≤ 7302250 → J d Φ 4 [] ce sl 1595 [(3, .int 0), (2, .ref (hm 0)), (1, .ref (h0 0)), (0, .ref b)] []) : J d Φ 4 [gTw d h0 (h1 0) (h2 0) (h3 0) (h4 0) (h6 0) (h7 0) (fun _ => 0) 0 0 0, gLd d h1 0 0 0 10 (fun _ => 0) (fun _ => 0) (fun _ => 0) (fillV 12 9 (fun _ => 0)) (fillV 3 1 (fun _ => 0)) (fun _ => 0) 0, gLd d h2 0 0 0 10 (fun _ => 0) (fun _ => 0) (fun _ => 0) (fillV 12 9 (fun _ => 0)) (fillV 3 1 (fun _ => 0)) (fun _ => 0) 0, gTp d h3 (fun _ => 0) 0 0 0 0 0, gSh d h4 rE (fillV 8 (-1) (fun _ => 0)) (fun _ => 0), gridJ d rE 8 40 (fun _ _ => 0), gCh d h6 (h7 0) (h9 0) (h10 0) (fun _ => 0), gTr d h7 (h8 0) (fun _ => 0) (fun _ => 0) 0 0, gWy d h8 (fun _ => 0) (fun _ => 0) (fun _ => 0) (fun _ => 0) (fun _ => 0) (fun _ => 0) (fun _ => 0) (fun _ => 0) 0 (fun _ => 0) 0 0 0 (-1), gLd d h9 0 0 0 10 (fun _ => 0) (fun _ => 0) (fun _ => 0) (fillV 12 9 (fun _ => 0)) (fillV 3 1 (fun _ => 0)) (fun _ => 0) 0, gLd d h10 0 0 0 10 (fun _ => 0) (fun _ => 0) (fun _ => 0) (fillV 12 9 (fun _ => 0)) (fillV 3 1 (fun _ => 0)) (fun _ => 0) 0, gMd d hm none none none rr rl rg rw (fun _ => 0) (fun _ => 0) (fun _ => 0) (fun _ => 0) (fun _ => 0) (fun _ => 0) 0 (fun _ => 0) 0 (fillV 12 9 (fun _ => 0)) (va_up (va_up (va_up (fun _ => 0) 0 1) 1 1) 2 1) 0 0 10 0 0 0 0 0 0 0 (fun _ => 0) 0 (fun _ => 0) (fun _ => 0) 0 (fun _ => 0) 0 0 (fun _ => 0) (fun _ => 0), gridJ d rr 8 40 (fun _ _ => 0), gridI d rl 20 7 (fun _ _ => 0), gridI d rg 8 3 (fun _ _ => 0), gridI d rw 7 5 (fun _ _ => 0)] 122 3685 738 [(3, .int 0), (2, .ref (hm 0)), (1, .ref (h0 0)), (0, .ref b)] [] := by
  refine J_aload_n hK dL_law_738 rfl 2 rfl rfl ?_
  refine J_aload_n hK dL_law_739 rfl 3 rfl rfl ?_
  refine J_iload_n hK dL_law_740 rfl 0 rfl rfl ?_
  refine J_iconst (v := 1) hK dL_law_741 rfl (by decide) ?_
  refine J_iadd hK dL_law_742 rfl ?_
  refine J_sld (v := xs 1) hK hX dL_law_743 rfl rfl ?_
  refine J_aload_n hK dL_law_744 rfl 3 rfl rfl ?_
  refine J_iload_n hK dL_law_745 rfl 0 rfl rfl ?_
  refine J_iconst (v := 2) hK dL_law_746 rfl (by decide) ?_
  refine J_iadd hK dL_law_747 rfl ?_
  refine J_sld (v := xs 2) hK hX dL_law_748 rfl rfl ?_
  obtain ⟨ox, om, hx, hom, he⟩ := pe_11 (xs 1) (xs 2)
  refine J_callVd (ce' := 122) (sl' := 3685) (gr := [gLd d h2 0 0 0 10 (fun _ => 0) (fun _ => 0) (fun _ => 0) (fillV 12 9 (fun _ => 0)) (fillV 3 1 (fun _ => 0)) (fun _ => 0) 0, gTp d h3 (fun _ => 0) 0 0 0 0 0, gSh d h4 rE (fillV 8 (-1) (fun _ => 0)) (fun _ => 0), gridJ d rE 8 40 (fun _ _ => 0), gCh d h6 (h7 0) (h9 0) (h10 0) (fun _ => 0), gTr d h7 (h8 0) (fun _ => 0) (fun _ => 0) 0 0, gWy d h8 (fun _ => 0) (fun _ => 0) (fun _ => 0) (fun _ => 0) (fun _ => 0) (fun _ => 0) (fun _ => 0) (fun _ => 0) 0 (fun _ => 0) 0 0 0 (-1), gLd d h9 0 0 0 10 (fun _ => 0) (fun _ => 0) (fun _ => 0) (fillV 12 9 (fun _ => 0)) (fillV 3 1 (fun _ => 0)) (fun _ => 0) 0, gLd d h10 0 0 0 10 (fun _ => 0) (fun _ => 0) (fun _ => 0) (fillV 12 9 (fun _ => 0)) (fillV 3 1 (fun _ => 0)) (fun _ => 0) 0, gMd d hm none none none rr rl rg rw (fun _ => 0) (fun _ => 0) (fun _ => 0) (fun _ => 0) (fun _ => 0) (fun _ => 0) 0 (fun _ => 0) 0 (fillV 12 9 (fun _ => 0)) (va_up (va_up (va_up (fun _ => 0) 0 1) 1 1) 2 1) 0 0 10 0 0 0 0 0 0 0 (fun _ => 0) 0 (fun _ => 0) (fun _ => 0) 0 (fun _ => 0) 0 0 (fun _ => 0) (fun _ => 0), gridJ d rr 8 40 (fun _ _ => 0), gridI d rl 20 7 (fun _ _ => 0), gridI d rg 8 3 (fun _ _ => 0), gridI d rw 7 5 (fun _ _ => 0)]) (v := .int (ox.1)) (st := []) hK dL_law_749 cv_RL_67 iv_yX6_coin (As := [.int (xs 1), .int (xs 2)]) (kX6_coin _ d h0 (h2 0) (h3 0) (h4 0) (h6 0) (h7 0) h1 (fun _ => 0) 0 0 0 0 0 0 10 (fun _ => 0) (fun _ => 0) (fun _ => 0) (fillV 12 9 (fun _ => 0)) (fillV 3 1 (fun _ => 0)) (fun _ => 0) 0 (xs 1) (xs 2) hx) (fun _ => rfl) rfl rfl (Nat.le_of_ble_eq_true rfl) (by decide) 0 0 rfl rfl rfl [0, 1] [2, 3, 4, 5, 6, 7, 8, 9, 10, 11, 12, 13, 14, 15] rfl rfl rfl rfl rfl rfl rfl ?_
  refine J_drp (gs2 := [gMd d hm none none none rr rl rg rw (fun _ => 0) (fun _ => 0) (fun _ => 0) (fun _ => 0) (fun _ => 0) (fun _ => 0) 0 (fun _ => 0) 0 (fillV 12 9 (fun _ => 0)) (va_up (va_up (va_up (fun _ => 0) 0 1) 1 1) 2 1) 0 0 10 0 0 0 0 0 0 0 (fun _ => 0) 0 (fun _ => 0) (fun _ => 0) 0 (fun _ => 0) 0 0 (fun _ => 0) (fun _ => 0), gridJ d rr 8 40 (fun _ _ => 0), gridI d rl 20 7 (fun _ _ => 0), gridI d rg 8 3 (fun _ _ => 0), gridI d rw 7 5 (fun _ _ => 0)]) 9 rfl ?_
  refine J_aload_n hK dL_law_752 rfl 1 rfl rfl ?_
  refine J_aload_n hK dL_law_753 rfl 3 rfl rfl ?_
  refine J_iload_n hK dL_law_754 rfl 0 rfl rfl ?_
  refine J_iconst (v := 1) hK dL_law_755 rfl (by decide) ?_
  refine J_iadd hK dL_law_756 rfl ?_
  refine J_sld (v := xs 1) hK hX dL_law_757 rfl rfl ?_
  refine J_aload_n hK dL_law_758 rfl 3 rfl rfl ?_
  refine J_iload_n hK dL_law_759 rfl 0 rfl rfl ?_
  refine J_iconst (v := 2) hK dL_law_760 rfl (by decide) ?_
  refine J_iadd hK dL_law_761 rfl ?_
  refine J_sld (v := xs 2) hK hX dL_law_762 rfl rfl ?_
  refine J_callVd (ce' := 122) (sl' := 3685) (gr := [gridJ d rr 8 40 (fun _ _ => 0), gridI d rl 20 7 (fun _ _ => 0), gridI d rg 8 3 (fun _ _ => 0), gridI d rw 7 5 (fun _ _ => 0)]) (v := .int (om.1)) (st := [.int (ox.1)]) hK dL_law_763 cv_RL_70 iv_yX7_coin (As := [.int (xs 1), .int (xs 2)]) (kX7_coin _ d hm rr rl rg rw none none none (fun _ => 0) (fun _ => 0) (fun _ => 0) (fun _ _ => 0) (fun _ => 0) (fun _ => 0) (fun _ => 0) 0 (fun _ => 0) 0 (fun _ _ => 0) (fillV 12 9 (fun _ => 0)) (va_up (va_up (va_up (fun _ => 0) 0 1) 1 1) 2 1) 0 (fun _ _ => 0) 0 (fun _ _ => 0) 10 0 0 0 0 0 0 0 (fun _ => 0) 0 (fun _ => 0) (fun _ => 0) 0 (fun _ => 0) 0 0 (fun _ => 0) (fun _ => 0) (xs 1) (xs 2) hom) (fun _ => rfl) rfl rfl (Nat.le_of_ble_eq_true rfl) (by decide) 0 0 rfl rfl rfl [0] [1, 2, 3, 4] rfl rfl rfl rfl rfl rfl rfl ?_
  refine J_icmp_eq (tg := 1595) hK dL_law_766 rfl rfl (fun _ => ?_) (fun h => absurd he h)
  exact J_nil (tail (by decide) (by decide))

set_option maxHeartbeats 4000000 in
set_option maxRecDepth 100000 in
theorem cs_12 {d : DT} {Φ : JC} {nm : String} (hK : Ok d Φ RL nm cL_law 4 (some .boolean) room_1) {b : Nat} {xs : Nat → Int32} (hX : Scr Φ b 7 xs) (h0 : Nat → Nat) (h1 : Nat → Nat) (h2 : Nat → Nat) (h3 : Nat → Nat) (h4 : Nat → Nat) (h6 : Nat → Nat) (h7 : Nat → Nat) (h8 : Nat → Nat) (h9 : Nat → Nat) (h10 : Nat → Nat) (rE hm rr rl rg rw : Nat → Nat) (tail : ∀ {ce sl : Nat}, ce ≤ 600000 → sl ≤ 7302250 → J d Φ 4 [] ce sl 1595 [(3, .int 0), (2, .ref (hm 0)), (1, .ref (h0 0)), (0, .ref b)] []) : J d Φ 4 [gTw d h0 (h1 0) (h2 0) (h3 0) (h4 0) (h6 0) (h7 0) (fun _ => 0) 0 0 0, gLd d h1 0 0 0 10 (fun _ => 0) (fun _ => 0) (fun _ => 0) (fillV 12 9 (fun _ => 0)) (fillV 3 1 (fun _ => 0)) (fun _ => 0) 0, gLd d h2 0 0 0 10 (fun _ => 0) (fun _ => 0) (fun _ => 0) (fillV 12 9 (fun _ => 0)) (fillV 3 1 (fun _ => 0)) (fun _ => 0) 0, gTp d h3 (fun _ => 0) 0 0 0 0 0, gSh d h4 rE (fillV 8 (-1) (fun _ => 0)) (fun _ => 0), gridJ d rE 8 40 (fun _ _ => 0), gCh d h6 (h7 0) (h9 0) (h10 0) (fun _ => 0), gTr d h7 (h8 0) (fun _ => 0) (fun _ => 0) 0 0, gWy d h8 (fun _ => 0) (fun _ => 0) (fun _ => 0) (fun _ => 0) (fun _ => 0) (fun _ => 0) (fun _ => 0) (fun _ => 0) 0 (fun _ => 0) 0 0 0 (-1), gLd d h9 0 0 0 10 (fun _ => 0) (fun _ => 0) (fun _ => 0) (fillV 12 9 (fun _ => 0)) (fillV 3 1 (fun _ => 0)) (fun _ => 0) 0, gLd d h10 0 0 0 10 (fun _ => 0) (fun _ => 0) (fun _ => 0) (fillV 12 9 (fun _ => 0)) (fillV 3 1 (fun _ => 0)) (fun _ => 0) 0, gMd d hm none none none rr rl rg rw (fun _ => 0) (fun _ => 0) (fun _ => 0) (fun _ => 0) (fun _ => 0) (fun _ => 0) 0 (fun _ => 0) 0 (fillV 12 9 (fun _ => 0)) (va_up (va_up (va_up (fun _ => 0) 0 1) 1 1) 2 1) 0 0 10 0 0 0 0 0 0 0 (fun _ => 0) 0 (fun _ => 0) (fun _ => 0) 0 (fun _ => 0) 0 0 (fun _ => 0) (fun _ => 0), gridJ d rr 8 40 (fun _ _ => 0), gridI d rl 20 7 (fun _ _ => 0), gridI d rg 8 3 (fun _ _ => 0), gridI d rw 7 5 (fun _ _ => 0)] 122 3685 771 [(3, .int 0), (2, .ref (hm 0)), (1, .ref (h0 0)), (0, .ref b)] [] := by
  refine J_aload_n hK dL_law_771 rfl 2 rfl rfl ?_
  refine J_aload_n hK dL_law_772 rfl 3 rfl rfl ?_
  refine J_iload_n hK dL_law_773 rfl 0 rfl rfl ?_
  refine J_iconst (v := 1) hK dL_law_774 rfl (by decide) ?_
  refine J_iadd hK dL_law_775 rfl ?_
  refine J_sld (v := xs 1) hK hX dL_law_776 rfl rfl ?_
  obtain ⟨ox, om, hx, hom, he⟩ := pe_12 (xs 1)
  refine J_callVd (ce' := 122) (sl' := 3685) (gr := [gLd d h2 0 0 0 10 (fun _ => 0) (fun _ => 0) (fun _ => 0) (fillV 12 9 (fun _ => 0)) (fillV 3 1 (fun _ => 0)) (fun _ => 0) 0, gTp d h3 (fun _ => 0) 0 0 0 0 0, gSh d h4 rE (fillV 8 (-1) (fun _ => 0)) (fun _ => 0), gridJ d rE 8 40 (fun _ _ => 0), gCh d h6 (h7 0) (h9 0) (h10 0) (fun _ => 0), gTr d h7 (h8 0) (fun _ => 0) (fun _ => 0) 0 0, gWy d h8 (fun _ => 0) (fun _ => 0) (fun _ => 0) (fun _ => 0) (fun _ => 0) (fun _ => 0) (fun _ => 0) (fun _ => 0) 0 (fun _ => 0) 0 0 0 (-1), gLd d h9 0 0 0 10 (fun _ => 0) (fun _ => 0) (fun _ => 0) (fillV 12 9 (fun _ => 0)) (fillV 3 1 (fun _ => 0)) (fun _ => 0) 0, gLd d h10 0 0 0 10 (fun _ => 0) (fun _ => 0) (fun _ => 0) (fillV 12 9 (fun _ => 0)) (fillV 3 1 (fun _ => 0)) (fun _ => 0) 0, gMd d hm none none none rr rl rg rw (fun _ => 0) (fun _ => 0) (fun _ => 0) (fun _ => 0) (fun _ => 0) (fun _ => 0) 0 (fun _ => 0) 0 (fillV 12 9 (fun _ => 0)) (va_up (va_up (va_up (fun _ => 0) 0 1) 1 1) 2 1) 0 0 10 0 0 0 0 0 0 0 (fun _ => 0) 0 (fun _ => 0) (fun _ => 0) 0 (fun _ => 0) 0 0 (fun _ => 0) (fun _ => 0), gridJ d rr 8 40 (fun _ _ => 0), gridI d rl 20 7 (fun _ _ => 0), gridI d rg 8 3 (fun _ _ => 0), gridI d rw 7 5 (fun _ _ => 0)]) (v := .int (ox.1)) (st := []) hK dL_law_777 cv_RL_71 iv_yX6_years (As := [.int (xs 1)]) (kX6_years _ d h0 (h2 0) (h3 0) (h4 0) (h6 0) (h7 0) h1 (fun _ => 0) 0 0 0 0 0 0 10 (fun _ => 0) (fun _ => 0) (fun _ => 0) (fillV 12 9 (fun _ => 0)) (fillV 3 1 (fun _ => 0)) (fun _ => 0) 0 (xs 1) hx) (fun _ => rfl) rfl rfl (Nat.le_of_ble_eq_true rfl) (by decide) 0 0 rfl rfl rfl [0, 1] [2, 3, 4, 5, 6, 7, 8, 9, 10, 11, 12, 13, 14, 15] rfl rfl rfl rfl rfl rfl rfl ?_
  refine J_drp (gs2 := [gMd d hm none none none rr rl rg rw (fun _ => 0) (fun _ => 0) (fun _ => 0) (fun _ => 0) (fun _ => 0) (fun _ => 0) 0 (fun _ => 0) 0 (fillV 12 9 (fun _ => 0)) (va_up (va_up (va_up (fun _ => 0) 0 1) 1 1) 2 1) 0 0 10 0 0 0 0 0 0 0 (fun _ => 0) 0 (fun _ => 0) (fun _ => 0) 0 (fun _ => 0) 0 0 (fun _ => 0) (fun _ => 0), gridJ d rr 8 40 (fun _ _ => 0), gridI d rl 20 7 (fun _ _ => 0), gridI d rg 8 3 (fun _ _ => 0), gridI d rw 7 5 (fun _ _ => 0)]) 9 rfl ?_
  refine J_aload_n hK dL_law_780 rfl 1 rfl rfl ?_
  refine J_aload_n hK dL_law_781 rfl 3 rfl rfl ?_
  refine J_iload_n hK dL_law_782 rfl 0 rfl rfl ?_
  refine J_iconst (v := 1) hK dL_law_783 rfl (by decide) ?_
  refine J_iadd hK dL_law_784 rfl ?_
  refine J_sld (v := xs 1) hK hX dL_law_785 rfl rfl ?_
  refine J_callVd (ce' := 122) (sl' := 3685) (gr := [gridJ d rr 8 40 (fun _ _ => 0), gridI d rl 20 7 (fun _ _ => 0), gridI d rg 8 3 (fun _ _ => 0), gridI d rw 7 5 (fun _ _ => 0)]) (v := .int (om.1)) (st := [.int (ox.1)]) hK dL_law_786 cv_RL_74 iv_yX7_years (As := [.int (xs 1)]) (kX7_years _ d hm rr rl rg rw none none none (fun _ => 0) (fun _ => 0) (fun _ => 0) (fun _ _ => 0) (fun _ => 0) (fun _ => 0) (fun _ => 0) 0 (fun _ => 0) 0 (fun _ _ => 0) (fillV 12 9 (fun _ => 0)) (va_up (va_up (va_up (fun _ => 0) 0 1) 1 1) 2 1) 0 (fun _ _ => 0) 0 (fun _ _ => 0) 10 0 0 0 0 0 0 0 (fun _ => 0) 0 (fun _ => 0) (fun _ => 0) 0 (fun _ => 0) 0 0 (fun _ => 0) (fun _ => 0) (xs 1) hom) (fun _ => rfl) rfl rfl (Nat.le_of_ble_eq_true rfl) (by decide) 0 0 rfl rfl rfl [0] [1, 2, 3, 4] rfl rfl rfl rfl rfl rfl rfl ?_
  refine J_icmp_eq (tg := 1595) hK dL_law_789 rfl rfl (fun _ => ?_) (fun h => absurd he h)
  exact J_nil (tail (by decide) (by decide))

set_option maxHeartbeats 4000000 in
set_option maxRecDepth 100000 in
theorem cs_13 {d : DT} {Φ : JC} {nm : String} (hK : Ok d Φ RL nm cL_law 4 (some .boolean) room_1) {b : Nat} {xs : Nat → Int32} (hX : Scr Φ b 7 xs) (h0 : Nat → Nat) (h1 : Nat → Nat) (h2 : Nat → Nat) (h3 : Nat → Nat) (h4 : Nat → Nat) (h6 : Nat → Nat) (h7 : Nat → Nat) (h8 : Nat → Nat) (h9 : Nat → Nat) (h10 : Nat → Nat) (rE hm rr rl rg rw : Nat → Nat) (tail : ∀ {ce sl : Nat}, ce ≤ 600000 → sl ≤ 7302250 → J d Φ 4 [] ce sl 1595 [(3, .int 0), (2, .ref (hm 0)), (1, .ref (h0 0)), (0, .ref b)] []) : J d Φ 4 [gTw d h0 (h1 0) (h2 0) (h3 0) (h4 0) (h6 0) (h7 0) (fun _ => 0) 0 0 0, gLd d h1 0 0 0 10 (fun _ => 0) (fun _ => 0) (fun _ => 0) (fillV 12 9 (fun _ => 0)) (fillV 3 1 (fun _ => 0)) (fun _ => 0) 0, gLd d h2 0 0 0 10 (fun _ => 0) (fun _ => 0) (fun _ => 0) (fillV 12 9 (fun _ => 0)) (fillV 3 1 (fun _ => 0)) (fun _ => 0) 0, gTp d h3 (fun _ => 0) 0 0 0 0 0, gSh d h4 rE (fillV 8 (-1) (fun _ => 0)) (fun _ => 0), gridJ d rE 8 40 (fun _ _ => 0), gCh d h6 (h7 0) (h9 0) (h10 0) (fun _ => 0), gTr d h7 (h8 0) (fun _ => 0) (fun _ => 0) 0 0, gWy d h8 (fun _ => 0) (fun _ => 0) (fun _ => 0) (fun _ => 0) (fun _ => 0) (fun _ => 0) (fun _ => 0) (fun _ => 0) 0 (fun _ => 0) 0 0 0 (-1), gLd d h9 0 0 0 10 (fun _ => 0) (fun _ => 0) (fun _ => 0) (fillV 12 9 (fun _ => 0)) (fillV 3 1 (fun _ => 0)) (fun _ => 0) 0, gLd d h10 0 0 0 10 (fun _ => 0) (fun _ => 0) (fun _ => 0) (fillV 12 9 (fun _ => 0)) (fillV 3 1 (fun _ => 0)) (fun _ => 0) 0, gMd d hm none none none rr rl rg rw (fun _ => 0) (fun _ => 0) (fun _ => 0) (fun _ => 0) (fun _ => 0) (fun _ => 0) 0 (fun _ => 0) 0 (fillV 12 9 (fun _ => 0)) (va_up (va_up (va_up (fun _ => 0) 0 1) 1 1) 2 1) 0 0 10 0 0 0 0 0 0 0 (fun _ => 0) 0 (fun _ => 0) (fun _ => 0) 0 (fun _ => 0) 0 0 (fun _ => 0) (fun _ => 0), gridJ d rr 8 40 (fun _ _ => 0), gridI d rl 20 7 (fun _ _ => 0), gridI d rg 8 3 (fun _ _ => 0), gridI d rw 7 5 (fun _ _ => 0)] 122 3685 794 [(3, .int 0), (2, .ref (hm 0)), (1, .ref (h0 0)), (0, .ref b)] [] := by
  refine J_aload_n hK dL_law_794 rfl 2 rfl rfl ?_
  refine J_aload_n hK dL_law_795 rfl 3 rfl rfl ?_
  refine J_iload_n hK dL_law_796 rfl 0 rfl rfl ?_
  refine J_iconst (v := 1) hK dL_law_797 rfl (by decide) ?_
  refine J_iadd hK dL_law_798 rfl ?_
  refine J_sld (v := xs 1) hK hX dL_law_799 rfl rfl ?_
  refine J_aload_n hK dL_law_800 rfl 3 rfl rfl ?_
  refine J_iload_n hK dL_law_801 rfl 0 rfl rfl ?_
  refine J_iconst (v := 2) hK dL_law_802 rfl (by decide) ?_
  refine J_iadd hK dL_law_803 rfl ?_
  refine J_sld (v := xs 2) hK hX dL_law_804 rfl rfl ?_
  refine J_if_eq (tg := 812) hK dL_law_805 rfl rfl (fun hz => ?_) (fun hz => ?_)
  · refine J_iconst (v := 0) hK dL_law_812 rfl (by decide) ?_
    obtain ⟨ox, om, hx, hom, he⟩ := pe_13 (xs 1) (0)
    refine J_callVd (ce' := 122) (sl' := 3685) (gr := [gLd d h2 0 0 0 10 (fun _ => 0) (fun _ => 0) (fun _ => 0) (fillV 12 9 (fun _ => 0)) (fillV 3 1 (fun _ => 0)) (fun _ => 0) 0, gTp d h3 (fun _ => 0) 0 0 0 0 0, gSh d h4 rE (fillV 8 (-1) (fun _ => 0)) (fun _ => 0), gridJ d rE 8 40 (fun _ _ => 0), gCh d h6 (h7 0) (h9 0) (h10 0) (fun _ => 0), gTr d h7 (h8 0) (fun _ => 0) (fun _ => 0) 0 0, gWy d h8 (fun _ => 0) (fun _ => 0) (fun _ => 0) (fun _ => 0) (fun _ => 0) (fun _ => 0) (fun _ => 0) (fun _ => 0) 0 (fun _ => 0) 0 0 0 (-1), gLd d h9 0 0 0 10 (fun _ => 0) (fun _ => 0) (fun _ => 0) (fillV 12 9 (fun _ => 0)) (fillV 3 1 (fun _ => 0)) (fun _ => 0) 0, gLd d h10 0 0 0 10 (fun _ => 0) (fun _ => 0) (fun _ => 0) (fillV 12 9 (fun _ => 0)) (fillV 3 1 (fun _ => 0)) (fun _ => 0) 0, gMd d hm none none none rr rl rg rw (fun _ => 0) (fun _ => 0) (fun _ => 0) (fun _ => 0) (fun _ => 0) (fun _ => 0) 0 (fun _ => 0) 0 (fillV 12 9 (fun _ => 0)) (va_up (va_up (va_up (fun _ => 0) 0 1) 1 1) 2 1) 0 0 10 0 0 0 0 0 0 0 (fun _ => 0) 0 (fun _ => 0) (fun _ => 0) 0 (fun _ => 0) 0 0 (fun _ => 0) (fun _ => 0), gridJ d rr 8 40 (fun _ _ => 0), gridI d rl 20 7 (fun _ _ => 0), gridI d rg 8 3 (fun _ _ => 0), gridI d rw 7 5 (fun _ _ => 0)]) (v := .int (ox.1)) (st := []) hK dL_law_813 cv_RL_75 iv_yX6_washed (As := [.int (xs 1), .int (0)]) (kX6_washed _ d h0 (h2 0) (h3 0) (h4 0) (h6 0) (h7 0) h1 (fun _ => 0) 0 0 0 0 0 0 10 (fun _ => 0) (fun _ => 0) (fun _ => 0) (fillV 12 9 (fun _ => 0)) (fillV 3 1 (fun _ => 0)) (fun _ => 0) 0 (xs 1) (0) hx) (fun _ => rfl) rfl rfl (Nat.le_of_ble_eq_true rfl) (by decide) 0 0 rfl rfl rfl [0, 1] [2, 3, 4, 5, 6, 7, 8, 9, 10, 11, 12, 13, 14, 15] rfl rfl rfl rfl rfl rfl rfl ?_
    refine J_drp (gs2 := [gMd d hm none none none rr rl rg rw (fun _ => 0) (fun _ => 0) (fun _ => 0) (fun _ => 0) (fun _ => 0) (fun _ => 0) 0 (fun _ => 0) 0 (fillV 12 9 (fun _ => 0)) (va_up (va_up (va_up (fun _ => 0) 0 1) 1 1) 2 1) 0 0 10 0 0 0 0 0 0 0 (fun _ => 0) 0 (fun _ => 0) (fun _ => 0) 0 (fun _ => 0) 0 0 (fun _ => 0) (fun _ => 0), gridJ d rr 8 40 (fun _ _ => 0), gridI d rl 20 7 (fun _ _ => 0), gridI d rg 8 3 (fun _ _ => 0), gridI d rw 7 5 (fun _ _ => 0)]) 9 rfl ?_
    refine J_aload_n hK dL_law_816 rfl 1 rfl rfl ?_
    refine J_aload_n hK dL_law_817 rfl 3 rfl rfl ?_
    refine J_iload_n hK dL_law_818 rfl 0 rfl rfl ?_
    refine J_iconst (v := 1) hK dL_law_819 rfl (by decide) ?_
    refine J_iadd hK dL_law_820 rfl ?_
    refine J_sld (v := xs 1) hK hX dL_law_821 rfl rfl ?_
    refine J_aload_n hK dL_law_822 rfl 3 rfl rfl ?_
    refine J_iload_n hK dL_law_823 rfl 0 rfl rfl ?_
    refine J_iconst (v := 2) hK dL_law_824 rfl (by decide) ?_
    refine J_iadd hK dL_law_825 rfl ?_
    refine J_sld (v := xs 2) hK hX dL_law_826 rfl rfl ?_
    refine J_if_eq (tg := 834) hK dL_law_827 rfl rfl (fun _ => ?_) (fun h => absurd hz h)
    refine J_iconst (v := 0) hK dL_law_834 rfl (by decide) ?_
    refine J_callVd (ce' := 122) (sl' := 3685) (gr := [gridJ d rr 8 40 (fun _ _ => 0), gridI d rg 8 3 (fun _ _ => 0), gridI d rw 7 5 (fun _ _ => 0)]) (v := .int (om.1)) (st := [.int (ox.1)]) hK dL_law_835 cv_RL_79 iv_yX7_washed (As := [.int (xs 1), .int (0)]) (kX7_washed _ d hm rr rl rg rw none none none (fun _ => 0) (fun _ => 0) (fun _ => 0) (fun _ _ => 0) (fun _ => 0) (fun _ => 0) (fun _ => 0) 0 (fun _ => 0) 0 (fun _ _ => 0) (fillV 12 9 (fun _ => 0)) (va_up (va_up (va_up (fun _ => 0) 0 1) 1 1) 2 1) 0 (fun _ _ => 0) 0 (fun _ _ => 0) 10 0 0 0 0 0 0 0 (fun _ => 0) 0 (fun _ => 0) (fun _ => 0) 0 (fun _ => 0) 0 0 (fun _ => 0) (fun _ => 0) (xs 1) (0) hom) (fun _ => rfl) rfl rfl (Nat.le_of_ble_eq_true rfl) (by decide) 0 0 rfl rfl rfl [0, 2] [1, 3, 4] rfl rfl rfl rfl rfl rfl rfl ?_
    refine J_icmp_eq (tg := 1595) hK dL_law_838 rfl rfl (fun _ => ?_) (fun h => absurd he h)
    exact J_nil (tail (by decide) (by decide))
  · refine J_iconst (v := 1) hK dL_law_808 rfl (by decide) ?_
    refine J_goto hK dL_law_809 (n := 813) rfl ?_
    obtain ⟨ox, om, hx, hom, he⟩ := pe_13 (xs 1) (1)
    refine J_callVd (ce' := 122) (sl' := 3685) (gr := [gLd d h2 0 0 0 10 (fun _ => 0) (fun _ => 0) (fun _ => 0) (fillV 12 9 (fun _ => 0)) (fillV 3 1 (fun _ => 0)) (fun _ => 0) 0, gTp d h3 (fun _ => 0) 0 0 0 0 0, gSh d h4 rE (fillV 8 (-1) (fun _ => 0)) (fun _ => 0), gridJ d rE 8 40 (fun _ _ => 0), gCh d h6 (h7 0) (h9 0) (h10 0) (fun _ => 0), gTr d h7 (h8 0) (fun _ => 0) (fun _ => 0) 0 0, gWy d h8 (fun _ => 0) (fun _ => 0) (fun _ => 0) (fun _ => 0) (fun _ => 0) (fun _ => 0) (fun _ => 0) (fun _ => 0) 0 (fun _ => 0) 0 0 0 (-1), gLd d h9 0 0 0 10 (fun _ => 0) (fun _ => 0) (fun _ => 0) (fillV 12 9 (fun _ => 0)) (fillV 3 1 (fun _ => 0)) (fun _ => 0) 0, gLd d h10 0 0 0 10 (fun _ => 0) (fun _ => 0) (fun _ => 0) (fillV 12 9 (fun _ => 0)) (fillV 3 1 (fun _ => 0)) (fun _ => 0) 0, gMd d hm none none none rr rl rg rw (fun _ => 0) (fun _ => 0) (fun _ => 0) (fun _ => 0) (fun _ => 0) (fun _ => 0) 0 (fun _ => 0) 0 (fillV 12 9 (fun _ => 0)) (va_up (va_up (va_up (fun _ => 0) 0 1) 1 1) 2 1) 0 0 10 0 0 0 0 0 0 0 (fun _ => 0) 0 (fun _ => 0) (fun _ => 0) 0 (fun _ => 0) 0 0 (fun _ => 0) (fun _ => 0), gridJ d rr 8 40 (fun _ _ => 0), gridI d rl 20 7 (fun _ _ => 0), gridI d rg 8 3 (fun _ _ => 0), gridI d rw 7 5 (fun _ _ => 0)]) (v := .int (ox.1)) (st := []) hK dL_law_813 cv_RL_75 iv_yX6_washed (As := [.int (xs 1), .int (1)]) (kX6_washed _ d h0 (h2 0) (h3 0) (h4 0) (h6 0) (h7 0) h1 (fun _ => 0) 0 0 0 0 0 0 10 (fun _ => 0) (fun _ => 0) (fun _ => 0) (fillV 12 9 (fun _ => 0)) (fillV 3 1 (fun _ => 0)) (fun _ => 0) 0 (xs 1) (1) hx) (fun _ => rfl) rfl rfl (Nat.le_of_ble_eq_true rfl) (by decide) 0 0 rfl rfl rfl [0, 1] [2, 3, 4, 5, 6, 7, 8, 9, 10, 11, 12, 13, 14, 15] rfl rfl rfl rfl rfl rfl rfl ?_
    refine J_drp (gs2 := [gMd d hm none none none rr rl rg rw (fun _ => 0) (fun _ => 0) (fun _ => 0) (fun _ => 0) (fun _ => 0) (fun _ => 0) 0 (fun _ => 0) 0 (fillV 12 9 (fun _ => 0)) (va_up (va_up (va_up (fun _ => 0) 0 1) 1 1) 2 1) 0 0 10 0 0 0 0 0 0 0 (fun _ => 0) 0 (fun _ => 0) (fun _ => 0) 0 (fun _ => 0) 0 0 (fun _ => 0) (fun _ => 0), gridJ d rr 8 40 (fun _ _ => 0), gridI d rl 20 7 (fun _ _ => 0), gridI d rg 8 3 (fun _ _ => 0), gridI d rw 7 5 (fun _ _ => 0)]) 9 rfl ?_
    refine J_aload_n hK dL_law_816 rfl 1 rfl rfl ?_
    refine J_aload_n hK dL_law_817 rfl 3 rfl rfl ?_
    refine J_iload_n hK dL_law_818 rfl 0 rfl rfl ?_
    refine J_iconst (v := 1) hK dL_law_819 rfl (by decide) ?_
    refine J_iadd hK dL_law_820 rfl ?_
    refine J_sld (v := xs 1) hK hX dL_law_821 rfl rfl ?_
    refine J_aload_n hK dL_law_822 rfl 3 rfl rfl ?_
    refine J_iload_n hK dL_law_823 rfl 0 rfl rfl ?_
    refine J_iconst (v := 2) hK dL_law_824 rfl (by decide) ?_
    refine J_iadd hK dL_law_825 rfl ?_
    refine J_sld (v := xs 2) hK hX dL_law_826 rfl rfl ?_
    refine J_if_eq (tg := 834) hK dL_law_827 rfl rfl (fun h => absurd h hz) (fun _ => ?_)
    refine J_iconst (v := 1) hK dL_law_830 rfl (by decide) ?_
    refine J_goto hK dL_law_831 (n := 835) rfl ?_
    refine J_callVd (ce' := 122) (sl' := 3685) (gr := [gridJ d rr 8 40 (fun _ _ => 0), gridI d rg 8 3 (fun _ _ => 0), gridI d rw 7 5 (fun _ _ => 0)]) (v := .int (om.1)) (st := [.int (ox.1)]) hK dL_law_835 cv_RL_79 iv_yX7_washed (As := [.int (xs 1), .int (1)]) (kX7_washed _ d hm rr rl rg rw none none none (fun _ => 0) (fun _ => 0) (fun _ => 0) (fun _ _ => 0) (fun _ => 0) (fun _ => 0) (fun _ => 0) 0 (fun _ => 0) 0 (fun _ _ => 0) (fillV 12 9 (fun _ => 0)) (va_up (va_up (va_up (fun _ => 0) 0 1) 1 1) 2 1) 0 (fun _ _ => 0) 0 (fun _ _ => 0) 10 0 0 0 0 0 0 0 (fun _ => 0) 0 (fun _ => 0) (fun _ => 0) 0 (fun _ => 0) 0 0 (fun _ => 0) (fun _ => 0) (xs 1) (1) hom) (fun _ => rfl) rfl rfl (Nat.le_of_ble_eq_true rfl) (by decide) 0 0 rfl rfl rfl [0, 2] [1, 3, 4] rfl rfl rfl rfl rfl rfl rfl ?_
    refine J_icmp_eq (tg := 1595) hK dL_law_838 rfl rfl (fun _ => ?_) (fun h => absurd he h)
    exact J_nil (tail (by decide) (by decide))

set_option maxHeartbeats 4000000 in
set_option maxRecDepth 100000 in
theorem cs_14 {d : DT} {Φ : JC} {nm : String} (hK : Ok d Φ RL nm cL_law 4 (some .boolean) room_1) {b : Nat} {xs : Nat → Int32} (hX : Scr Φ b 7 xs) (h0 : Nat → Nat) (h1 : Nat → Nat) (h2 : Nat → Nat) (h3 : Nat → Nat) (h4 : Nat → Nat) (h6 : Nat → Nat) (h7 : Nat → Nat) (h8 : Nat → Nat) (h9 : Nat → Nat) (h10 : Nat → Nat) (rE hm rr rl rg rw : Nat → Nat) (tail : ∀ {ce sl : Nat}, ce ≤ 600000 → sl ≤ 7302250 → J d Φ 4 [] ce sl 1595 [(3, .int 0), (2, .ref (hm 0)), (1, .ref (h0 0)), (0, .ref b)] []) : J d Φ 4 [gTw d h0 (h1 0) (h2 0) (h3 0) (h4 0) (h6 0) (h7 0) (fun _ => 0) 0 0 0, gLd d h1 0 0 0 10 (fun _ => 0) (fun _ => 0) (fun _ => 0) (fillV 12 9 (fun _ => 0)) (fillV 3 1 (fun _ => 0)) (fun _ => 0) 0, gLd d h2 0 0 0 10 (fun _ => 0) (fun _ => 0) (fun _ => 0) (fillV 12 9 (fun _ => 0)) (fillV 3 1 (fun _ => 0)) (fun _ => 0) 0, gTp d h3 (fun _ => 0) 0 0 0 0 0, gSh d h4 rE (fillV 8 (-1) (fun _ => 0)) (fun _ => 0), gridJ d rE 8 40 (fun _ _ => 0), gCh d h6 (h7 0) (h9 0) (h10 0) (fun _ => 0), gTr d h7 (h8 0) (fun _ => 0) (fun _ => 0) 0 0, gWy d h8 (fun _ => 0) (fun _ => 0) (fun _ => 0) (fun _ => 0) (fun _ => 0) (fun _ => 0) (fun _ => 0) (fun _ => 0) 0 (fun _ => 0) 0 0 0 (-1), gLd d h9 0 0 0 10 (fun _ => 0) (fun _ => 0) (fun _ => 0) (fillV 12 9 (fun _ => 0)) (fillV 3 1 (fun _ => 0)) (fun _ => 0) 0, gLd d h10 0 0 0 10 (fun _ => 0) (fun _ => 0) (fun _ => 0) (fillV 12 9 (fun _ => 0)) (fillV 3 1 (fun _ => 0)) (fun _ => 0) 0, gMd d hm none none none rr rl rg rw (fun _ => 0) (fun _ => 0) (fun _ => 0) (fun _ => 0) (fun _ => 0) (fun _ => 0) 0 (fun _ => 0) 0 (fillV 12 9 (fun _ => 0)) (va_up (va_up (va_up (fun _ => 0) 0 1) 1 1) 2 1) 0 0 10 0 0 0 0 0 0 0 (fun _ => 0) 0 (fun _ => 0) (fun _ => 0) 0 (fun _ => 0) 0 0 (fun _ => 0) (fun _ => 0), gridJ d rr 8 40 (fun _ _ => 0), gridI d rl 20 7 (fun _ _ => 0), gridI d rg 8 3 (fun _ _ => 0), gridI d rw 7 5 (fun _ _ => 0)] 122 3685 843 [(3, .int 0), (2, .ref (hm 0)), (1, .ref (h0 0)), (0, .ref b)] [] := by
  refine J_aload_n hK dL_law_843 rfl 2 rfl rfl ?_
  refine J_aload_n hK dL_law_844 rfl 3 rfl rfl ?_
  refine J_iload_n hK dL_law_845 rfl 0 rfl rfl ?_
  refine J_iconst (v := 1) hK dL_law_846 rfl (by decide) ?_
  refine J_iadd hK dL_law_847 rfl ?_
  refine J_sld (v := xs 1) hK hX dL_law_848 rfl rfl ?_
  refine J_aload_n hK dL_law_849 rfl 3 rfl rfl ?_
  refine J_iload_n hK dL_law_850 rfl 0 rfl rfl ?_
  refine J_iconst (v := 2) hK dL_law_851 rfl (by decide) ?_
  refine J_iadd hK dL_law_852 rfl ?_
  refine J_sld (v := xs 2) hK hX dL_law_853 rfl rfl ?_
  obtain ⟨ox, om, hx, hom, he⟩ := pe_14 (xs 1) (xs 2)
  refine J_callVd (ce' := 122) (sl' := 3685) (gr := [gLd d h1 0 0 0 10 (fun _ => 0) (fun _ => 0) (fun _ => 0) (fillV 12 9 (fun _ => 0)) (fillV 3 1 (fun _ => 0)) (fun _ => 0) 0, gLd d h2 0 0 0 10 (fun _ => 0) (fun _ => 0) (fun _ => 0) (fillV 12 9 (fun _ => 0)) (fillV 3 1 (fun _ => 0)) (fun _ => 0) 0, gSh d h4 rE (fillV 8 (-1) (fun _ => 0)) (fun _ => 0), gridJ d rE 8 40 (fun _ _ => 0), gCh d h6 (h7 0) (h9 0) (h10 0) (fun _ => 0), gTr d h7 (h8 0) (fun _ => 0) (fun _ => 0) 0 0, gWy d h8 (fun _ => 0) (fun _ => 0) (fun _ => 0) (fun _ => 0) (fun _ => 0) (fun _ => 0) (fun _ => 0) (fun _ => 0) 0 (fun _ => 0) 0 0 0 (-1), gLd d h9 0 0 0 10 (fun _ => 0) (fun _ => 0) (fun _ => 0) (fillV 12 9 (fun _ => 0)) (fillV 3 1 (fun _ => 0)) (fun _ => 0) 0, gLd d h10 0 0 0 10 (fun _ => 0) (fun _ => 0) (fun _ => 0) (fillV 12 9 (fun _ => 0)) (fillV 3 1 (fun _ => 0)) (fun _ => 0) 0, gMd d hm none none none rr rl rg rw (fun _ => 0) (fun _ => 0) (fun _ => 0) (fun _ => 0) (fun _ => 0) (fun _ => 0) 0 (fun _ => 0) 0 (fillV 12 9 (fun _ => 0)) (va_up (va_up (va_up (fun _ => 0) 0 1) 1 1) 2 1) 0 0 10 0 0 0 0 0 0 0 (fun _ => 0) 0 (fun _ => 0) (fun _ => 0) 0 (fun _ => 0) 0 0 (fun _ => 0) (fun _ => 0), gridJ d rr 8 40 (fun _ _ => 0), gridI d rl 20 7 (fun _ _ => 0), gridI d rg 8 3 (fun _ _ => 0), gridI d rw 7 5 (fun _ _ => 0)]) (v := .int (ox.1)) (st := []) hK dL_law_854 cv_RL_80 iv_yX6_feed (As := [.int (xs 1), .int (xs 2)]) (kX6_feed _ d h0 (h1 0) (h2 0) (h4 0) (h6 0) (h7 0) h3 1000 (fun _ => 0) 0 0 0 (fun _ => 0) 0 0 0 0 0 (xs 1) (xs 2) hx) (fun _ => rfl) rfl rfl (Nat.le_of_ble_eq_true rfl) (by decide) 0 0 rfl rfl rfl [0, 3] [1, 2, 4, 5, 6, 7, 8, 9, 10, 11, 12, 13, 14, 15] rfl rfl rfl rfl rfl rfl rfl ?_
  refine J_drp (gs2 := [gMd d hm none none none rr rl rg rw (fun _ => 0) (fun _ => 0) (fun _ => 0) (fun _ => 0) (fun _ => 0) (fun _ => 0) 0 (fun _ => 0) 0 (fillV 12 9 (fun _ => 0)) (va_up (va_up (va_up (fun _ => 0) 0 1) 1 1) 2 1) 0 0 10 0 0 0 0 0 0 0 (fun _ => 0) 0 (fun _ => 0) (fun _ => 0) 0 (fun _ => 0) 0 0 (fun _ => 0) (fun _ => 0), gridJ d rr 8 40 (fun _ _ => 0), gridI d rl 20 7 (fun _ _ => 0), gridI d rg 8 3 (fun _ _ => 0), gridI d rw 7 5 (fun _ _ => 0)]) 9 rfl ?_
  refine J_aload_n hK dL_law_857 rfl 1 rfl rfl ?_
  refine J_aload_n hK dL_law_858 rfl 3 rfl rfl ?_
  refine J_iload_n hK dL_law_859 rfl 0 rfl rfl ?_
  refine J_iconst (v := 1) hK dL_law_860 rfl (by decide) ?_
  refine J_iadd hK dL_law_861 rfl ?_
  refine J_sld (v := xs 1) hK hX dL_law_862 rfl rfl ?_
  refine J_aload_n hK dL_law_863 rfl 3 rfl rfl ?_
  refine J_iload_n hK dL_law_864 rfl 0 rfl rfl ?_
  refine J_iconst (v := 2) hK dL_law_865 rfl (by decide) ?_
  refine J_iadd hK dL_law_866 rfl ?_
  refine J_sld (v := xs 2) hK hX dL_law_867 rfl rfl ?_
  refine J_callVd (ce' := 122) (sl' := 3685) (gr := [gridJ d rr 8 40 (fun _ _ => 0), gridI d rl 20 7 (fun _ _ => 0), gridI d rg 8 3 (fun _ _ => 0), gridI d rw 7 5 (fun _ _ => 0)]) (v := .int (om.1)) (st := [.int (ox.1)]) hK dL_law_868 cv_RL_83 iv_yX7_feed (As := [.int (xs 1), .int (xs 2)]) (kX7_feed _ d hm rr rl rg rw none none none 1000 (fun _ => 0) (fun _ => 0) (fun _ => 0) (fun _ _ => 0) (fun _ => 0) (fun _ => 0) (fun _ => 0) 0 (fun _ => 0) 0 (fun _ _ => 0) (fillV 12 9 (fun _ => 0)) (va_up (va_up (va_up (fun _ => 0) 0 1) 1 1) 2 1) 0 (fun _ _ => 0) 0 (fun _ _ => 0) 10 0 0 0 0 0 0 0 (fun _ => 0) 0 (fun _ => 0) (fun _ => 0) 0 (fun _ => 0) 0 0 (fun _ => 0) (fun _ => 0) (xs 1) (xs 2) hom) (fun _ => rfl) rfl rfl (Nat.le_of_ble_eq_true rfl) (by decide) 0 0 rfl rfl rfl [0] [1, 2, 3, 4] rfl rfl rfl rfl rfl rfl rfl ?_
  refine J_icmp_eq (tg := 1595) hK dL_law_871 rfl rfl (fun _ => ?_) (fun h => absurd he h)
  exact J_nil (tail (by decide) (by decide))

set_option maxHeartbeats 4000000 in
set_option maxRecDepth 100000 in
theorem cs_15 {d : DT} {Φ : JC} {nm : String} (hK : Ok d Φ RL nm cL_law 4 (some .boolean) room_1) {b : Nat} {xs : Nat → Int32} (hX : Scr Φ b 7 xs) (h0 : Nat → Nat) (h1 : Nat → Nat) (h2 : Nat → Nat) (h3 : Nat → Nat) (h4 : Nat → Nat) (h6 : Nat → Nat) (h7 : Nat → Nat) (h8 : Nat → Nat) (h9 : Nat → Nat) (h10 : Nat → Nat) (rE hm rr rl rg rw : Nat → Nat) (tail : ∀ {ce sl : Nat}, ce ≤ 600000 → sl ≤ 7302250 → J d Φ 4 [] ce sl 1595 [(3, .int 0), (2, .ref (hm 0)), (1, .ref (h0 0)), (0, .ref b)] []) : J d Φ 4 [gTw d h0 (h1 0) (h2 0) (h3 0) (h4 0) (h6 0) (h7 0) (fun _ => 0) 0 0 0, gLd d h1 0 0 0 10 (fun _ => 0) (fun _ => 0) (fun _ => 0) (fillV 12 9 (fun _ => 0)) (fillV 3 1 (fun _ => 0)) (fun _ => 0) 0, gLd d h2 0 0 0 10 (fun _ => 0) (fun _ => 0) (fun _ => 0) (fillV 12 9 (fun _ => 0)) (fillV 3 1 (fun _ => 0)) (fun _ => 0) 0, gTp d h3 (fun _ => 0) 0 0 0 0 0, gSh d h4 rE (fillV 8 (-1) (fun _ => 0)) (fun _ => 0), gridJ d rE 8 40 (fun _ _ => 0), gCh d h6 (h7 0) (h9 0) (h10 0) (fun _ => 0), gTr d h7 (h8 0) (fun _ => 0) (fun _ => 0) 0 0, gWy d h8 (fun _ => 0) (fun _ => 0) (fun _ => 0) (fun _ => 0) (fun _ => 0) (fun _ => 0) (fun _ => 0) (fun _ => 0) 0 (fun _ => 0) 0 0 0 (-1), gLd d h9 0 0 0 10 (fun _ => 0) (fun _ => 0) (fun _ => 0) (fillV 12 9 (fun _ => 0)) (fillV 3 1 (fun _ => 0)) (fun _ => 0) 0, gLd d h10 0 0 0 10 (fun _ => 0) (fun _ => 0) (fun _ => 0) (fillV 12 9 (fun _ => 0)) (fillV 3 1 (fun _ => 0)) (fun _ => 0) 0, gMd d hm none none none rr rl rg rw (fun _ => 0) (fun _ => 0) (fun _ => 0) (fun _ => 0) (fun _ => 0) (fun _ => 0) 0 (fun _ => 0) 0 (fillV 12 9 (fun _ => 0)) (va_up (va_up (va_up (fun _ => 0) 0 1) 1 1) 2 1) 0 0 10 0 0 0 0 0 0 0 (fun _ => 0) 0 (fun _ => 0) (fun _ => 0) 0 (fun _ => 0) 0 0 (fun _ => 0) (fun _ => 0), gridJ d rr 8 40 (fun _ _ => 0), gridI d rl 20 7 (fun _ _ => 0), gridI d rg 8 3 (fun _ _ => 0), gridI d rw 7 5 (fun _ _ => 0)] 122 3685 876 [(3, .int 0), (2, .ref (hm 0)), (1, .ref (h0 0)), (0, .ref b)] [] := by
  refine J_aload_n hK dL_law_876 rfl 2 rfl rfl ?_
  obtain ⟨ox, om, hx, hom, he⟩ := pe_15 
  refine J_callVd (ce' := 122) (sl' := 3685) (gr := [gLd d h1 0 0 0 10 (fun _ => 0) (fun _ => 0) (fun _ => 0) (fillV 12 9 (fun _ => 0)) (fillV 3 1 (fun _ => 0)) (fun _ => 0) 0, gLd d h2 0 0 0 10 (fun _ => 0) (fun _ => 0) (fun _ => 0) (fillV 12 9 (fun _ => 0)) (fillV 3 1 (fun _ => 0)) (fun _ => 0) 0, gSh d h4 rE (fillV 8 (-1) (fun _ => 0)) (fun _ => 0), gridJ d rE 8 40 (fun _ _ => 0), gCh d h6 (h7 0) (h9 0) (h10 0) (fun _ => 0), gTr d h7 (h8 0) (fun _ => 0) (fun _ => 0) 0 0, gWy d h8 (fun _ => 0) (fun _ => 0) (fun _ => 0) (fun _ => 0) (fun _ => 0) (fun _ => 0) (fun _ => 0) (fun _ => 0) 0 (fun _ => 0) 0 0 0 (-1), gLd d h9 0 0 0 10 (fun _ => 0) (fun _ => 0) (fun _ => 0) (fillV 12 9 (fun _ => 0)) (fillV 3 1 (fun _ => 0)) (fun _ => 0) 0, gLd d h10 0 0 0 10 (fun _ => 0) (fun _ => 0) (fun _ => 0) (fillV 12 9 (fun _ => 0)) (fillV 3 1 (fun _ => 0)) (fun _ => 0) 0, gMd d hm none none none rr rl rg rw (fun _ => 0) (fun _ => 0) (fun _ => 0) (fun _ => 0) (fun _ => 0) (fun _ => 0) 0 (fun _ => 0) 0 (fillV 12 9 (fun _ => 0)) (va_up (va_up (va_up (fun _ => 0) 0 1) 1 1) 2 1) 0 0 10 0 0 0 0 0 0 0 (fun _ => 0) 0 (fun _ => 0) (fun _ => 0) 0 (fun _ => 0) 0 0 (fun _ => 0) (fun _ => 0), gridJ d rr 8 40 (fun _ _ => 0), gridI d rl 20 7 (fun _ _ => 0), gridI d rg 8 3 (fun _ _ => 0), gridI d rw 7 5 (fun _ _ => 0)]) (v := .int (ox.1)) (st := []) hK dL_law_877 cv_RL_84 iv_yX6_wipe (As := []) (kX6_wipe _ d h0 (h1 0) (h2 0) (h4 0) (h6 0) (h7 0) h3 (fun _ => 0) 0 0 0 (fun _ => 0) 0 0 0 0 0 hx) (fun _ => rfl) rfl rfl (Nat.le_of_ble_eq_true rfl) (by decide) 0 0 rfl rfl rfl [0, 3] [1, 2, 4, 5, 6, 7, 8, 9, 10, 11, 12, 13, 14, 15] rfl rfl rfl rfl rfl rfl rfl ?_
  refine J_drp (gs2 := [gMd d hm none none none rr rl rg rw (fun _ => 0) (fun _ => 0) (fun _ => 0) (fun _ => 0) (fun _ => 0) (fun _ => 0) 0 (fun _ => 0) 0 (fillV 12 9 (fun _ => 0)) (va_up (va_up (va_up (fun _ => 0) 0 1) 1 1) 2 1) 0 0 10 0 0 0 0 0 0 0 (fun _ => 0) 0 (fun _ => 0) (fun _ => 0) 0 (fun _ => 0) 0 0 (fun _ => 0) (fun _ => 0), gridJ d rr 8 40 (fun _ _ => 0), gridI d rl 20 7 (fun _ _ => 0), gridI d rg 8 3 (fun _ _ => 0), gridI d rw 7 5 (fun _ _ => 0)]) 9 rfl ?_
  refine J_aload_n hK dL_law_880 rfl 1 rfl rfl ?_
  refine J_callVd (ce' := 122) (sl' := 3685) (gr := [gridJ d rr 8 40 (fun _ _ => 0), gridI d rl 20 7 (fun _ _ => 0), gridI d rg 8 3 (fun _ _ => 0), gridI d rw 7 5 (fun _ _ => 0)]) (v := .int (om.1)) (st := [.int (ox.1)]) hK dL_law_881 cv_RL_88 iv_yX7_wipe (As := []) (kX7_wipe _ d hm rr rl rg rw none none none (fun _ => 0) (fun _ => 0) (fun _ => 0) (fun _ _ => 0) (fun _ => 0) (fun _ => 0) (fun _ => 0) 0 (fun _ => 0) 0 (fun _ _ => 0) (fillV 12 9 (fun _ => 0)) (va_up (va_up (va_up (fun _ => 0) 0 1) 1 1) 2 1) 0 (fun _ _ => 0) 0 (fun _ _ => 0) 10 0 0 0 0 0 0 0 (fun _ => 0) 0 (fun _ => 0) (fun _ => 0) 0 (fun _ => 0) 0 0 (fun _ => 0) (fun _ => 0) hom) (fun _ => rfl) rfl rfl (Nat.le_of_ble_eq_true rfl) (by decide) 0 0 rfl rfl rfl [0] [1, 2, 3, 4] rfl rfl rfl rfl rfl rfl rfl ?_
  refine J_icmp_eq (tg := 1595) hK dL_law_884 rfl rfl (fun _ => ?_) (fun h => absurd he h)
  exact J_nil (tail (by decide) (by decide))

set_option maxHeartbeats 4000000 in
set_option maxRecDepth 100000 in
theorem cs_16 {d : DT} {Φ : JC} {nm : String} (hK : Ok d Φ RL nm cL_law 4 (some .boolean) room_1) {b : Nat} {xs : Nat → Int32} (hX : Scr Φ b 7 xs) (h0 : Nat → Nat) (h1 : Nat → Nat) (h2 : Nat → Nat) (h3 : Nat → Nat) (h4 : Nat → Nat) (h6 : Nat → Nat) (h7 : Nat → Nat) (h8 : Nat → Nat) (h9 : Nat → Nat) (h10 : Nat → Nat) (rE hm rr rl rg rw : Nat → Nat) (tail : ∀ {ce sl : Nat}, ce ≤ 600000 → sl ≤ 7302250 → J d Φ 4 [] ce sl 1595 [(3, .int 0), (2, .ref (hm 0)), (1, .ref (h0 0)), (0, .ref b)] []) : J d Φ 4 [gTw d h0 (h1 0) (h2 0) (h3 0) (h4 0) (h6 0) (h7 0) (fun _ => 0) 0 0 0, gLd d h1 0 0 0 10 (fun _ => 0) (fun _ => 0) (fun _ => 0) (fillV 12 9 (fun _ => 0)) (fillV 3 1 (fun _ => 0)) (fun _ => 0) 0, gLd d h2 0 0 0 10 (fun _ => 0) (fun _ => 0) (fun _ => 0) (fillV 12 9 (fun _ => 0)) (fillV 3 1 (fun _ => 0)) (fun _ => 0) 0, gTp d h3 (fun _ => 0) 0 0 0 0 0, gSh d h4 rE (fillV 8 (-1) (fun _ => 0)) (fun _ => 0), gridJ d rE 8 40 (fun _ _ => 0), gCh d h6 (h7 0) (h9 0) (h10 0) (fun _ => 0), gTr d h7 (h8 0) (fun _ => 0) (fun _ => 0) 0 0, gWy d h8 (fun _ => 0) (fun _ => 0) (fun _ => 0) (fun _ => 0) (fun _ => 0) (fun _ => 0) (fun _ => 0) (fun _ => 0) 0 (fun _ => 0) 0 0 0 (-1), gLd d h9 0 0 0 10 (fun _ => 0) (fun _ => 0) (fun _ => 0) (fillV 12 9 (fun _ => 0)) (fillV 3 1 (fun _ => 0)) (fun _ => 0) 0, gLd d h10 0 0 0 10 (fun _ => 0) (fun _ => 0) (fun _ => 0) (fillV 12 9 (fun _ => 0)) (fillV 3 1 (fun _ => 0)) (fun _ => 0) 0, gMd d hm none none none rr rl rg rw (fun _ => 0) (fun _ => 0) (fun _ => 0) (fun _ => 0) (fun _ => 0) (fun _ => 0) 0 (fun _ => 0) 0 (fillV 12 9 (fun _ => 0)) (va_up (va_up (va_up (fun _ => 0) 0 1) 1 1) 2 1) 0 0 10 0 0 0 0 0 0 0 (fun _ => 0) 0 (fun _ => 0) (fun _ => 0) 0 (fun _ => 0) 0 0 (fun _ => 0) (fun _ => 0), gridJ d rr 8 40 (fun _ _ => 0), gridI d rl 20 7 (fun _ _ => 0), gridI d rg 8 3 (fun _ _ => 0), gridI d rw 7 5 (fun _ _ => 0)] 122 3685 889 [(3, .int 0), (2, .ref (hm 0)), (1, .ref (h0 0)), (0, .ref b)] [] := by
  refine J_aload_n hK dL_law_889 rfl 2 rfl rfl ?_
  obtain ⟨ox, om, hx, hom, he⟩ := pe_16 
  refine J_callVd (ce' := 122) (sl' := 3685) (gr := [gLd d h2 0 0 0 10 (fun _ => 0) (fun _ => 0) (fun _ => 0) (fillV 12 9 (fun _ => 0)) (fillV 3 1 (fun _ => 0)) (fun _ => 0) 0, gSh d h4 rE (fillV 8 (-1) (fun _ => 0)) (fun _ => 0), gridJ d rE 8 40 (fun _ _ => 0), gTr d h7 (h8 0) (fun _ => 0) (fun _ => 0) 0 0, gWy d h8 (fun _ => 0) (fun _ => 0) (fun _ => 0) (fun _ => 0) (fun _ => 0) (fun _ => 0) (fun _ => 0) (fun _ => 0) 0 (fun _ => 0) 0 0 0 (-1), gLd d h10 0 0 0 10 (fun _ => 0) (fun _ => 0) (fun _ => 0) (fillV 12 9 (fun _ => 0)) (fillV 3 1 (fun _ => 0)) (fun _ => 0) 0, gMd d hm none none none rr rl rg rw (fun _ => 0) (fun _ => 0) (fun _ => 0) (fun _ => 0) (fun _ => 0) (fun _ => 0) 0 (fun _ => 0) 0 (fillV 12 9 (fun _ => 0)) (va_up (va_up (va_up (fun _ => 0) 0 1) 1 1) 2 1) 0 0 10 0 0 0 0 0 0 0 (fun _ => 0) 0 (fun _ => 0) (fun _ => 0) 0 (fun _ => 0) 0 0 (fun _ => 0) (fun _ => 0), gridJ d rr 8 40 (fun _ _ => 0), gridI d rl 20 7 (fun _ _ => 0), gridI d rg 8 3 (fun _ _ => 0), gridI d rw 7 5 (fun _ _ => 0)]) (v := .int (ox.1)) (st := []) hK dL_law_890 cv_RL_89 iv_yX6_land (As := []) (kX6_land _ d h0 (h2 0) (h4 0) (h7 0) h6 (h7 0) (h10 0) h9 h1 h3 1000 (fun _ => 0) 0 0 0 (fun _ => 0) 0 0 0 10 (fun _ => 0) (fun _ => 0) (fun _ => 0) (fillV 12 9 (fun _ => 0)) (fillV 3 1 (fun _ => 0)) (fun _ => 0) 0 0 0 0 10 (fun _ => 0) (fun _ => 0) (fun _ => 0) (fillV 12 9 (fun _ => 0)) (fillV 3 1 (fun _ => 0)) (fun _ => 0) 0 (fun _ => 0) 0 0 0 0 0 hx) (fun _ => rfl) rfl rfl (Nat.le_of_ble_eq_true rfl) (by decide) 0 0 rfl rfl rfl [0, 6, 9, 1, 3] [2, 4, 5, 7, 8, 10, 11, 12, 13, 14, 15] rfl rfl rfl rfl rfl rfl rfl ?_
  refine J_drp (gs2 := [gMd d hm none none none rr rl rg rw (fun _ => 0) (fun _ => 0) (fun _ => 0) (fun _ => 0) (fun _ => 0) (fun _ => 0) 0 (fun _ => 0) 0 (fillV 12 9 (fun _ => 0)) (va_up (va_up (va_up (fun _ => 0) 0 1) 1 1) 2 1) 0 0 10 0 0 0 0 0 0 0 (fun _ => 0) 0 (fun _ => 0) (fun _ => 0) 0 (fun _ => 0) 0 0 (fun _ => 0) (fun _ => 0), gridJ d rr 8 40 (fun _ _ => 0), gridI d rl 20 7 (fun _ _ => 0), gridI d rg 8 3 (fun _ _ => 0), gridI d rw 7 5 (fun _ _ => 0)]) 6 rfl ?_
  refine J_aload_n hK dL_law_893 rfl 1 rfl rfl ?_
  refine J_callVd (ce' := 185) (sl' := 4889) (gr := [gridJ d rr 8 40 (fun _ _ => 0)]) (v := .int (om.1)) (st := [.int (ox.1)]) hK dL_law_894 cv_RL_92 iv_yX7_land (As := []) (kX7_landNt _ d hm rr rl rg rw none none 1000 (fun _ => 0) (fun _ => 0) (fun _ => 0) (fun _ _ => 0) (fun _ => 0) (fun _ => 0) (fun _ => 0) 0 (fun _ => 0) 0 (fun _ _ => 0) (fillV 12 9 (fun _ => 0)) (va_up (va_up (va_up (fun _ => 0) 0 1) 1 1) 2 1) 0 (fun _ _ => 0) 0 (fun _ _ => 0) 10 0 0 0 0 0 0 0 (fun _ => 0) 0 (fun _ => 0) (fun _ => 0) 0 (fun _ => 0) 0 0 (fun _ => 0) (fun _ => 0) hom) (fun _ => rfl) rfl rfl (Nat.le_of_ble_eq_true rfl) (by decide) 0 0 rfl rfl rfl [0, 2, 3, 4] [1] rfl rfl rfl rfl rfl rfl rfl ?_
  refine J_icmp_eq (tg := 1595) hK dL_law_897 rfl rfl (fun _ => ?_) (fun h => absurd he h)
  exact J_nil (tail (by decide) (by decide))

set_option maxHeartbeats 4000000 in
set_option maxRecDepth 100000 in
theorem cs_17 {d : DT} {Φ : JC} {nm : String} (hK : Ok d Φ RL nm cL_law 4 (some .boolean) room_1) {b : Nat} {xs : Nat → Int32} (hX : Scr Φ b 7 xs) (h0 : Nat → Nat) (h1 : Nat → Nat) (h2 : Nat → Nat) (h3 : Nat → Nat) (h4 : Nat → Nat) (h6 : Nat → Nat) (h7 : Nat → Nat) (h8 : Nat → Nat) (h9 : Nat → Nat) (h10 : Nat → Nat) (rE hm rr rl rg rw : Nat → Nat) (tail : ∀ {ce sl : Nat}, ce ≤ 600000 → sl ≤ 7302250 → J d Φ 4 [] ce sl 1595 [(3, .int 0), (2, .ref (hm 0)), (1, .ref (h0 0)), (0, .ref b)] []) : J d Φ 4 [gTw d h0 (h1 0) (h2 0) (h3 0) (h4 0) (h6 0) (h7 0) (fun _ => 0) 0 0 0, gLd d h1 0 0 0 10 (fun _ => 0) (fun _ => 0) (fun _ => 0) (fillV 12 9 (fun _ => 0)) (fillV 3 1 (fun _ => 0)) (fun _ => 0) 0, gLd d h2 0 0 0 10 (fun _ => 0) (fun _ => 0) (fun _ => 0) (fillV 12 9 (fun _ => 0)) (fillV 3 1 (fun _ => 0)) (fun _ => 0) 0, gTp d h3 (fun _ => 0) 0 0 0 0 0, gSh d h4 rE (fillV 8 (-1) (fun _ => 0)) (fun _ => 0), gridJ d rE 8 40 (fun _ _ => 0), gCh d h6 (h7 0) (h9 0) (h10 0) (fun _ => 0), gTr d h7 (h8 0) (fun _ => 0) (fun _ => 0) 0 0, gWy d h8 (fun _ => 0) (fun _ => 0) (fun _ => 0) (fun _ => 0) (fun _ => 0) (fun _ => 0) (fun _ => 0) (fun _ => 0) 0 (fun _ => 0) 0 0 0 (-1), gLd d h9 0 0 0 10 (fun _ => 0) (fun _ => 0) (fun _ => 0) (fillV 12 9 (fun _ => 0)) (fillV 3 1 (fun _ => 0)) (fun _ => 0) 0, gLd d h10 0 0 0 10 (fun _ => 0) (fun _ => 0) (fun _ => 0) (fillV 12 9 (fun _ => 0)) (fillV 3 1 (fun _ => 0)) (fun _ => 0) 0, gMd d hm none none none rr rl rg rw (fun _ => 0) (fun _ => 0) (fun _ => 0) (fun _ => 0) (fun _ => 0) (fun _ => 0) 0 (fun _ => 0) 0 (fillV 12 9 (fun _ => 0)) (va_up (va_up (va_up (fun _ => 0) 0 1) 1 1) 2 1) 0 0 10 0 0 0 0 0 0 0 (fun _ => 0) 0 (fun _ => 0) (fun _ => 0) 0 (fun _ => 0) 0 0 (fun _ => 0) (fun _ => 0), gridJ d rr 8 40 (fun _ _ => 0), gridI d rl 20 7 (fun _ _ => 0), gridI d rg 8 3 (fun _ _ => 0), gridI d rw 7 5 (fun _ _ => 0)] 122 3685 902 [(3, .int 0), (2, .ref (hm 0)), (1, .ref (h0 0)), (0, .ref b)] [] := by
  refine J_aload_n hK dL_law_902 rfl 2 rfl rfl ?_
  refine J_aload_n hK dL_law_903 rfl 3 rfl rfl ?_
  refine J_iload_n hK dL_law_904 rfl 0 rfl rfl ?_
  refine J_iconst (v := 1) hK dL_law_905 rfl (by decide) ?_
  refine J_iadd hK dL_law_906 rfl ?_
  refine J_sld (v := xs 1) hK hX dL_law_907 rfl rfl ?_
  refine J_aload_n hK dL_law_908 rfl 3 rfl rfl ?_
  refine J_iload_n hK dL_law_909 rfl 0 rfl rfl ?_
  refine J_iconst (v := 2) hK dL_law_910 rfl (by decide) ?_
  refine J_iadd hK dL_law_911 rfl ?_
  refine J_sld (v := xs 2) hK hX dL_law_912 rfl rfl ?_
  obtain ⟨ox, om, hx, hom, he⟩ := pe_17 (xs 1) (xs 2)
  refine J_callVd (ce' := 122) (sl' := 3685) (gr := [gLd d h2 0 0 0 10 (fun _ => 0) (fun _ => 0) (fun _ => 0) (fillV 12 9 (fun _ => 0)) (fillV 3 1 (fun _ => 0)) (fun _ => 0) 0, gTp d h3 (fun _ => 0) 0 0 0 0 0, gSh d h4 rE (fillV 8 (-1) (fun _ => 0)) (fun _ => 0), gridJ d rE 8 40 (fun _ _ => 0), gCh d h6 (h7 0) (h9 0) (h10 0) (fun _ => 0), gTr d h7 (h8 0) (fun _ => 0) (fun _ => 0) 0 0, gWy d h8 (fun _ => 0) (fun _ => 0) (fun _ => 0) (fun _ => 0) (fun _ => 0) (fun _ => 0) (fun _ => 0) (fun _ => 0) 0 (fun _ => 0) 0 0 0 (-1), gLd d h9 0 0 0 10 (fun _ => 0) (fun _ => 0) (fun _ => 0) (fillV 12 9 (fun _ => 0)) (fillV 3 1 (fun _ => 0)) (fun _ => 0) 0, gLd d h10 0 0 0 10 (fun _ => 0) (fun _ => 0) (fun _ => 0) (fillV 12 9 (fun _ => 0)) (fillV 3 1 (fun _ => 0)) (fun _ => 0) 0, gMd d hm none none none rr rl rg rw (fun _ => 0) (fun _ => 0) (fun _ => 0) (fun _ => 0) (fun _ => 0) (fun _ => 0) 0 (fun _ => 0) 0 (fillV 12 9 (fun _ => 0)) (va_up (va_up (va_up (fun _ => 0) 0 1) 1 1) 2 1) 0 0 10 0 0 0 0 0 0 0 (fun _ => 0) 0 (fun _ => 0) (fun _ => 0) 0 (fun _ => 0) 0 0 (fun _ => 0) (fun _ => 0), gridJ d rr 8 40 (fun _ _ => 0), gridI d rl 20 7 (fun _ _ => 0), gridI d rg 8 3 (fun _ _ => 0), gridI d rw 7 5 (fun _ _ => 0)]) (v := .int (ox.1)) (st := []) hK dL_law_913 cv_RL_93 iv_yX6_lineOf (As := [.int (xs 1), .int (xs 2)]) (kX6_lineOf _ d h0 (h2 0) (h3 0) (h4 0) (h6 0) (h7 0) h1 (fun _ => 0) 0 0 0 0 0 0 10 (fun _ => 0) (fun _ => 0) (fun _ => 0) (fillV 12 9 (fun _ => 0)) (fillV 3 1 (fun _ => 0)) (fun _ => 0) 0 (xs 1) (xs 2) hx) (fun _ => rfl) rfl rfl (Nat.le_of_ble_eq_true rfl) (by decide) 0 0 rfl rfl rfl [0, 1] [2, 3, 4, 5, 6, 7, 8, 9, 10, 11, 12, 13, 14, 15] rfl rfl rfl rfl rfl rfl rfl ?_
  refine J_drp (gs2 := [gMd d hm none none none rr rl rg rw (fun _ => 0) (fun _ => 0) (fun _ => 0) (fun _ => 0) (fun _ => 0) (fun _ => 0) 0 (fun _ => 0) 0 (fillV 12 9 (fun _ => 0)) (va_up (va_up (va_up (fun _ => 0) 0 1) 1 1) 2 1) 0 0 10 0 0 0 0 0 0 0 (fun _ => 0) 0 (fun _ => 0) (fun _ => 0) 0 (fun _ => 0) 0 0 (fun _ => 0) (fun _ => 0), gridJ d rr 8 40 (fun _ _ => 0), gridI d rl 20 7 (fun _ _ => 0), gridI d rg 8 3 (fun _ _ => 0), gridI d rw 7 5 (fun _ _ => 0)]) 9 rfl ?_
  refine J_aload_n hK dL_law_916 rfl 1 rfl rfl ?_
  refine J_aload_n hK dL_law_917 rfl 3 rfl rfl ?_
  refine J_iload_n hK dL_law_918 rfl 0 rfl rfl ?_
  refine J_iconst (v := 1) hK dL_law_919 rfl (by decide) ?_
  refine J_iadd hK dL_law_920 rfl ?_
  refine J_sld (v := xs 1) hK hX dL_law_921 rfl rfl ?_
  refine J_aload_n hK dL_law_922 rfl 3 rfl rfl ?_
  refine J_iload_n hK dL_law_923 rfl 0 rfl rfl ?_
  refine J_iconst (v := 2) hK dL_law_924 rfl (by decide) ?_
  refine J_iadd hK dL_law_925 rfl ?_
  refine J_sld (v := xs 2) hK hX dL_law_926 rfl rfl ?_
  refine J_callVd (ce' := 122) (sl' := 3685) (gr := [gridJ d rr 8 40 (fun _ _ => 0), gridI d rg 8 3 (fun _ _ => 0), gridI d rw 7 5 (fun _ _ => 0)]) (v := .int (om.1)) (st := [.int (ox.1)]) hK dL_law_927 cv_RL_96 iv_yX7_lineOf (As := [.int (xs 1), .int (xs 2)]) (kX7_lineOf _ d hm rr rl rg rw none none none (fun _ => 0) (fun _ => 0) (fun _ => 0) (fun _ _ => 0) (fun _ => 0) (fun _ => 0) (fun _ => 0) 0 (fun _ => 0) 0 (fun _ _ => 0) (fillV 12 9 (fun _ => 0)) (va_up (va_up (va_up (fun _ => 0) 0 1) 1 1) 2 1) 0 (fun _ _ => 0) 0 (fun _ _ => 0) 10 0 0 0 0 0 0 0 (fun _ => 0) 0 (fun _ => 0) (fun _ => 0) 0 (fun _ => 0) 0 0 (fun _ => 0) (fun _ => 0) (xs 1) (xs 2) hom) (fun _ => rfl) rfl rfl (Nat.le_of_ble_eq_true rfl) (by decide) 0 0 rfl rfl rfl [0, 2] [1, 3, 4] rfl rfl rfl rfl rfl rfl rfl ?_
  refine J_icmp_eq (tg := 1595) hK dL_law_930 rfl rfl (fun _ => ?_) (fun h => absurd he h)
  exact J_nil (tail (by decide) (by decide))

set_option maxHeartbeats 4000000 in
set_option maxRecDepth 100000 in
theorem cs_18 {d : DT} {Φ : JC} {nm : String} (hK : Ok d Φ RL nm cL_law 4 (some .boolean) room_1) {b : Nat} {xs : Nat → Int32} (hX : Scr Φ b 7 xs) (h0 : Nat → Nat) (h1 : Nat → Nat) (h2 : Nat → Nat) (h3 : Nat → Nat) (h4 : Nat → Nat) (h6 : Nat → Nat) (h7 : Nat → Nat) (h8 : Nat → Nat) (h9 : Nat → Nat) (h10 : Nat → Nat) (rE hm rr rl rg rw : Nat → Nat) (tail : ∀ {ce sl : Nat}, ce ≤ 600000 → sl ≤ 7302250 → J d Φ 4 [] ce sl 1595 [(3, .int 0), (2, .ref (hm 0)), (1, .ref (h0 0)), (0, .ref b)] []) : J d Φ 4 [gTw d h0 (h1 0) (h2 0) (h3 0) (h4 0) (h6 0) (h7 0) (fun _ => 0) 0 0 0, gLd d h1 0 0 0 10 (fun _ => 0) (fun _ => 0) (fun _ => 0) (fillV 12 9 (fun _ => 0)) (fillV 3 1 (fun _ => 0)) (fun _ => 0) 0, gLd d h2 0 0 0 10 (fun _ => 0) (fun _ => 0) (fun _ => 0) (fillV 12 9 (fun _ => 0)) (fillV 3 1 (fun _ => 0)) (fun _ => 0) 0, gTp d h3 (fun _ => 0) 0 0 0 0 0, gSh d h4 rE (fillV 8 (-1) (fun _ => 0)) (fun _ => 0), gridJ d rE 8 40 (fun _ _ => 0), gCh d h6 (h7 0) (h9 0) (h10 0) (fun _ => 0), gTr d h7 (h8 0) (fun _ => 0) (fun _ => 0) 0 0, gWy d h8 (fun _ => 0) (fun _ => 0) (fun _ => 0) (fun _ => 0) (fun _ => 0) (fun _ => 0) (fun _ => 0) (fun _ => 0) 0 (fun _ => 0) 0 0 0 (-1), gLd d h9 0 0 0 10 (fun _ => 0) (fun _ => 0) (fun _ => 0) (fillV 12 9 (fun _ => 0)) (fillV 3 1 (fun _ => 0)) (fun _ => 0) 0, gLd d h10 0 0 0 10 (fun _ => 0) (fun _ => 0) (fun _ => 0) (fillV 12 9 (fun _ => 0)) (fillV 3 1 (fun _ => 0)) (fun _ => 0) 0, gMd d hm none none none rr rl rg rw (fun _ => 0) (fun _ => 0) (fun _ => 0) (fun _ => 0) (fun _ => 0) (fun _ => 0) 0 (fun _ => 0) 0 (fillV 12 9 (fun _ => 0)) (va_up (va_up (va_up (fun _ => 0) 0 1) 1 1) 2 1) 0 0 10 0 0 0 0 0 0 0 (fun _ => 0) 0 (fun _ => 0) (fun _ => 0) 0 (fun _ => 0) 0 0 (fun _ => 0) (fun _ => 0), gridJ d rr 8 40 (fun _ _ => 0), gridI d rl 20 7 (fun _ _ => 0), gridI d rg 8 3 (fun _ _ => 0), gridI d rw 7 5 (fun _ _ => 0)] 122 3685 935 [(3, .int 0), (2, .ref (hm 0)), (1, .ref (h0 0)), (0, .ref b)] [] := by
  refine J_aload_n hK dL_law_935 rfl 2 rfl rfl ?_
  refine J_aload_n hK dL_law_936 rfl 3 rfl rfl ?_
  refine J_iload_n hK dL_law_937 rfl 0 rfl rfl ?_
  refine J_iconst (v := 1) hK dL_law_938 rfl (by decide) ?_
  refine J_iadd hK dL_law_939 rfl ?_
  refine J_sld (v := xs 1) hK hX dL_law_940 rfl rfl ?_
  refine J_aload_n hK dL_law_941 rfl 3 rfl rfl ?_
  refine J_iload_n hK dL_law_942 rfl 0 rfl rfl ?_
  refine J_iconst (v := 2) hK dL_law_943 rfl (by decide) ?_
  refine J_iadd hK dL_law_944 rfl ?_
  refine J_sld (v := xs 2) hK hX dL_law_945 rfl rfl ?_
  obtain ⟨ox, om, hx, hom, he⟩ := pe_18 (xs 1) (xs 2)
  refine J_callVd (ce' := 122) (sl' := 3685) (gr := [gLd d h2 0 0 0 10 (fun _ => 0) (fun _ => 0) (fun _ => 0) (fillV 12 9 (fun _ => 0)) (fillV 3 1 (fun _ => 0)) (fun _ => 0) 0, gTp d h3 (fun _ => 0) 0 0 0 0 0, gSh d h4 rE (fillV 8 (-1) (fun _ => 0)) (fun _ => 0), gridJ d rE 8 40 (fun _ _ => 0), gCh d h6 (h7 0) (h9 0) (h10 0) (fun _ => 0), gTr d h7 (h8 0) (fun _ => 0) (fun _ => 0) 0 0, gWy d h8 (fun _ => 0) (fun _ => 0) (fun _ => 0) (fun _ => 0) (fun _ => 0) (fun _ => 0) (fun _ => 0) (fun _ => 0) 0 (fun _ => 0) 0 0 0 (-1), gLd d h9 0 0 0 10 (fun _ => 0) (fun _ => 0) (fun _ => 0) (fillV 12 9 (fun _ => 0)) (fillV 3 1 (fun _ => 0)) (fun _ => 0) 0, gLd d h10 0 0 0 10 (fun _ => 0) (fun _ => 0) (fun _ => 0) (fillV 12 9 (fun _ => 0)) (fillV 3 1 (fun _ => 0)) (fun _ => 0) 0, gMd d hm none none none rr rl rg rw (fun _ => 0) (fun _ => 0) (fun _ => 0) (fun _ => 0) (fun _ => 0) (fun _ => 0) 0 (fun _ => 0) 0 (fillV 12 9 (fun _ => 0)) (va_up (va_up (va_up (fun _ => 0) 0 1) 1 1) 2 1) 0 0 10 0 0 0 0 0 0 0 (fun _ => 0) 0 (fun _ => 0) (fun _ => 0) 0 (fun _ => 0) 0 0 (fun _ => 0) (fun _ => 0), gridJ d rr 8 40 (fun _ _ => 0), gridI d rl 20 7 (fun _ _ => 0), gridI d rg 8 3 (fun _ _ => 0), gridI d rw 7 5 (fun _ _ => 0)]) (v := .int (ox.1)) (st := []) hK dL_law_946 cv_RL_97 iv_yX6_goodsOf (As := [.int (xs 1), .int (xs 2)]) (kX6_goodsOf _ d h0 (h2 0) (h3 0) (h4 0) (h6 0) (h7 0) h1 (fun _ => 0) 0 0 0 0 0 0 10 (fun _ => 0) (fun _ => 0) (fun _ => 0) (fillV 12 9 (fun _ => 0)) (fillV 3 1 (fun _ => 0)) (fun _ => 0) 0 (xs 1) (xs 2) hx) (fun _ => rfl) rfl rfl (Nat.le_of_ble_eq_true rfl) (by decide) 0 0 rfl rfl rfl [0, 1] [2, 3, 4, 5, 6, 7, 8, 9, 10, 11, 12, 13, 14, 15] rfl rfl rfl rfl rfl rfl rfl ?_
  refine J_drp (gs2 := [gMd d hm none none none rr rl rg rw (fun _ => 0) (fun _ => 0) (fun _ => 0) (fun _ => 0) (fun _ => 0) (fun _ => 0) 0 (fun _ => 0) 0 (fillV 12 9 (fun _ => 0)) (va_up (va_up (va_up (fun _ => 0) 0 1) 1 1) 2 1) 0 0 10 0 0 0 0 0 0 0 (fun _ => 0) 0 (fun _ => 0) (fun _ => 0) 0 (fun _ => 0) 0 0 (fun _ => 0) (fun _ => 0), gridJ d rr 8 40 (fun _ _ => 0), gridI d rl 20 7 (fun _ _ => 0), gridI d rg 8 3 (fun _ _ => 0), gridI d rw 7 5 (fun _ _ => 0)]) 9 rfl ?_
  refine J_aload_n hK dL_law_949 rfl 1 rfl rfl ?_
  refine J_aload_n hK dL_law_950 rfl 3 rfl rfl ?_
  refine J_iload_n hK dL_law_951 rfl 0 rfl rfl ?_
  refine J_iconst (v := 1) hK dL_law_952 rfl (by decide) ?_
  refine J_iadd hK dL_law_953 rfl ?_
  refine J_sld (v := xs 1) hK hX dL_law_954 rfl rfl ?_
  refine J_aload_n hK dL_law_955 rfl 3 rfl rfl ?_
  refine J_iload_n hK dL_law_956 rfl 0 rfl rfl ?_
  refine J_iconst (v := 2) hK dL_law_957 rfl (by decide) ?_
  refine J_iadd hK dL_law_958 rfl ?_
  refine J_sld (v := xs 2) hK hX dL_law_959 rfl rfl ?_
  refine J_callVd (ce' := 122) (sl' := 3685) (gr := [gridJ d rr 8 40 (fun _ _ => 0), gridI d rl 20 7 (fun _ _ => 0), gridI d rw 7 5 (fun _ _ => 0)]) (v := .int (om.1)) (st := [.int (ox.1)]) hK dL_law_960 cv_RL_100 iv_yX7_goodsOf (As := [.int (xs 1), .int (xs 2)]) (kX7_goodsOf _ d hm rr rl rg rw none none none (fun _ => 0) (fun _ => 0) (fun _ => 0) (fun _ _ => 0) (fun _ => 0) (fun _ => 0) (fun _ => 0) 0 (fun _ => 0) 0 (fun _ _ => 0) (fillV 12 9 (fun _ => 0)) (va_up (va_up (va_up (fun _ => 0) 0 1) 1 1) 2 1) 0 (fun _ _ => 0) 0 (fun _ _ => 0) 10 0 0 0 0 0 0 0 (fun _ => 0) 0 (fun _ => 0) (fun _ => 0) 0 (fun _ => 0) 0 0 (fun _ => 0) (fun _ => 0) (xs 1) (xs 2) hom) (fun _ => rfl) rfl rfl (Nat.le_of_ble_eq_true rfl) (by decide) 0 0 rfl rfl rfl [0, 3] [1, 2, 4] rfl rfl rfl rfl rfl rfl rfl ?_
  refine J_icmp_eq (tg := 1595) hK dL_law_963 rfl rfl (fun _ => ?_) (fun h => absurd he h)
  exact J_nil (tail (by decide) (by decide))

set_option maxHeartbeats 4000000 in
set_option maxRecDepth 100000 in
theorem cs_19 {d : DT} {Φ : JC} {nm : String} (hK : Ok d Φ RL nm cL_law 4 (some .boolean) room_1) {b : Nat} {xs : Nat → Int32} (hX : Scr Φ b 7 xs) (h0 : Nat → Nat) (h1 : Nat → Nat) (h2 : Nat → Nat) (h3 : Nat → Nat) (h4 : Nat → Nat) (h6 : Nat → Nat) (h7 : Nat → Nat) (h8 : Nat → Nat) (h9 : Nat → Nat) (h10 : Nat → Nat) (rE hm rr rl rg rw : Nat → Nat) (tail : ∀ {ce sl : Nat}, ce ≤ 600000 → sl ≤ 7302250 → J d Φ 4 [] ce sl 1595 [(3, .int 0), (2, .ref (hm 0)), (1, .ref (h0 0)), (0, .ref b)] []) : J d Φ 4 [gTw d h0 (h1 0) (h2 0) (h3 0) (h4 0) (h6 0) (h7 0) (fun _ => 0) 0 0 0, gLd d h1 0 0 0 10 (fun _ => 0) (fun _ => 0) (fun _ => 0) (fillV 12 9 (fun _ => 0)) (fillV 3 1 (fun _ => 0)) (fun _ => 0) 0, gLd d h2 0 0 0 10 (fun _ => 0) (fun _ => 0) (fun _ => 0) (fillV 12 9 (fun _ => 0)) (fillV 3 1 (fun _ => 0)) (fun _ => 0) 0, gTp d h3 (fun _ => 0) 0 0 0 0 0, gSh d h4 rE (fillV 8 (-1) (fun _ => 0)) (fun _ => 0), gridJ d rE 8 40 (fun _ _ => 0), gCh d h6 (h7 0) (h9 0) (h10 0) (fun _ => 0), gTr d h7 (h8 0) (fun _ => 0) (fun _ => 0) 0 0, gWy d h8 (fun _ => 0) (fun _ => 0) (fun _ => 0) (fun _ => 0) (fun _ => 0) (fun _ => 0) (fun _ => 0) (fun _ => 0) 0 (fun _ => 0) 0 0 0 (-1), gLd d h9 0 0 0 10 (fun _ => 0) (fun _ => 0) (fun _ => 0) (fillV 12 9 (fun _ => 0)) (fillV 3 1 (fun _ => 0)) (fun _ => 0) 0, gLd d h10 0 0 0 10 (fun _ => 0) (fun _ => 0) (fun _ => 0) (fillV 12 9 (fun _ => 0)) (fillV 3 1 (fun _ => 0)) (fun _ => 0) 0, gMd d hm none none none rr rl rg rw (fun _ => 0) (fun _ => 0) (fun _ => 0) (fun _ => 0) (fun _ => 0) (fun _ => 0) 0 (fun _ => 0) 0 (fillV 12 9 (fun _ => 0)) (va_up (va_up (va_up (fun _ => 0) 0 1) 1 1) 2 1) 0 0 10 0 0 0 0 0 0 0 (fun _ => 0) 0 (fun _ => 0) (fun _ => 0) 0 (fun _ => 0) 0 0 (fun _ => 0) (fun _ => 0), gridJ d rr 8 40 (fun _ _ => 0), gridI d rl 20 7 (fun _ _ => 0), gridI d rg 8 3 (fun _ _ => 0), gridI d rw 7 5 (fun _ _ => 0)] 122 3685 968 [(3, .int 0), (2, .ref (hm 0)), (1, .ref (h0 0)), (0, .ref b)] [] := by
  refine J_aload_n hK dL_law_968 rfl 2 rfl rfl ?_
  refine J_aload_n hK dL_law_969 rfl 3 rfl rfl ?_
  refine J_iload_n hK dL_law_970 rfl 0 rfl rfl ?_
  refine J_iconst (v := 1) hK dL_law_971 rfl (by decide) ?_
  refine J_iadd hK dL_law_972 rfl ?_
  refine J_sld (v := xs 1) hK hX dL_law_973 rfl rfl ?_
  refine J_aload_n hK dL_law_974 rfl 3 rfl rfl ?_
  refine J_iload_n hK dL_law_975 rfl 0 rfl rfl ?_
  refine J_iconst (v := 2) hK dL_law_976 rfl (by decide) ?_
  refine J_iadd hK dL_law_977 rfl ?_
  refine J_sld (v := xs 2) hK hX dL_law_978 rfl rfl ?_
  obtain ⟨ox, om, hx, hom, he⟩ := pe_19 (xs 1) (xs 2)
  refine J_callVd (ce' := 122) (sl' := 3685) (gr := [gLd d h2 0 0 0 10 (fun _ => 0) (fun _ => 0) (fun _ => 0) (fillV 12 9 (fun _ => 0)) (fillV 3 1 (fun _ => 0)) (fun _ => 0) 0, gTp d h3 (fun _ => 0) 0 0 0 0 0, gSh d h4 rE (fillV 8 (-1) (fun _ => 0)) (fun _ => 0), gridJ d rE 8 40 (fun _ _ => 0), gCh d h6 (h7 0) (h9 0) (h10 0) (fun _ => 0), gTr d h7 (h8 0) (fun _ => 0) (fun _ => 0) 0 0, gWy d h8 (fun _ => 0) (fun _ => 0) (fun _ => 0) (fun _ => 0) (fun _ => 0) (fun _ => 0) (fun _ => 0) (fun _ => 0) 0 (fun _ => 0) 0 0 0 (-1), gLd d h9 0 0 0 10 (fun _ => 0) (fun _ => 0) (fun _ => 0) (fillV 12 9 (fun _ => 0)) (fillV 3 1 (fun _ => 0)) (fun _ => 0) 0, gLd d h10 0 0 0 10 (fun _ => 0) (fun _ => 0) (fun _ => 0) (fillV 12 9 (fun _ => 0)) (fillV 3 1 (fun _ => 0)) (fun _ => 0) 0, gMd d hm none none none rr rl rg rw (fun _ => 0) (fun _ => 0) (fun _ => 0) (fun _ => 0) (fun _ => 0) (fun _ => 0) 0 (fun _ => 0) 0 (fillV 12 9 (fun _ => 0)) (va_up (va_up (va_up (fun _ => 0) 0 1) 1 1) 2 1) 0 0 10 0 0 0 0 0 0 0 (fun _ => 0) 0 (fun _ => 0) (fun _ => 0) 0 (fun _ => 0) 0 0 (fun _ => 0) (fun _ => 0), gridJ d rr 8 40 (fun _ _ => 0), gridI d rl 20 7 (fun _ _ => 0), gridI d rg 8 3 (fun _ _ => 0), gridI d rw 7 5 (fun _ _ => 0)]) (v := .int (ox.1)) (st := []) hK dL_law_979 cv_RL_101 iv_yX6_workOf (As := [.int (xs 1), .int (xs 2)]) (kX6_workOf _ d h0 (h2 0) (h3 0) (h4 0) (h6 0) (h7 0) h1 (fun _ => 0) 0 0 0 0 0 0 10 (fun _ => 0) (fun _ => 0) (fun _ => 0) (fillV 12 9 (fun _ => 0)) (fillV 3 1 (fun _ => 0)) (fun _ => 0) 0 (xs 1) (xs 2) hx) (fun _ => rfl) rfl rfl (Nat.le_of_ble_eq_true rfl) (by decide) 0 0 rfl rfl rfl [0, 1] [2, 3, 4, 5, 6, 7, 8, 9, 10, 11, 12, 13, 14, 15] rfl rfl rfl rfl rfl rfl rfl ?_
  refine J_drp (gs2 := [gMd d hm none none none rr rl rg rw (fun _ => 0) (fun _ => 0) (fun _ => 0) (fun _ => 0) (fun _ => 0) (fun _ => 0) 0 (fun _ => 0) 0 (fillV 12 9 (fun _ => 0)) (va_up (va_up (va_up (fun _ => 0) 0 1) 1 1) 2 1) 0 0 10 0 0 0 0 0 0 0 (fun _ => 0) 0 (fun _ => 0) (fun _ => 0) 0 (fun _ => 0) 0 0 (fun _ => 0) (fun _ => 0), gridJ d rr 8 40 (fun _ _ => 0), gridI d rl 20 7 (fun _ _ => 0), gridI d rg 8 3 (fun _ _ => 0), gridI d rw 7 5 (fun _ _ => 0)]) 9 rfl ?_
  refine J_aload_n hK dL_law_982 rfl 1 rfl rfl ?_
  refine J_aload_n hK dL_law_983 rfl 3 rfl rfl ?_
  refine J_iload_n hK dL_law_984 rfl 0 rfl rfl ?_
  refine J_iconst (v := 1) hK dL_law_985 rfl (by decide) ?_
  refine J_iadd hK dL_law_986 rfl ?_
  refine J_sld (v := xs 1) hK hX dL_law_987 rfl rfl ?_
  refine J_aload_n hK dL_law_988 rfl 3 rfl rfl ?_
  refine J_iload_n hK dL_law_989 rfl 0 rfl rfl ?_
  refine J_iconst (v := 2) hK dL_law_990 rfl (by decide) ?_
  refine J_iadd hK dL_law_991 rfl ?_
  refine J_sld (v := xs 2) hK hX dL_law_992 rfl rfl ?_
  refine J_callVd (ce' := 122) (sl' := 3685) (gr := [gridJ d rr 8 40 (fun _ _ => 0), gridI d rl 20 7 (fun _ _ => 0), gridI d rg 8 3 (fun _ _ => 0)]) (v := .int (om.1)) (st := [.int (ox.1)]) hK dL_law_993 cv_RL_104 iv_yX7_workOf (As := [.int (xs 1), .int (xs 2)]) (kX7_workOf _ d hm rr rl rg rw none none none (fun _ => 0) (fun _ => 0) (fun _ => 0) (fun _ _ => 0) (fun _ => 0) (fun _ => 0) (fun _ => 0) 0 (fun _ => 0) 0 (fun _ _ => 0) (fillV 12 9 (fun _ => 0)) (va_up (va_up (va_up (fun _ => 0) 0 1) 1 1) 2 1) 0 (fun _ _ => 0) 0 (fun _ _ => 0) 10 0 0 0 0 0 0 0 (fun _ => 0) 0 (fun _ => 0) (fun _ => 0) 0 (fun _ => 0) 0 0 (fun _ => 0) (fun _ => 0) (xs 1) (xs 2) hom) (fun _ => rfl) rfl rfl (Nat.le_of_ble_eq_true rfl) (by decide) 0 0 rfl rfl rfl [0, 4] [1, 2, 3] rfl rfl rfl rfl rfl rfl rfl ?_
  refine J_icmp_eq (tg := 1595) hK dL_law_996 rfl rfl (fun _ => ?_) (fun h => absurd he h)
  exact J_nil (tail (by decide) (by decide))

set_option maxHeartbeats 4000000 in
set_option maxRecDepth 100000 in
theorem cs_20 {d : DT} {Φ : JC} {nm : String} (hK : Ok d Φ RL nm cL_law 4 (some .boolean) room_1) {b : Nat} {xs : Nat → Int32} (hX : Scr Φ b 7 xs) (h0 : Nat → Nat) (h1 : Nat → Nat) (h2 : Nat → Nat) (h3 : Nat → Nat) (h4 : Nat → Nat) (h6 : Nat → Nat) (h7 : Nat → Nat) (h8 : Nat → Nat) (h9 : Nat → Nat) (h10 : Nat → Nat) (rE hm rr rl rg rw : Nat → Nat) (tail : ∀ {ce sl : Nat}, ce ≤ 600000 → sl ≤ 7302250 → J d Φ 4 [] ce sl 1595 [(3, .int 0), (2, .ref (hm 0)), (1, .ref (h0 0)), (0, .ref b)] []) : J d Φ 4 [gTw d h0 (h1 0) (h2 0) (h3 0) (h4 0) (h6 0) (h7 0) (fun _ => 0) 0 0 0, gLd d h1 0 0 0 10 (fun _ => 0) (fun _ => 0) (fun _ => 0) (fillV 12 9 (fun _ => 0)) (fillV 3 1 (fun _ => 0)) (fun _ => 0) 0, gLd d h2 0 0 0 10 (fun _ => 0) (fun _ => 0) (fun _ => 0) (fillV 12 9 (fun _ => 0)) (fillV 3 1 (fun _ => 0)) (fun _ => 0) 0, gTp d h3 (fun _ => 0) 0 0 0 0 0, gSh d h4 rE (fillV 8 (-1) (fun _ => 0)) (fun _ => 0), gridJ d rE 8 40 (fun _ _ => 0), gCh d h6 (h7 0) (h9 0) (h10 0) (fun _ => 0), gTr d h7 (h8 0) (fun _ => 0) (fun _ => 0) 0 0, gWy d h8 (fun _ => 0) (fun _ => 0) (fun _ => 0) (fun _ => 0) (fun _ => 0) (fun _ => 0) (fun _ => 0) (fun _ => 0) 0 (fun _ => 0) 0 0 0 (-1), gLd d h9 0 0 0 10 (fun _ => 0) (fun _ => 0) (fun _ => 0) (fillV 12 9 (fun _ => 0)) (fillV 3 1 (fun _ => 0)) (fun _ => 0) 0, gLd d h10 0 0 0 10 (fun _ => 0) (fun _ => 0) (fun _ => 0) (fillV 12 9 (fun _ => 0)) (fillV 3 1 (fun _ => 0)) (fun _ => 0) 0, gMd d hm none none none rr rl rg rw (fun _ => 0) (fun _ => 0) (fun _ => 0) (fun _ => 0) (fun _ => 0) (fun _ => 0) 0 (fun _ => 0) 0 (fillV 12 9 (fun _ => 0)) (va_up (va_up (va_up (fun _ => 0) 0 1) 1 1) 2 1) 0 0 10 0 0 0 0 0 0 0 (fun _ => 0) 0 (fun _ => 0) (fun _ => 0) 0 (fun _ => 0) 0 0 (fun _ => 0) (fun _ => 0), gridJ d rr 8 40 (fun _ _ => 0), gridI d rl 20 7 (fun _ _ => 0), gridI d rg 8 3 (fun _ _ => 0), gridI d rw 7 5 (fun _ _ => 0)] 122 3685 1001 [(3, .int 0), (2, .ref (hm 0)), (1, .ref (h0 0)), (0, .ref b)] [] := by
  refine J_aload_n hK dL_law_1001 rfl 2 rfl rfl ?_
  refine J_aload_n hK dL_law_1002 rfl 3 rfl rfl ?_
  refine J_iload_n hK dL_law_1003 rfl 0 rfl rfl ?_
  refine J_iconst (v := 1) hK dL_law_1004 rfl (by decide) ?_
  refine J_iadd hK dL_law_1005 rfl ?_
  refine J_sld (v := xs 1) hK hX dL_law_1006 rfl rfl ?_
  refine J_aload_n hK dL_law_1007 rfl 3 rfl rfl ?_
  refine J_iload_n hK dL_law_1008 rfl 0 rfl rfl ?_
  refine J_iconst (v := 2) hK dL_law_1009 rfl (by decide) ?_
  refine J_iadd hK dL_law_1010 rfl ?_
  refine J_sld (v := xs 2) hK hX dL_law_1011 rfl rfl ?_
  obtain ⟨ox, om, hx, hom, he⟩ := pe_20 (xs 1) (xs 2)
  refine J_callVd (ce' := 122) (sl' := 3685) (gr := [gLd d h2 0 0 0 10 (fun _ => 0) (fun _ => 0) (fun _ => 0) (fillV 12 9 (fun _ => 0)) (fillV 3 1 (fun _ => 0)) (fun _ => 0) 0, gTp d h3 (fun _ => 0) 0 0 0 0 0, gSh d h4 rE (fillV 8 (-1) (fun _ => 0)) (fun _ => 0), gridJ d rE 8 40 (fun _ _ => 0), gCh d h6 (h7 0) (h9 0) (h10 0) (fun _ => 0), gLd d h9 0 0 0 10 (fun _ => 0) (fun _ => 0) (fun _ => 0) (fillV 12 9 (fun _ => 0)) (fillV 3 1 (fun _ => 0)) (fun _ => 0) 0, gLd d h10 0 0 0 10 (fun _ => 0) (fun _ => 0) (fun _ => 0) (fillV 12 9 (fun _ => 0)) (fillV 3 1 (fun _ => 0)) (fun _ => 0) 0, gMd d hm none none none rr rl rg rw (fun _ => 0) (fun _ => 0) (fun _ => 0) (fun _ => 0) (fun _ => 0) (fun _ => 0) 0 (fun _ => 0) 0 (fillV 12 9 (fun _ => 0)) (va_up (va_up (va_up (fun _ => 0) 0 1) 1 1) 2 1) 0 0 10 0 0 0 0 0 0 0 (fun _ => 0) 0 (fun _ => 0) (fun _ => 0) 0 (fun _ => 0) 0 0 (fun _ => 0) (fun _ => 0), gridJ d rr 8 40 (fun _ _ => 0), gridI d rl 20 7 (fun _ _ => 0), gridI d rg 8 3 (fun _ _ => 0), gridI d rw 7 5 (fun _ _ => 0)]) (v := .int (ox.1)) (st := []) hK dL_law_1012 cv_RL_105 iv_yX6_cheapest (As := [.int (xs 1), .int (xs 2)]) (kX6_cheapest _ d h0 (h2 0) (h3 0) (h4 0) (h6 0) h1 h7 h8 1000 (fun _ => 0) 0 0 0 0 0 0 10 (fun _ => 0) (fun _ => 0) (fun _ => 0) (fillV 12 9 (fun _ => 0)) (fillV 3 1 (fun _ => 0)) (fun _ => 0) 0 (fun _ => 0) (fun _ => 0) 0 0 (fun _ => 0) (fun _ => 0) (fun _ => 0) (fun _ => 0) (fun _ => 0) (fun _ => 0) (fun _ => 0) (fun _ => 0) 0 (fun _ => 0) 0 0 0 (-1) (xs 1) (xs 2) hx) (fun _ => rfl) rfl rfl (Nat.le_of_ble_eq_true rfl) (by decide) 0 0 rfl rfl rfl [0, 1, 7, 8] [2, 3, 4, 5, 6, 9, 10, 11, 12, 13, 14, 15] rfl rfl rfl rfl rfl rfl rfl ?_
  refine J_drp (gs2 := [gMd d hm none none none rr rl rg rw (fun _ => 0) (fun _ => 0) (fun _ => 0) (fun _ => 0) (fun _ => 0) (fun _ => 0) 0 (fun _ => 0) 0 (fillV 12 9 (fun _ => 0)) (va_up (va_up (va_up (fun _ => 0) 0 1) 1 1) 2 1) 0 0 10 0 0 0 0 0 0 0 (fun _ => 0) 0 (fun _ => 0) (fun _ => 0) 0 (fun _ => 0) 0 0 (fun _ => 0) (fun _ => 0), gridJ d rr 8 40 (fun _ _ => 0), gridI d rl 20 7 (fun _ _ => 0), gridI d rg 8 3 (fun _ _ => 0), gridI d rw 7 5 (fun _ _ => 0)]) 7 rfl ?_
  refine J_aload_n hK dL_law_1015 rfl 1 rfl rfl ?_
  refine J_aload_n hK dL_law_1016 rfl 3 rfl rfl ?_
  refine J_iload_n hK dL_law_1017 rfl 0 rfl rfl ?_
  refine J_iconst (v := 1) hK dL_law_1018 rfl (by decide) ?_
  refine J_iadd hK dL_law_1019 rfl ?_
  refine J_sld (v := xs 1) hK hX dL_law_1020 rfl rfl ?_
  refine J_aload_n hK dL_law_1021 rfl 3 rfl rfl ?_
  refine J_iload_n hK dL_law_1022 rfl 0 rfl rfl ?_
  refine J_iconst (v := 2) hK dL_law_1023 rfl (by decide) ?_
  refine J_iadd hK dL_law_1024 rfl ?_
  refine J_sld (v := xs 2) hK hX dL_law_1025 rfl rfl ?_
  refine J_callVd (ce' := 122) (sl' := 3685) (gr := [gridJ d rr 8 40 (fun _ _ => 0), gridI d rg 8 3 (fun _ _ => 0), gridI d rw 7 5 (fun _ _ => 0)]) (v := .int (om.1)) (st := [.int (ox.1)]) hK dL_law_1026 cv_RL_108 iv_yX7_cheapest (As := [.int (xs 1), .int (xs 2)]) (kX7_cheapest _ d hm rr rl rg rw none none none 1000 (fun _ => 0) (fun _ => 0) (fun _ => 0) (fun _ _ => 0) (fun _ => 0) (fun _ => 0) (fun _ => 0) 0 (fun _ => 0) 0 (fun _ _ => 0) (fillV 12 9 (fun _ => 0)) (va_up (va_up (va_up (fun _ => 0) 0 1) 1 1) 2 1) 0 (fun _ _ => 0) 0 (fun _ _ => 0) 10 0 0 0 0 0 0 0 (fun _ => 0) 0 (fun _ => 0) (fun _ => 0) 0 (fun _ => 0) 0 0 (fun _ => 0) (fun _ => 0) (xs 1) (xs 2) hom) (fun _ => rfl) rfl rfl (Nat.le_of_ble_eq_true rfl) (by decide) 0 0 rfl rfl rfl [0, 2] [1, 3, 4] rfl rfl rfl rfl rfl rfl rfl ?_
  refine J_icmp_eq (tg := 1595) hK dL_law_1029 rfl rfl (fun _ => ?_) (fun h => absurd he h)
  exact J_nil (tail (by decide) (by decide))

set_option maxHeartbeats 4000000 in
set_option maxRecDepth 100000 in
theorem cs_21 {d : DT} {Φ : JC} {nm : String} (hK : Ok d Φ RL nm cL_law 4 (some .boolean) room_1) {b : Nat} {xs : Nat → Int32} (hX : Scr Φ b 7 xs) (h0 : Nat → Nat) (h1 : Nat → Nat) (h2 : Nat → Nat) (h3 : Nat → Nat) (h4 : Nat → Nat) (h6 : Nat → Nat) (h7 : Nat → Nat) (h8 : Nat → Nat) (h9 : Nat → Nat) (h10 : Nat → Nat) (rE hm rr rl rg rw : Nat → Nat) (tail : ∀ {ce sl : Nat}, ce ≤ 600000 → sl ≤ 7302250 → J d Φ 4 [] ce sl 1595 [(3, .int 0), (2, .ref (hm 0)), (1, .ref (h0 0)), (0, .ref b)] []) : J d Φ 4 [gTw d h0 (h1 0) (h2 0) (h3 0) (h4 0) (h6 0) (h7 0) (fun _ => 0) 0 0 0, gLd d h1 0 0 0 10 (fun _ => 0) (fun _ => 0) (fun _ => 0) (fillV 12 9 (fun _ => 0)) (fillV 3 1 (fun _ => 0)) (fun _ => 0) 0, gLd d h2 0 0 0 10 (fun _ => 0) (fun _ => 0) (fun _ => 0) (fillV 12 9 (fun _ => 0)) (fillV 3 1 (fun _ => 0)) (fun _ => 0) 0, gTp d h3 (fun _ => 0) 0 0 0 0 0, gSh d h4 rE (fillV 8 (-1) (fun _ => 0)) (fun _ => 0), gridJ d rE 8 40 (fun _ _ => 0), gCh d h6 (h7 0) (h9 0) (h10 0) (fun _ => 0), gTr d h7 (h8 0) (fun _ => 0) (fun _ => 0) 0 0, gWy d h8 (fun _ => 0) (fun _ => 0) (fun _ => 0) (fun _ => 0) (fun _ => 0) (fun _ => 0) (fun _ => 0) (fun _ => 0) 0 (fun _ => 0) 0 0 0 (-1), gLd d h9 0 0 0 10 (fun _ => 0) (fun _ => 0) (fun _ => 0) (fillV 12 9 (fun _ => 0)) (fillV 3 1 (fun _ => 0)) (fun _ => 0) 0, gLd d h10 0 0 0 10 (fun _ => 0) (fun _ => 0) (fun _ => 0) (fillV 12 9 (fun _ => 0)) (fillV 3 1 (fun _ => 0)) (fun _ => 0) 0, gMd d hm none none none rr rl rg rw (fun _ => 0) (fun _ => 0) (fun _ => 0) (fun _ => 0) (fun _ => 0) (fun _ => 0) 0 (fun _ => 0) 0 (fillV 12 9 (fun _ => 0)) (va_up (va_up (va_up (fun _ => 0) 0 1) 1 1) 2 1) 0 0 10 0 0 0 0 0 0 0 (fun _ => 0) 0 (fun _ => 0) (fun _ => 0) 0 (fun _ => 0) 0 0 (fun _ => 0) (fun _ => 0), gridJ d rr 8 40 (fun _ _ => 0), gridI d rl 20 7 (fun _ _ => 0), gridI d rg 8 3 (fun _ _ => 0), gridI d rw 7 5 (fun _ _ => 0)] 122 3685 1034 [(3, .int 0), (2, .ref (hm 0)), (1, .ref (h0 0)), (0, .ref b)] [] := by
  refine J_aload_n hK dL_law_1034 rfl 2 rfl rfl ?_
  refine J_aload_n hK dL_law_1035 rfl 3 rfl rfl ?_
  refine J_iload_n hK dL_law_1036 rfl 0 rfl rfl ?_
  refine J_iconst (v := 1) hK dL_law_1037 rfl (by decide) ?_
  refine J_iadd hK dL_law_1038 rfl ?_
  refine J_sld (v := xs 1) hK hX dL_law_1039 rfl rfl ?_
  refine J_aload_n hK dL_law_1040 rfl 3 rfl rfl ?_
  refine J_iload_n hK dL_law_1041 rfl 0 rfl rfl ?_
  refine J_iconst (v := 2) hK dL_law_1042 rfl (by decide) ?_
  refine J_iadd hK dL_law_1043 rfl ?_
  refine J_sld (v := xs 2) hK hX dL_law_1044 rfl rfl ?_
  obtain ⟨ox, om, hx, hom, he⟩ := pe_21 (xs 1) (xs 2)
  refine J_callVd (ce' := 122) (sl' := 3685) (gr := [gLd d h2 0 0 0 10 (fun _ => 0) (fun _ => 0) (fun _ => 0) (fillV 12 9 (fun _ => 0)) (fillV 3 1 (fun _ => 0)) (fun _ => 0) 0, gTp d h3 (fun _ => 0) 0 0 0 0 0, gSh d h4 rE (fillV 8 (-1) (fun _ => 0)) (fun _ => 0), gridJ d rE 8 40 (fun _ _ => 0), gCh d h6 (h7 0) (h9 0) (h10 0) (fun _ => 0), gLd d h9 0 0 0 10 (fun _ => 0) (fun _ => 0) (fun _ => 0) (fillV 12 9 (fun _ => 0)) (fillV 3 1 (fun _ => 0)) (fun _ => 0) 0, gLd d h10 0 0 0 10 (fun _ => 0) (fun _ => 0) (fun _ => 0) (fillV 12 9 (fun _ => 0)) (fillV 3 1 (fun _ => 0)) (fun _ => 0) 0, gMd d hm none none none rr rl rg rw (fun _ => 0) (fun _ => 0) (fun _ => 0) (fun _ => 0) (fun _ => 0) (fun _ => 0) 0 (fun _ => 0) 0 (fillV 12 9 (fun _ => 0)) (va_up (va_up (va_up (fun _ => 0) 0 1) 1 1) 2 1) 0 0 10 0 0 0 0 0 0 0 (fun _ => 0) 0 (fun _ => 0) (fun _ => 0) 0 (fun _ => 0) 0 0 (fun _ => 0) (fun _ => 0), gridJ d rr 8 40 (fun _ _ => 0), gridI d rl 20 7 (fun _ _ => 0), gridI d rg 8 3 (fun _ _ => 0), gridI d rw 7 5 (fun _ _ => 0)]) (v := .int (ox.1)) (st := []) hK dL_law_1045 cv_RL_109 iv_yX6_way (As := [.int (xs 1), .int (xs 2)]) (kX6_way _ d h0 (h2 0) (h3 0) (h4 0) (h6 0) h1 h7 h8 1000 (fun _ => 0) 0 0 0 0 0 0 10 (fun _ => 0) (fun _ => 0) (fun _ => 0) (fillV 12 9 (fun _ => 0)) (fillV 3 1 (fun _ => 0)) (fun _ => 0) 0 (fun _ => 0) (fun _ => 0) 0 0 (fun _ => 0) (fun _ => 0) (fun _ => 0) (fun _ => 0) (fun _ => 0) (fun _ => 0) (fun _ => 0) (fun _ => 0) 0 (fun _ => 0) 0 0 0 (-1) (xs 1) (xs 2) hx) (fun _ => rfl) rfl rfl (Nat.le_of_ble_eq_true rfl) (by decide) 0 0 rfl rfl rfl [0, 1, 7, 8] [2, 3, 4, 5, 6, 9, 10, 11, 12, 13, 14, 15] rfl rfl rfl rfl rfl rfl rfl ?_
  refine J_drp (gs2 := [gMd d hm none none none rr rl rg rw (fun _ => 0) (fun _ => 0) (fun _ => 0) (fun _ => 0) (fun _ => 0) (fun _ => 0) 0 (fun _ => 0) 0 (fillV 12 9 (fun _ => 0)) (va_up (va_up (va_up (fun _ => 0) 0 1) 1 1) 2 1) 0 0 10 0 0 0 0 0 0 0 (fun _ => 0) 0 (fun _ => 0) (fun _ => 0) 0 (fun _ => 0) 0 0 (fun _ => 0) (fun _ => 0), gridJ d rr 8 40 (fun _ _ => 0), gridI d rl 20 7 (fun _ _ => 0), gridI d rg 8 3 (fun _ _ => 0), gridI d rw 7 5 (fun _ _ => 0)]) 7 rfl ?_
  refine J_aload_n hK dL_law_1048 rfl 1 rfl rfl ?_
  refine J_aload_n hK dL_law_1049 rfl 3 rfl rfl ?_
  refine J_iload_n hK dL_law_1050 rfl 0 rfl rfl ?_
  refine J_iconst (v := 1) hK dL_law_1051 rfl (by decide) ?_
  refine J_iadd hK dL_law_1052 rfl ?_
  refine J_sld (v := xs 1) hK hX dL_law_1053 rfl rfl ?_
  refine J_aload_n hK dL_law_1054 rfl 3 rfl rfl ?_
  refine J_iload_n hK dL_law_1055 rfl 0 rfl rfl ?_
  refine J_iconst (v := 2) hK dL_law_1056 rfl (by decide) ?_
  refine J_iadd hK dL_law_1057 rfl ?_
  refine J_sld (v := xs 2) hK hX dL_law_1058 rfl rfl ?_
  refine J_callVd (ce' := 122) (sl' := 3685) (gr := [gridJ d rr 8 40 (fun _ _ => 0), gridI d rw 7 5 (fun _ _ => 0)]) (v := .int (om.1)) (st := [.int (ox.1)]) hK dL_law_1059 cv_RL_112 iv_yX7_way (As := [.int (xs 1), .int (xs 2)]) (kX7_way _ d hm rr rl rg rw none none none 1000 (fun _ => 0) (fun _ => 0) (fun _ => 0) (fun _ _ => 0) (fun _ => 0) (fun _ => 0) (fun _ => 0) 0 (fun _ => 0) 0 (fun _ _ => 0) (fillV 12 9 (fun _ => 0)) (va_up (va_up (va_up (fun _ => 0) 0 1) 1 1) 2 1) 0 (fun _ _ => 0) 0 (fun _ _ => 0) 10 0 0 0 0 0 0 0 (fun _ => 0) 0 (fun _ => 0) (fun _ => 0) 0 (fun _ => 0) 0 0 (fun _ => 0) (fun _ => 0) (xs 1) (xs 2) hom) (fun _ => rfl) rfl rfl (Nat.le_of_ble_eq_true rfl) (by decide) 0 0 rfl rfl rfl [0, 2, 3] [1, 4] rfl rfl rfl rfl rfl rfl rfl ?_
  refine J_icmp_eq (tg := 1595) hK dL_law_1062 rfl rfl (fun _ => ?_) (fun h => absurd he h)
  exact J_nil (tail (by decide) (by decide))

set_option maxHeartbeats 4000000 in
set_option maxRecDepth 100000 in
theorem cs_22 {d : DT} {Φ : JC} {nm : String} (hK : Ok d Φ RL nm cL_law 4 (some .boolean) room_1) {b : Nat} {xs : Nat → Int32} (hX : Scr Φ b 7 xs) (h0 : Nat → Nat) (h1 : Nat → Nat) (h2 : Nat → Nat) (h3 : Nat → Nat) (h4 : Nat → Nat) (h6 : Nat → Nat) (h7 : Nat → Nat) (h8 : Nat → Nat) (h9 : Nat → Nat) (h10 : Nat → Nat) (rE hm rr rl rg rw : Nat → Nat) (tail : ∀ {ce sl : Nat}, ce ≤ 600000 → sl ≤ 7302250 → J d Φ 4 [] ce sl 1595 [(3, .int 0), (2, .ref (hm 0)), (1, .ref (h0 0)), (0, .ref b)] []) : J d Φ 4 [gTw d h0 (h1 0) (h2 0) (h3 0) (h4 0) (h6 0) (h7 0) (fun _ => 0) 0 0 0, gLd d h1 0 0 0 10 (fun _ => 0) (fun _ => 0) (fun _ => 0) (fillV 12 9 (fun _ => 0)) (fillV 3 1 (fun _ => 0)) (fun _ => 0) 0, gLd d h2 0 0 0 10 (fun _ => 0) (fun _ => 0) (fun _ => 0) (fillV 12 9 (fun _ => 0)) (fillV 3 1 (fun _ => 0)) (fun _ => 0) 0, gTp d h3 (fun _ => 0) 0 0 0 0 0, gSh d h4 rE (fillV 8 (-1) (fun _ => 0)) (fun _ => 0), gridJ d rE 8 40 (fun _ _ => 0), gCh d h6 (h7 0) (h9 0) (h10 0) (fun _ => 0), gTr d h7 (h8 0) (fun _ => 0) (fun _ => 0) 0 0, gWy d h8 (fun _ => 0) (fun _ => 0) (fun _ => 0) (fun _ => 0) (fun _ => 0) (fun _ => 0) (fun _ => 0) (fun _ => 0) 0 (fun _ => 0) 0 0 0 (-1), gLd d h9 0 0 0 10 (fun _ => 0) (fun _ => 0) (fun _ => 0) (fillV 12 9 (fun _ => 0)) (fillV 3 1 (fun _ => 0)) (fun _ => 0) 0, gLd d h10 0 0 0 10 (fun _ => 0) (fun _ => 0) (fun _ => 0) (fillV 12 9 (fun _ => 0)) (fillV 3 1 (fun _ => 0)) (fun _ => 0) 0, gMd d hm none none none rr rl rg rw (fun _ => 0) (fun _ => 0) (fun _ => 0) (fun _ => 0) (fun _ => 0) (fun _ => 0) 0 (fun _ => 0) 0 (fillV 12 9 (fun _ => 0)) (va_up (va_up (va_up (fun _ => 0) 0 1) 1 1) 2 1) 0 0 10 0 0 0 0 0 0 0 (fun _ => 0) 0 (fun _ => 0) (fun _ => 0) 0 (fun _ => 0) 0 0 (fun _ => 0) (fun _ => 0), gridJ d rr 8 40 (fun _ _ => 0), gridI d rl 20 7 (fun _ _ => 0), gridI d rg 8 3 (fun _ _ => 0), gridI d rw 7 5 (fun _ _ => 0)] 122 3685 1067 [(3, .int 0), (2, .ref (hm 0)), (1, .ref (h0 0)), (0, .ref b)] [] := by
  refine J_aload_n hK dL_law_1067 rfl 2 rfl rfl ?_
  obtain ⟨ox, om, hx, hom, he⟩ := pe_22 
  refine J_callVd (ce' := 122) (sl' := 3685) (gr := [gLd d h2 0 0 0 10 (fun _ => 0) (fun _ => 0) (fun _ => 0) (fillV 12 9 (fun _ => 0)) (fillV 3 1 (fun _ => 0)) (fun _ => 0) 0, gTp d h3 (fun _ => 0) 0 0 0 0 0, gSh d h4 rE (fillV 8 (-1) (fun _ => 0)) (fun _ => 0), gridJ d rE 8 40 (fun _ _ => 0), gLd d h9 0 0 0 10 (fun _ => 0) (fun _ => 0) (fun _ => 0) (fillV 12 9 (fun _ => 0)) (fillV 3 1 (fun _ => 0)) (fun _ => 0) 0, gMd d hm none none none rr rl rg rw (fun _ => 0) (fun _ => 0) (fun _ => 0) (fun _ => 0) (fun _ => 0) (fun _ => 0) 0 (fun _ => 0) 0 (fillV 12 9 (fun _ => 0)) (va_up (va_up (va_up (fun _ => 0) 0 1) 1 1) 2 1) 0 0 10 0 0 0 0 0 0 0 (fun _ => 0) 0 (fun _ => 0) (fun _ => 0) 0 (fun _ => 0) 0 0 (fun _ => 0) (fun _ => 0), gridJ d rr 8 40 (fun _ _ => 0), gridI d rl 20 7 (fun _ _ => 0), gridI d rg 8 3 (fun _ _ => 0), gridI d rw 7 5 (fun _ _ => 0)]) (v := .int (ox.1)) (st := []) hK dL_law_1068 cv_RL_113 iv_yX6_free (As := []) (kX6_free _ d h0 (h2 0) (h3 0) (h4 0) h6 (h9 0) h10 h1 h7 h8 1000 (fun _ => 0) 0 0 0 (fun _ => 0) 0 0 0 10 (fun _ => 0) (fun _ => 0) (fun _ => 0) (fillV 12 9 (fun _ => 0)) (fillV 3 1 (fun _ => 0)) (fun _ => 0) 0 0 0 0 10 (fun _ => 0) (fun _ => 0) (fun _ => 0) (fillV 12 9 (fun _ => 0)) (fillV 3 1 (fun _ => 0)) (fun _ => 0) 0 (fun _ => 0) (fun _ => 0) 0 0 (fun _ => 0) (fun _ => 0) (fun _ => 0) (fun _ => 0) (fun _ => 0) (fun _ => 0) (fun _ => 0) (fun _ => 0) 0 (fun _ => 0) 0 0 0 (-1) hx) (fun _ => rfl) rfl rfl (Nat.le_of_ble_eq_true rfl) (by decide) 0 0 rfl rfl rfl [0, 6, 10, 1, 7, 8] [2, 3, 4, 5, 9, 11, 12, 13, 14, 15] rfl rfl rfl rfl rfl rfl rfl ?_
  refine J_drp (gs2 := [gMd d hm none none none rr rl rg rw (fun _ => 0) (fun _ => 0) (fun _ => 0) (fun _ => 0) (fun _ => 0) (fun _ => 0) 0 (fun _ => 0) 0 (fillV 12 9 (fun _ => 0)) (va_up (va_up (va_up (fun _ => 0) 0 1) 1 1) 2 1) 0 0 10 0 0 0 0 0 0 0 (fun _ => 0) 0 (fun _ => 0) (fun _ => 0) 0 (fun _ => 0) 0 0 (fun _ => 0) (fun _ => 0), gridJ d rr 8 40 (fun _ _ => 0), gridI d rl 20 7 (fun _ _ => 0), gridI d rg 8 3 (fun _ _ => 0), gridI d rw 7 5 (fun _ _ => 0)]) 5 rfl ?_
  refine J_aload_n hK dL_law_1071 rfl 1 rfl rfl ?_
  refine J_callVd (ce' := 122) (sl' := 3685) (gr := [gridJ d rr 8 40 (fun _ _ => 0), gridI d rw 7 5 (fun _ _ => 0)]) (v := .int (om.1)) (st := [.int (ox.1)]) hK dL_law_1072 cv_RL_116 iv_yX7_free (As := []) (kX7_free _ d hm rr rl rg rw none none none 1000 (fun _ => 0) (fun _ => 0) (fun _ => 0) (fun _ _ => 0) (fun _ => 0) (fun _ => 0) (fun _ => 0) 0 (fun _ => 0) 0 (fun _ _ => 0) (fillV 12 9 (fun _ => 0)) (va_up (va_up (va_up (fun _ => 0) 0 1) 1 1) 2 1) 0 (fun _ _ => 0) 0 (fun _ _ => 0) 10 0 0 0 0 0 0 0 (fun _ => 0) 0 (fun _ => 0) (fun _ => 0) 0 (fun _ => 0) 0 0 (fun _ => 0) (fun _ => 0) hom) (fun _ => rfl) rfl rfl (Nat.le_of_ble_eq_true rfl) (by decide) 0 0 rfl rfl rfl [0, 2, 3] [1, 4] rfl rfl rfl rfl rfl rfl rfl ?_
  refine J_icmp_eq (tg := 1595) hK dL_law_1075 rfl rfl (fun _ => ?_) (fun h => absurd he h)
  exact J_nil (tail (by decide) (by decide))

theorem dL_law_300 : decode cL_law 300 = .ok (.aload_n 1, 1) := by decide +kernel
theorem dL_law_301 : decode cL_law 301 = .ok (.aload_n 0, 1) := by decide +kernel
theorem dL_law_302 : decode cL_law 302 = .ok (.iload_n 3, 1) := by decide +kernel
theorem dL_law_303 : decode cL_law 303 = .ok (.iconst 1, 1) := by decide +kernel
theorem dL_law_304 : decode cL_law 304 = .ok (.iadd, 1) := by decide +kernel
theorem dL_law_305 : decode cL_law 305 = .ok (.iaload, 1) := by decide +kernel
theorem dL_law_306 : decode cL_law 306 = .ok (.aload_n 0, 1) := by decide +kernel
theorem dL_law_307 : decode cL_law 307 = .ok (.iload_n 3, 1) := by decide +kernel
theorem dL_law_308 : decode cL_law 308 = .ok (.iconst 2, 1) := by decide +kernel
theorem dL_law_309 : decode cL_law 309 = .ok (.iadd, 1) := by decide +kernel
theorem dL_law_310 : decode cL_law 310 = .ok (.iaload, 1) := by decide +kernel
theorem dL_law_311 : decode cL_law 311 = .ok (.aload_n 0, 1) := by decide +kernel
theorem dL_law_312 : decode cL_law 312 = .ok (.iload_n 3, 1) := by decide +kernel
theorem dL_law_313 : decode cL_law 313 = .ok (.iconst 3, 1) := by decide +kernel
theorem dL_law_314 : decode cL_law 314 = .ok (.iadd, 1) := by decide +kernel
theorem dL_law_315 : decode cL_law 315 = .ok (.iaload, 1) := by decide +kernel
theorem dL_law_316 : decode cL_law 316 = .ok (.aload_n 0, 1) := by decide +kernel
theorem dL_law_317 : decode cL_law 317 = .ok (.iload_n 3, 1) := by decide +kernel
theorem dL_law_318 : decode cL_law 318 = .ok (.iconst 4, 1) := by decide +kernel
theorem dL_law_319 : decode cL_law 319 = .ok (.iadd, 1) := by decide +kernel
theorem dL_law_320 : decode cL_law 320 = .ok (.iaload, 1) := by decide +kernel
theorem dL_law_321 : decode cL_law 321 = .ok (.aload_n 0, 1) := by decide +kernel
theorem dL_law_322 : decode cL_law 322 = .ok (.iload_n 3, 1) := by decide +kernel
theorem dL_law_323 : decode cL_law 323 = .ok (.iconst 5, 1) := by decide +kernel
theorem dL_law_324 : decode cL_law 324 = .ok (.iadd, 1) := by decide +kernel
theorem dL_law_325 : decode cL_law 325 = .ok (.iaload, 1) := by decide +kernel
theorem dL_law_326 : decode cL_law 326 = .ok (.invokevirtual 13, 3) := by decide +kernel
theorem dL_law_329 : decode cL_law 329 = .ok (.pop, 1) := by decide +kernel
theorem dL_law_330 : decode cL_law 330 = .ok (.aload_n 2, 1) := by decide +kernel
theorem dL_law_331 : decode cL_law 331 = .ok (.aload_n 0, 1) := by decide +kernel
theorem dL_law_332 : decode cL_law 332 = .ok (.iload_n 3, 1) := by decide +kernel
theorem dL_law_333 : decode cL_law 333 = .ok (.iconst 1, 1) := by decide +kernel
theorem dL_law_334 : decode cL_law 334 = .ok (.iadd, 1) := by decide +kernel
theorem dL_law_335 : decode cL_law 335 = .ok (.iaload, 1) := by decide +kernel
theorem dL_law_336 : decode cL_law 336 = .ok (.aload_n 0, 1) := by decide +kernel
theorem dL_law_337 : decode cL_law 337 = .ok (.iload_n 3, 1) := by decide +kernel
theorem dL_law_338 : decode cL_law 338 = .ok (.iconst 2, 1) := by decide +kernel
theorem dL_law_339 : decode cL_law 339 = .ok (.iadd, 1) := by decide +kernel
theorem dL_law_340 : decode cL_law 340 = .ok (.iaload, 1) := by decide +kernel
theorem dL_law_341 : decode cL_law 341 = .ok (.aload_n 0, 1) := by decide +kernel
theorem dL_law_342 : decode cL_law 342 = .ok (.iload_n 3, 1) := by decide +kernel
theorem dL_law_343 : decode cL_law 343 = .ok (.iconst 3, 1) := by decide +kernel
theorem dL_law_344 : decode cL_law 344 = .ok (.iadd, 1) := by decide +kernel
theorem dL_law_345 : decode cL_law 345 = .ok (.iaload, 1) := by decide +kernel
theorem dL_law_346 : decode cL_law 346 = .ok (.aload_n 0, 1) := by decide +kernel
theorem dL_law_347 : decode cL_law 347 = .ok (.iload_n 3, 1) := by decide +kernel
theorem dL_law_348 : decode cL_law 348 = .ok (.iconst 4, 1) := by decide +kernel
theorem dL_law_349 : decode cL_law 349 = .ok (.iadd, 1) := by decide +kernel
theorem dL_law_350 : decode cL_law 350 = .ok (.iaload, 1) := by decide +kernel
theorem dL_law_351 : decode cL_law 351 = .ok (.aload_n 0, 1) := by decide +kernel
theorem dL_law_352 : decode cL_law 352 = .ok (.iload_n 3, 1) := by decide +kernel
theorem dL_law_353 : decode cL_law 353 = .ok (.iconst 5, 1) := by decide +kernel
theorem dL_law_354 : decode cL_law 354 = .ok (.iadd, 1) := by decide +kernel
theorem dL_law_355 : decode cL_law 355 = .ok (.iaload, 1) := by decide +kernel
theorem dL_law_356 : decode cL_law 356 = .ok (.invokevirtual 17, 3) := by decide +kernel
theorem dL_law_359 : decode cL_law 359 = .ok (.pop, 1) := by decide +kernel
theorem dL_law_360 : decode cL_law 360 = .ok (.goto 1709, 3) := by decide +kernel
set_option maxRecDepth 20000 in
theorem mT_X7_putFour : wIn lw_tbl vX7_putFour := wIn.cons (List.mem_of_getElem? (i := 535) (by decide +kernel)) (wIn.app (wIn.r _ [135, 133] (by decide +kernel)) iT_7)
set_option maxRecDepth 20000 in
theorem mT_X11_feed : wIn lw_tbl vX11_feed := wIn.cons (List.mem_of_getElem? (i := 531) (by decide +kernel)) (wIn.app (wIn.r _ [485, 134, 532, 533, 534, 99] (by decide +kernel)) (wIn.app iT_11 (wIn.app iT_7 mT_X7_putFour)))
theorem gL_X11_feed : GoodIn lw_tbl (wsV RL 13 RX11 yX11_feed vX11_feed) := goodIn_app (goodIn_r _ [528, 529, 530, 98] (by decide +kernel) (by decide +kernel)) (fun w h => ⟨mT_X11_feed w h, gs_X11_feed w h⟩)
set_option maxRecDepth 20000 in
theorem mT_X12_feed : wIn lw_tbl vX12_feed := wIn.cons (List.mem_of_getElem? (i := 1397) (by decide +kernel)) (wIn.app (wIn.r _ [1266, 1267, 1265] (by decide +kernel)) iT_12)
theorem gL_X12_feed : GoodIn lw_tbl (wsV RL 17 RX12 yX12_feed vX12_feed) := goodIn_app (goodIn_r _ [1394, 1395, 1396, 110] (by decide +kernel) (by decide +kernel)) (fun w h => ⟨mT_X12_feed w h, gs_X12_feed w h⟩)
set_option maxHeartbeats 8000000 in
set_option maxRecDepth 100000 in
theorem law_c0 {p : Program} {e : Env} {s : State} {m : MethodId} {below : List Frame} {meth : Method} {c : Code} (l : Launch) {b L : Nat} {xs : Nat → Int32} {D : va_G} {cs : Nat → ClassId} {ad : Nat → Nat} {kS : kSt} {K : sK} {g : Nat → va_E} {H : Heap} {locs : List Loc} (hL : L ≤ 3072) (C0 : lw_At p s m meth c b L xs) (X : CxL p s m b meth c D cs) (Z : SX ad kS s s.heap) (hj : wJ ad 218) (hA : ∀ i, i < 218 → AL s (ad i)) (hKO : KO K) (hR : KR K) (hW : WF (shp ad K) ad cs g) (hP : va_P D vwCl (wL ad g 218) H) (hS : va_S (AL s) s.heap H locs) (ls : Array Slot) (ii : Int32) (hi0 : 0 ≤ ii.toInt) (hi1 : ii.toInt + 6 ≤ L) (hl : lv_has ls 4 [(3, .int ii), (2, .ref (ad 197)), (1, .ref (ad 0)), (0, .ref b)]) (kk : ∀ (K : sK) (g : Nat → va_E) (H : Heap) (locs : List Loc) (ls : Array Slot), KO K → KR K → WF (shp ad K) ad cs g → va_P D vwCl (wL ad g 218) H → va_S (AL s) s.heap H locs → lv_has ls 4 [(3, .int ii), (2, .ref (ad 197)), (1, .ref (ad 0)), (0, .ref b)] → W p l e room_1 s m #[Value.ref b] below meth c H locs 218 6259 (lw_Z below #[Value.ref b] s) (F0 m 2069 ls [])) : W p l e room_1 s m #[Value.ref b] below meth c H locs 218 6259 (lw_Z below #[Value.ref b] s) (F0 m 300 ls []) := by
  have hx := X.1
  have hb : c.code = cL_law := X.2.1
  obtain ⟨-, -, -, -, -, -, hX, hbl, -, -⟩ := id C0
  have hbA : ¬ AL s b := Nat.not_le.mpr hbl
  refine lv_aload_n hx hb dL_law_300 rfl (lv_at hl 2 rfl) ?_
  refine lv_aload_n hx hb dL_law_301 rfl (lv_at hl 3 rfl) ?_
  refine lv_iload_n hx hb dL_law_302 rfl (lv_at hl 0 rfl) ?_
  refine lv_iconst (v := 1) hx hb dL_law_303 (by decide) ?_
  refine lv_iadd hx hb dL_law_304 ?_
  refine lv_topi (fun z_1 ez_1 => ?_)
  have hz_1 : z_1.toInt = ii.toInt + 1 := n_add rfl (by decide : (1 : Int32).toInt = 1) ez_1 (by omega) (by omega)
  refine va_sld hx hb hX hbl hbA hS (i := z_1) (n_in (rfl : z_1.toInt = z_1.toInt) (by omega) (by omega)) dL_law_305 ?_
  refine lv_topi (fun x_2 ex_2 => ?_)
  refine lv_aload_n hx hb dL_law_306 rfl (lv_at hl 3 rfl) ?_
  refine lv_iload_n hx hb dL_law_307 rfl (lv_at hl 0 rfl) ?_
  refine lv_iconst (v := 2) hx hb dL_law_308 (by decide) ?_
  refine lv_iadd hx hb dL_law_309 ?_
  refine lv_topi (fun z_3 ez_3 => ?_)
  have hz_3 : z_3.toInt = ii.toInt + 2 := n_add rfl (by decide : (2 : Int32).toInt = 2) ez_3 (by omega) (by omega)
  refine va_sld hx hb hX hbl hbA hS (i := z_3) (n_in (rfl : z_3.toInt = z_3.toInt) (by omega) (by omega)) dL_law_310 ?_
  refine lv_topi (fun x_4 ex_4 => ?_)
  refine lv_aload_n hx hb dL_law_311 rfl (lv_at hl 3 rfl) ?_
  refine lv_iload_n hx hb dL_law_312 rfl (lv_at hl 0 rfl) ?_
  refine lv_iconst (v := 3) hx hb dL_law_313 (by decide) ?_
  refine lv_iadd hx hb dL_law_314 ?_
  refine lv_topi (fun z_5 ez_5 => ?_)
  have hz_5 : z_5.toInt = ii.toInt + 3 := n_add rfl (by decide : (3 : Int32).toInt = 3) ez_5 (by omega) (by omega)
  refine va_sld hx hb hX hbl hbA hS (i := z_5) (n_in (rfl : z_5.toInt = z_5.toInt) (by omega) (by omega)) dL_law_315 ?_
  refine lv_topi (fun x_6 ex_6 => ?_)
  refine lv_aload_n hx hb dL_law_316 rfl (lv_at hl 3 rfl) ?_
  refine lv_iload_n hx hb dL_law_317 rfl (lv_at hl 0 rfl) ?_
  refine lv_iconst (v := 4) hx hb dL_law_318 (by decide) ?_
  refine lv_iadd hx hb dL_law_319 ?_
  refine lv_topi (fun z_7 ez_7 => ?_)
  have hz_7 : z_7.toInt = ii.toInt + 4 := n_add rfl (by decide : (4 : Int32).toInt = 4) ez_7 (by omega) (by omega)
  refine va_sld hx hb hX hbl hbA hS (i := z_7) (n_in (rfl : z_7.toInt = z_7.toInt) (by omega) (by omega)) dL_law_320 ?_
  refine lv_topi (fun x_8 ex_8 => ?_)
  refine lv_aload_n hx hb dL_law_321 rfl (lv_at hl 3 rfl) ?_
  refine lv_iload_n hx hb dL_law_322 rfl (lv_at hl 0 rfl) ?_
  refine lv_iconst (v := 5) hx hb dL_law_323 (by decide) ?_
  refine lv_iadd hx hb dL_law_324 ?_
  refine lv_topi (fun z_9 ez_9 => ?_)
  have hz_9 : z_9.toInt = ii.toInt + 5 := n_add rfl (by decide : (5 : Int32).toInt = 5) ez_9 (by omega) (by omega)
  refine va_sld hx hb hX hbl hbA hS (i := z_9) (n_in (rfl : z_9.toInt = z_9.toInt) (by omega) (by omega)) dL_law_325 ?_
  refine lv_topi (fun x_10 ex_10 => ?_)
  obtain ⟨fso_11, hgo_11, -⟩ := hW.obj (i := 0) (by decide) (sh_0 ad _)
  refine s_calli (q := (RX11, TX11, 14)) (As := [.int x_2, .int x_4, .int x_6, .int x_8, .int x_10]) (rest := []) X Z (s_X11_feed l D cs ad kS K hKO hj g hW x_2 x_4 x_6 x_8 x_10) (cwV 5 X.2.2.2.2.1 gL_X11_feed rfl rfl rfl (by decide +kernel) ⟨Nat.le_of_ble_eq_true rfl, Nat.le_of_ble_eq_true rfl⟩) (by decide) hgo_11 rfl hP hA (fun a h _ => hS.2.1 a h (Nat.not_le.mpr h)) hS rfl hl.1 rfl (Nat.le_of_ble_eq_true rfl) dL_law_326 ⟨Nat.le_of_ble_eq_true rfl, Nat.le_of_ble_eq_true rfl⟩ (fun r_13 g_12 H locs hw_14 hP hS => ?_)
  obtain ⟨hw_14W, hw_14f⟩ := hw_14
  refine lv_pop hx hb dL_law_329 rfl ?_
  refine lv_aload_n hx hb dL_law_330 rfl (lv_at hl 1 rfl) ?_
  refine lv_aload_n hx hb dL_law_331 rfl (lv_at hl 3 rfl) ?_
  refine lv_iload_n hx hb dL_law_332 rfl (lv_at hl 0 rfl) ?_
  refine lv_iconst (v := 1) hx hb dL_law_333 (by decide) ?_
  refine lv_iadd hx hb dL_law_334 ?_
  refine lv_topi (fun z_15 ez_15 => ?_)
  have hz_15 : z_15.toInt = ii.toInt + 1 := n_add rfl (by decide : (1 : Int32).toInt = 1) ez_15 (by omega) (by omega)
  refine va_sld hx hb hX hbl hbA hS (i := z_15) (n_in (rfl : z_15.toInt = z_15.toInt) (by omega) (by omega)) dL_law_335 ?_
  refine lv_topi (fun x_16 ex_16 => ?_)
  obtain rfl : x_2 = x_16 := by rw [ex_2, ex_16, ez_1, ez_15]
  refine lv_aload_n hx hb dL_law_336 rfl (lv_at hl 3 rfl) ?_
  refine lv_iload_n hx hb dL_law_337 rfl (lv_at hl 0 rfl) ?_
  refine lv_iconst (v := 2) hx hb dL_law_338 (by decide) ?_
  refine lv_iadd hx hb dL_law_339 ?_
  refine lv_topi (fun z_17 ez_17 => ?_)
  have hz_17 : z_17.toInt = ii.toInt + 2 := n_add rfl (by decide : (2 : Int32).toInt = 2) ez_17 (by omega) (by omega)
  refine va_sld hx hb hX hbl hbA hS (i := z_17) (n_in (rfl : z_17.toInt = z_17.toInt) (by omega) (by omega)) dL_law_340 ?_
  refine lv_topi (fun x_18 ex_18 => ?_)
  obtain rfl : x_4 = x_18 := by rw [ex_4, ex_18, ez_3, ez_17]
  refine lv_aload_n hx hb dL_law_341 rfl (lv_at hl 3 rfl) ?_
  refine lv_iload_n hx hb dL_law_342 rfl (lv_at hl 0 rfl) ?_
  refine lv_iconst (v := 3) hx hb dL_law_343 (by decide) ?_
  refine lv_iadd hx hb dL_law_344 ?_
  refine lv_topi (fun z_19 ez_19 => ?_)
  have hz_19 : z_19.toInt = ii.toInt + 3 := n_add rfl (by decide : (3 : Int32).toInt = 3) ez_19 (by omega) (by omega)
  refine va_sld hx hb hX hbl hbA hS (i := z_19) (n_in (rfl : z_19.toInt = z_19.toInt) (by omega) (by omega)) dL_law_345 ?_
  refine lv_topi (fun x_20 ex_20 => ?_)
  obtain rfl : x_6 = x_20 := by rw [ex_6, ex_20, ez_5, ez_19]
  refine lv_aload_n hx hb dL_law_346 rfl (lv_at hl 3 rfl) ?_
  refine lv_iload_n hx hb dL_law_347 rfl (lv_at hl 0 rfl) ?_
  refine lv_iconst (v := 4) hx hb dL_law_348 (by decide) ?_
  refine lv_iadd hx hb dL_law_349 ?_
  refine lv_topi (fun z_21 ez_21 => ?_)
  have hz_21 : z_21.toInt = ii.toInt + 4 := n_add rfl (by decide : (4 : Int32).toInt = 4) ez_21 (by omega) (by omega)
  refine va_sld hx hb hX hbl hbA hS (i := z_21) (n_in (rfl : z_21.toInt = z_21.toInt) (by omega) (by omega)) dL_law_350 ?_
  refine lv_topi (fun x_22 ex_22 => ?_)
  obtain rfl : x_8 = x_22 := by rw [ex_8, ex_22, ez_7, ez_21]
  refine lv_aload_n hx hb dL_law_351 rfl (lv_at hl 3 rfl) ?_
  refine lv_iload_n hx hb dL_law_352 rfl (lv_at hl 0 rfl) ?_
  refine lv_iconst (v := 5) hx hb dL_law_353 (by decide) ?_
  refine lv_iadd hx hb dL_law_354 ?_
  refine lv_topi (fun z_23 ez_23 => ?_)
  have hz_23 : z_23.toInt = ii.toInt + 5 := n_add rfl (by decide : (5 : Int32).toInt = 5) ez_23 (by omega) (by omega)
  refine va_sld hx hb hX hbl hbA hS (i := z_23) (n_in (rfl : z_23.toInt = z_23.toInt) (by omega) (by omega)) dL_law_355 ?_
  refine lv_topi (fun x_24 ex_24 => ?_)
  obtain rfl : x_10 = x_24 := by rw [ex_10, ex_24, ez_9, ez_23]
  obtain ⟨fso_25, hgo_25, -⟩ := hw_14W.obj (i := 197) (by decide) (sh_197 ad _)
  refine s_calli (q := (RX12, TX12, 40)) (As := [.int x_2, .int x_4, .int x_6, .int x_8, .int x_10]) (rest := []) X Z (s_X12_feed l D cs ad kS K hKO hj g_12 hw_14W x_2 x_4 x_6 x_8 x_10) (cwV 5 X.2.2.2.2.1 gL_X12_feed rfl rfl rfl (by decide +kernel) ⟨Nat.le_of_ble_eq_true rfl, Nat.le_of_ble_eq_true rfl⟩) (by decide) hgo_25 rfl hP hA (fun a h _ => hS.2.1 a h (Nat.not_le.mpr h)) hS rfl hl.1 rfl (Nat.le_of_ble_eq_true rfl) dL_law_356 ⟨Nat.le_of_ble_eq_true rfl, Nat.le_of_ble_eq_true rfl⟩ (fun r_27 g_26 H locs hw_28 hP hS => ?_)
  obtain ⟨hw_28W, hw_28f⟩ := hw_28
  refine lv_pop hx hb dL_law_359 rfl ?_
  refine lv_goto (tgt := 2069) hx hb dL_law_360 (by decide) ?_
  exact kk K g_26 _ _ ls hKO hR hw_28W hP hS hl

theorem dL_law_363 : decode cL_law 363 = .ok (.aload_n 1, 1) := by decide +kernel
theorem dL_law_364 : decode cL_law 364 = .ok (.aload_n 0, 1) := by decide +kernel
theorem dL_law_365 : decode cL_law 365 = .ok (.iload_n 3, 1) := by decide +kernel
theorem dL_law_366 : decode cL_law 366 = .ok (.iconst 1, 1) := by decide +kernel
theorem dL_law_367 : decode cL_law 367 = .ok (.iadd, 1) := by decide +kernel
theorem dL_law_368 : decode cL_law 368 = .ok (.iaload, 1) := by decide +kernel
theorem dL_law_369 : decode cL_law 369 = .ok (.invokevirtual 18, 3) := by decide +kernel
theorem dL_law_372 : decode cL_law 372 = .ok (.pop, 1) := by decide +kernel
theorem dL_law_373 : decode cL_law 373 = .ok (.aload_n 2, 1) := by decide +kernel
theorem dL_law_374 : decode cL_law 374 = .ok (.aload_n 0, 1) := by decide +kernel
theorem dL_law_375 : decode cL_law 375 = .ok (.iload_n 3, 1) := by decide +kernel
theorem dL_law_376 : decode cL_law 376 = .ok (.iconst 1, 1) := by decide +kernel
theorem dL_law_377 : decode cL_law 377 = .ok (.iadd, 1) := by decide +kernel
theorem dL_law_378 : decode cL_law 378 = .ok (.iaload, 1) := by decide +kernel
theorem dL_law_379 : decode cL_law 379 = .ok (.invokevirtual 22, 3) := by decide +kernel
theorem dL_law_382 : decode cL_law 382 = .ok (.pop, 1) := by decide +kernel
theorem dL_law_383 : decode cL_law 383 = .ok (.goto 1686, 3) := by decide +kernel
set_option maxRecDepth 20000 in
theorem mT_X11_end : wIn lw_tbl vX11_end := wIn.cons (List.mem_of_getElem? (i := 539) (by decide +kernel)) (wIn.app (wIn.r _ [485, 134] (by decide +kernel)) (wIn.app iT_11 iT_7))
theorem gL_X11_end : GoodIn lw_tbl (wsV RL 18 RX11 yX11_end vX11_end) := goodIn_app (goodIn_r _ [536, 537, 538, 98] (by decide +kernel) (by decide +kernel)) (fun w h => ⟨mT_X11_end w h, gs_X11_end w h⟩)
set_option maxRecDepth 20000 in
theorem mT_X12_in : wIn lw_tbl vX12_in := wIn.cons (List.mem_of_getElem? (i := 1389) (by decide +kernel)) (wIn.r _ [] (by decide +kernel))
set_option maxRecDepth 20000 in
theorem mT_X12_end : wIn lw_tbl vX12_end := wIn.cons (List.mem_of_getElem? (i := 1401) (by decide +kernel)) (wIn.app (wIn.r _ [1266, 1387, 1388, 110] (by decide +kernel)) (wIn.app iT_12 mT_X12_in))
theorem gL_X12_end : GoodIn lw_tbl (wsV RL 22 RX12 yX12_end vX12_end) := goodIn_app (goodIn_r _ [1398, 1399, 1400, 110] (by decide +kernel) (by decide +kernel)) (fun w h => ⟨mT_X12_end w h, gs_X12_end w h⟩)
set_option maxHeartbeats 8000000 in
set_option maxRecDepth 100000 in
theorem law_c1 {p : Program} {e : Env} {s : State} {m : MethodId} {below : List Frame} {meth : Method} {c : Code} (l : Launch) {b L : Nat} {xs : Nat → Int32} {D : va_G} {cs : Nat → ClassId} {ad : Nat → Nat} {kS : kSt} {K : sK} {g : Nat → va_E} {H : Heap} {locs : List Loc} (hL : L ≤ 3072) (C0 : lw_At p s m meth c b L xs) (X : CxL p s m b meth c D cs) (Z : SX ad kS s s.heap) (hj : wJ ad 218) (hA : ∀ i, i < 218 → AL s (ad i)) (hKO : KO K) (hR : KR K) (hW : WF (shp ad K) ad cs g) (hP : va_P D vwCl (wL ad g 218) H) (hS : va_S (AL s) s.heap H locs) (ls : Array Slot) (ii : Int32) (hi0 : 0 ≤ ii.toInt) (hi1 : ii.toInt + 6 ≤ L) (hl : lv_has ls 4 [(3, .int ii), (2, .ref (ad 197)), (1, .ref (ad 0)), (0, .ref b)]) (kk : ∀ (K : sK) (g : Nat → va_E) (H : Heap) (locs : List Loc) (ls : Array Slot), KO K → KR K → WF (shp ad K) ad cs g → va_P D vwCl (wL ad g 218) H → va_S (AL s) s.heap H locs → lv_has ls 4 [(3, .int ii), (2, .ref (ad 197)), (1, .ref (ad 0)), (0, .ref b)] → W p l e room_1 s m #[Value.ref b] below meth c H locs 218 6259 (lw_Z below #[Value.ref b] s) (F0 m 2069 ls [])) : W p l e room_1 s m #[Value.ref b] below meth c H locs 218 6259 (lw_Z below #[Value.ref b] s) (F0 m 363 ls []) := by
  have hx := X.1
  have hb : c.code = cL_law := X.2.1
  obtain ⟨-, -, -, -, -, -, hX, hbl, -, -⟩ := id C0
  have hbA : ¬ AL s b := Nat.not_le.mpr hbl
  refine lv_aload_n hx hb dL_law_363 rfl (lv_at hl 2 rfl) ?_
  refine lv_aload_n hx hb dL_law_364 rfl (lv_at hl 3 rfl) ?_
  refine lv_iload_n hx hb dL_law_365 rfl (lv_at hl 0 rfl) ?_
  refine lv_iconst (v := 1) hx hb dL_law_366 (by decide) ?_
  refine lv_iadd hx hb dL_law_367 ?_
  refine lv_topi (fun z_1 ez_1 => ?_)
  have hz_1 : z_1.toInt = ii.toInt + 1 := n_add rfl (by decide : (1 : Int32).toInt = 1) ez_1 (by omega) (by omega)
  refine va_sld hx hb hX hbl hbA hS (i := z_1) (n_in (rfl : z_1.toInt = z_1.toInt) (by omega) (by omega)) dL_law_368 ?_
  refine lv_topi (fun x_2 ex_2 => ?_)
  obtain ⟨fso_3, hgo_3, -⟩ := hW.obj (i := 0) (by decide) (sh_0 ad _)
  refine s_calli (q := (RX11, TX11, 14)) (As := [.int x_2]) (rest := []) X Z (s_X11_end l D cs ad kS K hKO hj g hW x_2) (cwV 1 X.2.2.2.2.1 gL_X11_end rfl rfl rfl (by decide +kernel) ⟨Nat.le_of_ble_eq_true rfl, Nat.le_of_ble_eq_true rfl⟩) (by decide) hgo_3 rfl hP hA (fun a h _ => hS.2.1 a h (Nat.not_le.mpr h)) hS rfl hl.1 rfl (Nat.le_of_ble_eq_true rfl) dL_law_369 ⟨Nat.le_of_ble_eq_true rfl, Nat.le_of_ble_eq_true rfl⟩ (fun r_5 g_4 H locs hw_6 hP hS => ?_)
  obtain ⟨hw_6W, hw_6f⟩ := hw_6
  refine lv_pop hx hb dL_law_372 rfl ?_
  refine lv_aload_n hx hb dL_law_373 rfl (lv_at hl 1 rfl) ?_
  refine lv_aload_n hx hb dL_law_374 rfl (lv_at hl 3 rfl) ?_
  refine lv_iload_n hx hb dL_law_375 rfl (lv_at hl 0 rfl) ?_
  refine lv_iconst (v := 1) hx hb dL_law_376 (by decide) ?_
  refine lv_iadd hx hb dL_law_377 ?_
  refine lv_topi (fun z_7 ez_7 => ?_)
  have hz_7 : z_7.toInt = ii.toInt + 1 := n_add rfl (by decide : (1 : Int32).toInt = 1) ez_7 (by omega) (by omega)
  refine va_sld hx hb hX hbl hbA hS (i := z_7) (n_in (rfl : z_7.toInt = z_7.toInt) (by omega) (by omega)) dL_law_378 ?_
  refine lv_topi (fun x_8 ex_8 => ?_)
  obtain rfl : x_2 = x_8 := by rw [ex_2, ex_8, ez_1, ez_7]
  obtain ⟨fso_9, hgo_9, -⟩ := hw_6W.obj (i := 197) (by decide) (sh_197 ad _)
  refine s_calli (q := (RX12, TX12, 40)) (As := [.int x_2]) (rest := []) X Z (s_X12_end l D cs ad kS K hKO hj g_4 hw_6W x_2) (cwV 1 X.2.2.2.2.1 gL_X12_end rfl rfl rfl (by decide +kernel) ⟨Nat.le_of_ble_eq_true rfl, Nat.le_of_ble_eq_true rfl⟩) (by decide) hgo_9 rfl hP hA (fun a h _ => hS.2.1 a h (Nat.not_le.mpr h)) hS rfl hl.1 rfl (Nat.le_of_ble_eq_true rfl) dL_law_379 ⟨Nat.le_of_ble_eq_true rfl, Nat.le_of_ble_eq_true rfl⟩ (fun r_11 g_10 H locs hw_12 hP hS => ?_)
  obtain ⟨hw_12W, hw_12f⟩ := hw_12
  refine lv_pop hx hb dL_law_382 rfl ?_
  refine lv_goto (tgt := 2069) hx hb dL_law_383 (by decide) ?_
  exact kk K g_10 _ _ ls hKO hR hw_12W hP hS hl

theorem dL_law_386 : decode cL_law 386 = .ok (.aload_n 1, 1) := by decide +kernel
theorem dL_law_387 : decode cL_law 387 = .ok (.invokevirtual 23, 3) := by decide +kernel
theorem dL_law_390 : decode cL_law 390 = .ok (.pop, 1) := by decide +kernel
theorem dL_law_391 : decode cL_law 391 = .ok (.aload_n 2, 1) := by decide +kernel
theorem dL_law_392 : decode cL_law 392 = .ok (.invokevirtual 27, 3) := by decide +kernel
theorem dL_law_395 : decode cL_law 395 = .ok (.pop, 1) := by decide +kernel
theorem dL_law_396 : decode cL_law 396 = .ok (.goto 1673, 3) := by decide +kernel
set_option maxRecDepth 20000 in
theorem mT_X0_tally : wIn lw_tbl vX0_tally := wIn.cons (List.mem_of_getElem? (i := 563) (by decide +kernel)) (wIn.app (wIn.r _ [179, 177] (by decide +kernel)) iT_0)
set_option maxRecDepth 20000 in
theorem mT_X0_takeBack : wIn lw_tbl vX0_takeBack := wIn.cons (List.mem_of_getElem? (i := 559) (by decide +kernel)) (wIn.app (wIn.r _ [173, 175, 176, 560, 562, 0, 101] (by decide +kernel)) (wIn.app iT_0 mT_X0_tally))
set_option maxRecDepth 20000 in
theorem mT_X0_clear : wIn lw_tbl vX0_clear := wIn.cons (List.mem_of_getElem? (i := 555) (by decide +kernel)) (wIn.app (wIn.r _ [173, 556, 557, 558, 101] (by decide +kernel)) (wIn.app iT_0 mT_X0_takeBack))
set_option maxRecDepth 20000 in
theorem mT_X6_clear : wIn lw_tbl vX6_clear := wIn.cons (List.mem_of_getElem? (i := 551) (by decide +kernel)) (wIn.app (wIn.r _ [194, 198, 201, 206, 215, 220, 226, 230, 271, 552, 553, 554, 101] (by decide +kernel)) (wIn.app iT_6 mT_X0_clear))
set_option maxRecDepth 20000 in
theorem mT_X7_kindOf : wIn lw_tbl vX7_kindOf := wIn.cons (List.mem_of_getElem? (i := 570) (by decide +kernel)) (wIn.r _ [] (by decide +kernel))
set_option maxRecDepth 20000 in
theorem mT_X7_advance : wIn lw_tbl vX7_advance := wIn.cons (List.mem_of_getElem? (i := 567) (by decide +kernel)) (wIn.app (wIn.r _ [141, 140, 135, 133, 568, 569, 99, 142] (by decide +kernel)) (wIn.app iT_7 mT_X7_kindOf))
set_option maxRecDepth 20000 in
theorem mT_J0_length_8abf5 : wIn lw_tbl vJ0_length_8abf5 := wIn.cons (List.mem_of_getElem? (i := 583) (by decide +kernel)) (wIn.r _ [1927, 584, 585, 586, 111, 587, 588, 1928] (by decide +kernel))
set_option maxRecDepth 20000 in
theorem mT_J0_charAt_5068e : wIn lw_tbl vJ0_charAt_5068e := wIn.cons (List.mem_of_getElem? (i := 593) (by decide +kernel)) (wIn.r _ [1927, 594, 595, 596, 111, 597, 588, 1928, 598, 599, 112, 600, 601, 602, 603, 604, 606, 607, 113, 608] (by decide +kernel))
set_option maxRecDepth 20000 in
theorem mT_X7_isWord : wIn lw_tbl vX7_isWord := wIn.cons (List.mem_of_getElem? (i := 579) (by decide +kernel)) (wIn.app (wIn.r _ [142, 141, 140, 580, 581, 582, 111, 133, 590, 591, 592] (by decide +kernel)) (wIn.app iT_7 (wIn.app mT_J0_length_8abf5 mT_J0_charAt_5068e)))
set_option maxRecDepth 20000 in
theorem mT_X7_blame : wIn lw_tbl vX7_blame := wIn.cons (List.mem_of_getElem? (i := 635) (by decide +kernel)) (wIn.app (wIn.r _ [136, 140, 138] (by decide +kernel)) iT_7)
set_option maxRecDepth 20000 in
theorem mT_X7_pass : wIn lw_tbl vX7_pass := wIn.cons (List.mem_of_getElem? (i := 631) (by decide +kernel)) (wIn.app (wIn.r _ [564, 566, 1, 99, 632, 634, 5] (by decide +kernel)) (wIn.app mT_X7_advance mT_X7_blame))
set_option maxRecDepth 20000 in
theorem mT_X7_numberHere : wIn lw_tbl vX7_numberHere := wIn.cons (List.mem_of_getElem? (i := 648) (by decide +kernel)) (wIn.app (wIn.r _ [140, 141, 133, 649, 650, 115, 651] (by decide +kernel)) iT_7)
set_option maxRecDepth 20000 in
theorem mT_X7_passNumber : wIn lw_tbl vX7_passNumber := wIn.cons (List.mem_of_getElem? (i := 644) (by decide +kernel)) (wIn.app (wIn.r _ [142, 632, 634, 5, 99, 645, 647, 8, 564, 566, 1] (by decide +kernel)) (wIn.app iT_7 (wIn.app mT_X7_blame (wIn.app mT_X7_numberHere mT_X7_advance))))
set_option maxRecDepth 20000 in
theorem mT_X7_numberBehind : wIn lw_tbl vX7_numberBehind := wIn.cons (List.mem_of_getElem? (i := 640) (by decide +kernel)) (wIn.app (wIn.r _ [576, 578, 3, 99, 628, 630, 4, 641, 643, 7] (by decide +kernel)) (wIn.app mT_X7_isWord (wIn.app mT_X7_pass mT_X7_passNumber)))
set_option maxRecDepth 20000 in
theorem mT_X7_readFirst : wIn lw_tbl vX7_readFirst := wIn.cons (List.mem_of_getElem? (i := 574) (by decide +kernel)) (wIn.app (wIn.r _ [576, 578, 3, 99, 628, 630, 4, 637, 639, 6, 195, 199, 203] (by decide +kernel)) (wIn.app iT_6 (wIn.app mT_X7_isWord (wIn.app mT_X7_pass mT_X7_numberBehind))))
set_option maxRecDepth 20000 in
theorem mT_X7_readDay : wIn lw_tbl vX7_readDay := wIn.cons (List.mem_of_getElem? (i := 658) (by decide +kernel)) (wIn.app (wIn.r _ [210, 632, 634, 5, 99, 576, 578, 3, 628, 630, 4, 637, 639, 6, 234, 238] (by decide +kernel)) (wIn.app iT_6 (wIn.app mT_X7_blame (wIn.app mT_X7_isWord (wIn.app mT_X7_pass mT_X7_numberBehind)))))
set_option maxRecDepth 20000 in
theorem mT_X7_readEave : wIn lw_tbl vX7_readEave := wIn.cons (List.mem_of_getElem? (i := 665) (by decide +kernel)) (wIn.app (wIn.r _ [217, 632, 634, 5, 99, 576, 578, 3, 628, 630, 4, 245, 637, 639, 6] (by decide +kernel)) (wIn.app iT_6 (wIn.app mT_X7_blame (wIn.app mT_X7_isWord (wIn.app mT_X7_pass mT_X7_numberBehind)))))
set_option maxRecDepth 20000 in
theorem mT_X7_readIcicle : wIn lw_tbl vX7_readIcicle := wIn.cons (List.mem_of_getElem? (i := 671) (by decide +kernel)) (wIn.app (wIn.r _ [224, 632, 634, 5, 99, 576, 578, 3, 628, 630, 4, 249, 217, 637, 639, 6, 252, 641, 643, 7, 257, 260] (by decide +kernel)) (wIn.app iT_6 (wIn.app mT_X7_blame (wIn.app mT_X7_isWord (wIn.app mT_X7_pass (wIn.app mT_X7_numberBehind mT_X7_passNumber))))))
set_option maxRecDepth 20000 in
theorem mT_X7_readDue : wIn lw_tbl vX7_readDue := wIn.cons (List.mem_of_getElem? (i := 679) (by decide +kernel)) (wIn.app (wIn.r _ [227, 632, 634, 5, 99, 576, 578, 3, 628, 630, 4, 264, 637, 639, 6, 268, 210] (by decide +kernel)) (wIn.app iT_6 (wIn.app mT_X7_blame (wIn.app mT_X7_isWord (wIn.app mT_X7_pass mT_X7_numberBehind)))))
set_option maxRecDepth 20000 in
theorem mT_X7_readInto : wIn lw_tbl vX7_readInto := wIn.cons (List.mem_of_getElem? (i := 547) (by decide +kernel)) (wIn.app (wIn.r _ [548, 549, 550, 100, 136, 138, 141, 564, 566, 1, 99, 142, 571, 573, 2, 628, 630, 4, 231, 576, 578, 3, 655, 657, 9, 662, 664, 10, 668, 670, 11, 676, 678, 12, 632, 634, 5] (by decide +kernel)) (wIn.app iT_7 (wIn.app iT_6 (wIn.app mT_X6_clear (wIn.app mT_X7_advance (wIn.app mT_X7_readFirst (wIn.app mT_X7_pass (wIn.app mT_X7_isWord (wIn.app mT_X7_readDay (wIn.app mT_X7_readEave (wIn.app mT_X7_readIcicle (wIn.app mT_X7_readDue mT_X7_blame))))))))))))
set_option maxRecDepth 20000 in
theorem mT_X0_add : wIn lw_tbl vX0_add := wIn.cons (List.mem_of_getElem? (i := 696) (by decide +kernel)) (wIn.app (wIn.r _ [173, 175, 176, 560, 562, 0, 101] (by decide +kernel)) (wIn.app iT_0 mT_X0_tally))
set_option maxRecDepth 20000 in
theorem mT_X0_copyFrom : wIn lw_tbl vX0_copyFrom := wIn.cons (List.mem_of_getElem? (i := 691) (by decide +kernel)) (wIn.app (wIn.r _ [692, 553, 554, 101, 173, 175, 176, 693, 694, 695] (by decide +kernel)) (wIn.app iT_0 (wIn.app mT_X0_clear mT_X0_add)))
set_option maxRecDepth 20000 in
theorem mT_X6_copyFrom : wIn lw_tbl vX6_copyFrom := wIn.cons (List.mem_of_getElem? (i := 684) (by decide +kernel)) (wIn.app (wIn.r _ [194, 198, 201, 206, 215, 220, 226, 230, 233, 685, 687, 686, 116, 236, 240, 246, 251, 254, 259, 263, 267, 271, 688, 689, 690, 101] (by decide +kernel)) (wIn.app iT_6 mT_X0_copyFrom))
set_option maxRecDepth 20000 in
theorem mT_X6_meltOn : wIn lw_tbl vX6_meltOn := wIn.cons (List.mem_of_getElem? (i := 712) (by decide +kernel)) (wIn.app (wIn.r _ [233, 240] (by decide +kernel)) iT_6)
set_option maxRecDepth 20000 in
theorem mT_X6_takenByActs : wIn lw_tbl vX6_takenByActs := wIn.cons (List.mem_of_getElem? (i := 716) (by decide +kernel)) (wIn.app (wIn.r _ [194, 271, 178, 198, 180] (by decide +kernel)) (wIn.app iT_6 iT_0))
set_option maxRecDepth 20000 in
theorem mT_X10_lossOn : wIn lw_tbl vX10_lossOn := wIn.cons (List.mem_of_getElem? (i := 708) (by decide +kernel)) (wIn.app (wIn.r _ [709, 710, 711, 100, 713, 714, 715, 345, 244, 347, 349, 196] (by decide +kernel)) (wIn.app iT_10 (wIn.app iT_6 (wIn.app mT_X6_meltOn mT_X6_takenByActs))))
set_option maxRecDepth 20000 in
theorem mT_X10_fallOf : wIn lw_tbl vX10_fallOf := wIn.cons (List.mem_of_getElem? (i := 704) (by decide +kernel)) (wIn.app (wIn.r _ [209, 705, 706, 707, 103] (by decide +kernel)) (wIn.app iT_6 mT_X10_lossOn))
set_option maxRecDepth 20000 in
theorem mT_X10_passOver : wIn lw_tbl vX10_passOver := wIn.cons (List.mem_of_getElem? (i := 700) (by decide +kernel)) (wIn.app (wIn.r _ [219, 351, 247, 255, 701, 702, 703, 103] (by decide +kernel)) (wIn.app iT_6 (wIn.app iT_10 mT_X10_fallOf)))
set_option maxRecDepth 20000 in
theorem mT_X11_street : wIn lw_tbl vX11_street := wIn.cons (List.mem_of_getElem? (i := 543) (by decide +kernel)) (wIn.app (wIn.r _ [485, 487, 544, 545, 546, 99, 134, 486, 681, 682, 683, 100, 491, 697, 698, 699, 103, 232] (by decide +kernel)) (wIn.app iT_11 (wIn.app iT_7 (wIn.app iT_6 (wIn.app mT_X7_readInto (wIn.app mT_X6_copyFrom mT_X10_passOver))))))
theorem gL_X11_street : GoodIn lw_tbl (wsV RL 23 RX11 yX11_street vX11_street) := goodIn_app (goodIn_r _ [540, 541, 542, 98] (by decide +kernel) (by decide +kernel)) (fun w h => ⟨mT_X11_street w h, gs_X11_street w h⟩)
set_option maxRecDepth 20000 in
theorem mT_X12_see : wIn lw_tbl vX12_see := wIn.cons (List.mem_of_getElem? (i := 1417) (by decide +kernel)) (wIn.app (wIn.r _ [1268, 1265] (by decide +kernel)) iT_12)
set_option maxRecDepth 20000 in
theorem mT_X12_advance : wIn lw_tbl vX12_advance := wIn.cons (List.mem_of_getElem? (i := 1413) (by decide +kernel)) (wIn.app (wIn.r _ [1269, 1414, 1416, 42, 110, 1270, 1271, 1418, 1419, 1387, 1388, 1420, 1421, 1272, 1422, 1423, 650, 115, 651] (by decide +kernel)) (wIn.app iT_12 (wIn.app mT_X12_see mT_X12_in)))
set_option maxRecDepth 20000 in
theorem mT_X12_good : wIn lw_tbl vX12_good := wIn.cons (List.mem_of_getElem? (i := 1427) (by decide +kernel)) (wIn.app (wIn.r _ [1273] (by decide +kernel)) iT_12)
set_option maxRecDepth 20000 in
theorem mT_X12_is : wIn lw_tbl vX12_is := wIn.cons (List.mem_of_getElem? (i := 1444) (by decide +kernel)) (wIn.app (wIn.r _ [1424, 1426, 43, 110, 1271, 1269, 1270, 1445, 581, 582, 111, 1265, 1446, 591, 592] (by decide +kernel)) (wIn.app iT_12 (wIn.app mT_X12_good (wIn.app mT_J0_length_8abf5 mT_J0_charAt_5068e))))
set_option maxRecDepth 20000 in
theorem mT_X12_takes : wIn lw_tbl vX12_takes := wIn.cons (List.mem_of_getElem? (i := 1440) (by decide +kernel)) (wIn.app (wIn.r _ [1441, 1443, 47, 110, 1410, 1412, 41] (by decide +kernel)) (wIn.app mT_X12_is mT_X12_advance))
set_option maxRecDepth 20000 in
theorem mT_X12_errs : wIn lw_tbl vX12_errs := wIn.cons (List.mem_of_getElem? (i := 1450) (by decide +kernel)) (wIn.app (wIn.r _ [1424, 1426, 43, 110, 1273, 1270, 1274] (by decide +kernel)) (wIn.app iT_12 mT_X12_good))
set_option maxRecDepth 20000 in
theorem mT_X12_needs : wIn lw_tbl vX12_needs := wIn.cons (List.mem_of_getElem? (i := 1436) (by decide +kernel)) (wIn.app (wIn.r _ [1437, 1439, 46, 110, 1447, 1449, 48] (by decide +kernel)) (wIn.app mT_X12_takes mT_X12_errs))
set_option maxRecDepth 20000 in
theorem mT_X12_number : wIn lw_tbl vX12_number := wIn.cons (List.mem_of_getElem? (i := 1459) (by decide +kernel)) (wIn.app (wIn.r _ [1424, 1426, 43, 110, 1271, 1447, 1449, 48, 1272, 1387, 1388, 1410, 1412, 41] (by decide +kernel)) (wIn.app iT_12 (wIn.app mT_X12_good (wIn.app mT_X12_errs (wIn.app mT_X12_in mT_X12_advance)))))
set_option maxRecDepth 20000 in
theorem mT_X12_told : wIn lw_tbl vX12_told := wIn.cons (List.mem_of_getElem? (i := 1455) (by decide +kernel)) (wIn.app (wIn.r _ [1433, 1435, 45, 110, 1456, 1458, 50] (by decide +kernel)) (wIn.app mT_X12_needs mT_X12_number))
set_option maxRecDepth 20000 in
theorem mT_X12_readDay : wIn lw_tbl vX12_readDay := wIn.cons (List.mem_of_getElem? (i := 1473) (by decide +kernel)) (wIn.app (wIn.r _ [1275, 1437, 1439, 46, 110, 1433, 1435, 45, 1456, 1458, 50] (by decide +kernel)) (wIn.app iT_12 (wIn.app mT_X12_takes (wIn.app mT_X12_needs mT_X12_number))))
set_option maxRecDepth 20000 in
theorem mT_X12_readIcicle : wIn lw_tbl vX12_readIcicle := wIn.cons (List.mem_of_getElem? (i := 1480) (by decide +kernel)) (wIn.app (wIn.r _ [1275, 1452, 1454, 49, 110] (by decide +kernel)) (wIn.app iT_12 mT_X12_told))
set_option maxRecDepth 20000 in
theorem mT_X12_readNext : wIn lw_tbl vX12_readNext := wIn.cons (List.mem_of_getElem? (i := 1465) (by decide +kernel)) (wIn.app (wIn.r _ [1441, 1443, 47, 110, 1447, 1449, 48, 1275, 1424, 1426, 43, 1437, 1439, 46, 1470, 1472, 52, 1452, 1454, 49, 1477, 1479, 53, 1410, 1412, 41] (by decide +kernel)) (wIn.app iT_12 (wIn.app mT_X12_is (wIn.app mT_X12_errs (wIn.app mT_X12_good (wIn.app mT_X12_takes (wIn.app mT_X12_readDay (wIn.app mT_X12_told (wIn.app mT_X12_readIcicle mT_X12_advance)))))))))
set_option maxRecDepth 20000 in
theorem mT_X12_readLine : wIn lw_tbl vX12_readLine := wIn.cons (List.mem_of_getElem? (i := 1431) (by decide +kernel)) (wIn.app (wIn.r _ [1275, 1433, 1435, 45, 110, 1452, 1454, 49, 1462, 1464, 51, 1424, 1426, 43, 1271, 1447, 1449, 48, 1410, 1412, 41] (by decide +kernel)) (wIn.app iT_12 (wIn.app mT_X12_needs (wIn.app mT_X12_told (wIn.app mT_X12_readNext (wIn.app mT_X12_good (wIn.app mT_X12_errs mT_X12_advance)))))))
set_option maxRecDepth 20000 in
theorem mT_X12_street : wIn lw_tbl vX12_street := wIn.cons (List.mem_of_getElem? (i := 1409) (by decide +kernel)) (wIn.app (wIn.r _ [1266, 1268, 1269, 1273, 1274, 1275, 1410, 1412, 41, 110, 1424, 1426, 43, 1271, 1428, 1430, 44, 1262] (by decide +kernel)) (wIn.app iT_12 (wIn.app mT_X12_advance (wIn.app mT_X12_good mT_X12_readLine))))
theorem gL_X12_street : GoodIn lw_tbl (wsV RL 27 RX12 yX12_street vX12_street) := goodIn_app (goodIn_r _ [1406, 1407, 1408, 110] (by decide +kernel) (by decide +kernel)) (fun w h => ⟨mT_X12_street w h, gs_X12_street w h⟩)
set_option maxHeartbeats 8000000 in
set_option maxRecDepth 100000 in
theorem law_c2 {p : Program} {e : Env} {s : State} {m : MethodId} {below : List Frame} {meth : Method} {c : Code} (l : Launch) {b L : Nat} {xs : Nat → Int32} {D : va_G} {cs : Nat → ClassId} {ad : Nat → Nat} {kS : kSt} {K : sK} {g : Nat → va_E} {H : Heap} {locs : List Loc} (hL : L ≤ 3072) (C0 : lw_At p s m meth c b L xs) (X : CxL p s m b meth c D cs) (Z : SX ad kS s s.heap) (hj : wJ ad 218) (hA : ∀ i, i < 218 → AL s (ad i)) (hKO : KO K) (hR : KR K) (hW : WF (shp ad K) ad cs g) (hP : va_P D vwCl (wL ad g 218) H) (hS : va_S (AL s) s.heap H locs) (ls : Array Slot) (ii : Int32) (hi0 : 0 ≤ ii.toInt) (hi1 : ii.toInt + 6 ≤ L) (hl : lv_has ls 4 [(3, .int ii), (2, .ref (ad 197)), (1, .ref (ad 0)), (0, .ref b)]) (kk : ∀ (K : sK) (g : Nat → va_E) (H : Heap) (locs : List Loc) (ls : Array Slot), KO K → KR K → WF (shp ad K) ad cs g → va_P D vwCl (wL ad g 218) H → va_S (AL s) s.heap H locs → lv_has ls 4 [(3, .int ii), (2, .ref (ad 197)), (1, .ref (ad 0)), (0, .ref b)] → W p l e room_1 s m #[Value.ref b] below meth c H locs 218 6259 (lw_Z below #[Value.ref b] s) (F0 m 2069 ls [])) : W p l e room_1 s m #[Value.ref b] below meth c H locs 218 6259 (lw_Z below #[Value.ref b] s) (F0 m 386 ls []) := by
  have hx := X.1
  have hb : c.code = cL_law := X.2.1
  obtain ⟨-, -, -, -, -, -, hX, hbl, -, -⟩ := id C0
  have hbA : ¬ AL s b := Nat.not_le.mpr hbl
  refine lv_aload_n hx hb dL_law_386 rfl (lv_at hl 2 rfl) ?_
  obtain ⟨fso_1, hgo_1, -⟩ := hW.obj (i := 0) (by decide) (sh_0 ad _)
  refine s_calli (q := (RX11, TX11, 14)) (As := []) (rest := []) X Z (s_X11_street l D cs ad kS K hKO hj g hW ) (cwV 0 X.2.2.2.2.1 gL_X11_street rfl rfl rfl (by decide +kernel) ⟨Nat.le_of_ble_eq_true rfl, Nat.le_of_ble_eq_true rfl⟩) (by decide) hgo_1 rfl hP hA (fun a h _ => hS.2.1 a h (Nat.not_le.mpr h)) hS rfl hl.1 rfl (Nat.le_of_ble_eq_true rfl) dL_law_387 ⟨Nat.le_of_ble_eq_true rfl, Nat.le_of_ble_eq_true rfl⟩ (fun r_3 g_2 H locs hw_4 hP hS => ?_)
  obtain ⟨hw_4W, hw_4f⟩ := hw_4
  refine lv_pop hx hb dL_law_390 rfl ?_
  refine lv_aload_n hx hb dL_law_391 rfl (lv_at hl 1 rfl) ?_
  obtain ⟨fso_5, hgo_5, -⟩ := hw_4W.obj (i := 197) (by decide) (sh_197 ad _)
  refine s_calli (q := (RX12, TX12, 40)) (As := []) (rest := []) X Z (s_X12_street l D cs ad kS K hKO hj g_2 hw_4W ) (cwV 0 X.2.2.2.2.1 gL_X12_street rfl rfl rfl (by decide +kernel) ⟨Nat.le_of_ble_eq_true rfl, Nat.le_of_ble_eq_true rfl⟩) (by decide) hgo_5 rfl hP hA (fun a h _ => hS.2.1 a h (Nat.not_le.mpr h)) hS rfl hl.1 rfl (Nat.le_of_ble_eq_true rfl) dL_law_392 ⟨Nat.le_of_ble_eq_true rfl, Nat.le_of_ble_eq_true rfl⟩ (fun r_7 g_6 H locs hw_8 hP hS => ?_)
  obtain ⟨hw_8W, hw_8f⟩ := hw_8
  refine lv_pop hx hb dL_law_395 rfl ?_
  refine lv_goto (tgt := 2069) hx hb dL_law_396 (by decide) ?_
  exact kk K g_6 _ _ ls hKO hR hw_8W hP hS hl

theorem dL_law_399 : decode cL_law 399 = .ok (.aload_n 1, 1) := by decide +kernel
theorem dL_law_400 : decode cL_law 400 = .ok (.aload_n 0, 1) := by decide +kernel
theorem dL_law_401 : decode cL_law 401 = .ok (.iload_n 3, 1) := by decide +kernel
theorem dL_law_402 : decode cL_law 402 = .ok (.iconst 1, 1) := by decide +kernel
theorem dL_law_403 : decode cL_law 403 = .ok (.iadd, 1) := by decide +kernel
theorem dL_law_404 : decode cL_law 404 = .ok (.iaload, 1) := by decide +kernel
theorem dL_law_405 : decode cL_law 405 = .ok (.invokevirtual 28, 3) := by decide +kernel
theorem dL_law_408 : decode cL_law 408 = .ok (.pop, 1) := by decide +kernel
theorem dL_law_409 : decode cL_law 409 = .ok (.aload_n 2, 1) := by decide +kernel
theorem dL_law_410 : decode cL_law 410 = .ok (.aload_n 0, 1) := by decide +kernel
theorem dL_law_411 : decode cL_law 411 = .ok (.iload_n 3, 1) := by decide +kernel
theorem dL_law_412 : decode cL_law 412 = .ok (.iconst 1, 1) := by decide +kernel
theorem dL_law_413 : decode cL_law 413 = .ok (.iadd, 1) := by decide +kernel
theorem dL_law_414 : decode cL_law 414 = .ok (.iaload, 1) := by decide +kernel
theorem dL_law_415 : decode cL_law 415 = .ok (.invokevirtual 31, 3) := by decide +kernel
theorem dL_law_418 : decode cL_law 418 = .ok (.pop, 1) := by decide +kernel
theorem dL_law_419 : decode cL_law 419 = .ok (.goto 1650, 3) := by decide +kernel
set_option maxRecDepth 20000 in
theorem mT_X11_fault : wIn lw_tbl vX11_fault := wIn.cons (List.mem_of_getElem? (i := 720) (by decide +kernel)) (wIn.app (wIn.r _ [485, 137, 139] (by decide +kernel)) (wIn.app iT_11 iT_7))
theorem gL_X11_fault : GoodIn lw_tbl (wsV RL 28 RX11 yX11_fault vX11_fault) := goodIn_app (goodIn_r _ [717, 718, 719, 98] (by decide +kernel) (by decide +kernel)) (fun w h => ⟨mT_X11_fault w h, gs_X11_fault w h⟩)
set_option maxRecDepth 20000 in
theorem mT_X12_fault : wIn lw_tbl vX12_fault := wIn.cons (List.mem_of_getElem? (i := 1405) (by decide +kernel)) (wIn.app (wIn.r _ [1273, 1274] (by decide +kernel)) iT_12)
theorem gL_X12_fault : GoodIn lw_tbl (wsV RL 31 RX12 yX12_fault vX12_fault) := goodIn_app (goodIn_r _ [1402, 1403, 1404, 110] (by decide +kernel) (by decide +kernel)) (fun w h => ⟨mT_X12_fault w h, gs_X12_fault w h⟩)
set_option maxHeartbeats 8000000 in
set_option maxRecDepth 100000 in
theorem law_c3 {p : Program} {e : Env} {s : State} {m : MethodId} {below : List Frame} {meth : Method} {c : Code} (l : Launch) {b L : Nat} {xs : Nat → Int32} {D : va_G} {cs : Nat → ClassId} {ad : Nat → Nat} {kS : kSt} {K : sK} {g : Nat → va_E} {H : Heap} {locs : List Loc} (hL : L ≤ 3072) (C0 : lw_At p s m meth c b L xs) (X : CxL p s m b meth c D cs) (Z : SX ad kS s s.heap) (hj : wJ ad 218) (hA : ∀ i, i < 218 → AL s (ad i)) (hKO : KO K) (hR : KR K) (hW : WF (shp ad K) ad cs g) (hP : va_P D vwCl (wL ad g 218) H) (hS : va_S (AL s) s.heap H locs) (ls : Array Slot) (ii : Int32) (hi0 : 0 ≤ ii.toInt) (hi1 : ii.toInt + 6 ≤ L) (hl : lv_has ls 4 [(3, .int ii), (2, .ref (ad 197)), (1, .ref (ad 0)), (0, .ref b)]) (kk : ∀ (K : sK) (g : Nat → va_E) (H : Heap) (locs : List Loc) (ls : Array Slot), KO K → KR K → WF (shp ad K) ad cs g → va_P D vwCl (wL ad g 218) H → va_S (AL s) s.heap H locs → lv_has ls 4 [(3, .int ii), (2, .ref (ad 197)), (1, .ref (ad 0)), (0, .ref b)] → W p l e room_1 s m #[Value.ref b] below meth c H locs 218 6259 (lw_Z below #[Value.ref b] s) (F0 m 2069 ls [])) : W p l e room_1 s m #[Value.ref b] below meth c H locs 218 6259 (lw_Z below #[Value.ref b] s) (F0 m 399 ls []) := by
  have hx := X.1
  have hb : c.code = cL_law := X.2.1
  obtain ⟨-, -, -, -, -, -, hX, hbl, -, -⟩ := id C0
  have hbA : ¬ AL s b := Nat.not_le.mpr hbl
  refine lv_aload_n hx hb dL_law_399 rfl (lv_at hl 2 rfl) ?_
  refine lv_aload_n hx hb dL_law_400 rfl (lv_at hl 3 rfl) ?_
  refine lv_iload_n hx hb dL_law_401 rfl (lv_at hl 0 rfl) ?_
  refine lv_iconst (v := 1) hx hb dL_law_402 (by decide) ?_
  refine lv_iadd hx hb dL_law_403 ?_
  refine lv_topi (fun z_1 ez_1 => ?_)
  have hz_1 : z_1.toInt = ii.toInt + 1 := n_add rfl (by decide : (1 : Int32).toInt = 1) ez_1 (by omega) (by omega)
  refine va_sld hx hb hX hbl hbA hS (i := z_1) (n_in (rfl : z_1.toInt = z_1.toInt) (by omega) (by omega)) dL_law_404 ?_
  refine lv_topi (fun x_2 ex_2 => ?_)
  obtain ⟨fso_3, hgo_3, -⟩ := hW.obj (i := 0) (by decide) (sh_0 ad _)
  refine s_calli (q := (RX11, TX11, 14)) (As := [.int x_2]) (rest := []) X Z (s_X11_fault l D cs ad kS K hKO hj g hW x_2) (cwV 1 X.2.2.2.2.1 gL_X11_fault rfl rfl rfl (by decide +kernel) ⟨Nat.le_of_ble_eq_true rfl, Nat.le_of_ble_eq_true rfl⟩) (by decide) hgo_3 rfl hP hA (fun a h _ => hS.2.1 a h (Nat.not_le.mpr h)) hS rfl hl.1 rfl (Nat.le_of_ble_eq_true rfl) dL_law_405 ⟨Nat.le_of_ble_eq_true rfl, Nat.le_of_ble_eq_true rfl⟩ (fun r_5 g_4 H locs hw_6 hP hS => ?_)
  rw [hw_6] at hP
  refine lv_pop hx hb dL_law_408 rfl ?_
  refine lv_aload_n hx hb dL_law_409 rfl (lv_at hl 1 rfl) ?_
  refine lv_aload_n hx hb dL_law_410 rfl (lv_at hl 3 rfl) ?_
  refine lv_iload_n hx hb dL_law_411 rfl (lv_at hl 0 rfl) ?_
  refine lv_iconst (v := 1) hx hb dL_law_412 (by decide) ?_
  refine lv_iadd hx hb dL_law_413 ?_
  refine lv_topi (fun z_7 ez_7 => ?_)
  have hz_7 : z_7.toInt = ii.toInt + 1 := n_add rfl (by decide : (1 : Int32).toInt = 1) ez_7 (by omega) (by omega)
  refine va_sld hx hb hX hbl hbA hS (i := z_7) (n_in (rfl : z_7.toInt = z_7.toInt) (by omega) (by omega)) dL_law_414 ?_
  refine lv_topi (fun x_8 ex_8 => ?_)
  obtain rfl : x_2 = x_8 := by rw [ex_2, ex_8, ez_1, ez_7]
  obtain ⟨fso_9, hgo_9, -⟩ := hW.obj (i := 197) (by decide) (sh_197 ad _)
  refine s_calli (q := (RX12, TX12, 40)) (As := [.int x_2]) (rest := []) X Z (s_X12_fault l D cs ad kS K hKO hj g hW x_2) (cwV 1 X.2.2.2.2.1 gL_X12_fault rfl rfl rfl (by decide +kernel) ⟨Nat.le_of_ble_eq_true rfl, Nat.le_of_ble_eq_true rfl⟩) (by decide) hgo_9 rfl hP hA (fun a h _ => hS.2.1 a h (Nat.not_le.mpr h)) hS rfl hl.1 rfl (Nat.le_of_ble_eq_true rfl) dL_law_415 ⟨Nat.le_of_ble_eq_true rfl, Nat.le_of_ble_eq_true rfl⟩ (fun r_11 g_10 H locs hw_12 hP hS => ?_)
  rw [hw_12] at hP
  refine lv_pop hx hb dL_law_418 rfl ?_
  refine lv_goto (tgt := 2069) hx hb dL_law_419 (by decide) ?_
  exact kk K g _ _ ls hKO hR hW hP hS hl

theorem dL_law_422 : decode cL_law 422 = .ok (.aload_n 1, 1) := by decide +kernel
theorem dL_law_423 : decode cL_law 423 = .ok (.aload_n 0, 1) := by decide +kernel
theorem dL_law_424 : decode cL_law 424 = .ok (.iload_n 3, 1) := by decide +kernel
theorem dL_law_425 : decode cL_law 425 = .ok (.iconst 1, 1) := by decide +kernel
theorem dL_law_426 : decode cL_law 426 = .ok (.iadd, 1) := by decide +kernel
theorem dL_law_427 : decode cL_law 427 = .ok (.iaload, 1) := by decide +kernel
theorem dL_law_428 : decode cL_law 428 = .ok (.invokevirtual 32, 3) := by decide +kernel
theorem dL_law_431 : decode cL_law 431 = .ok (.pop, 1) := by decide +kernel
theorem dL_law_432 : decode cL_law 432 = .ok (.aload_n 2, 1) := by decide +kernel
theorem dL_law_433 : decode cL_law 433 = .ok (.aload_n 0, 1) := by decide +kernel
theorem dL_law_434 : decode cL_law 434 = .ok (.iload_n 3, 1) := by decide +kernel
theorem dL_law_435 : decode cL_law 435 = .ok (.iconst 1, 1) := by decide +kernel
theorem dL_law_436 : decode cL_law 436 = .ok (.iadd, 1) := by decide +kernel
theorem dL_law_437 : decode cL_law 437 = .ok (.iaload, 1) := by decide +kernel
theorem dL_law_438 : decode cL_law 438 = .ok (.invokevirtual 35, 3) := by decide +kernel
theorem dL_law_441 : decode cL_law 441 = .ok (.pop, 1) := by decide +kernel
theorem dL_law_442 : decode cL_law 442 = .ok (.goto 1627, 3) := by decide +kernel
set_option maxRecDepth 20000 in
theorem mT_X11_isDay : wIn lw_tbl vX11_isDay := wIn.cons (List.mem_of_getElem? (i := 728) (by decide +kernel)) (wIn.app (wIn.r _ [486, 212] (by decide +kernel)) (wIn.app iT_11 iT_6))
set_option maxRecDepth 20000 in
theorem mT_X11_day : wIn lw_tbl vX11_day := wIn.cons (List.mem_of_getElem? (i := 724) (by decide +kernel)) (wIn.app (wIn.r _ [725, 727, 13, 98, 486, 235] (by decide +kernel)) (wIn.app iT_11 (wIn.app iT_6 mT_X11_isDay)))
theorem gL_X11_day : GoodIn lw_tbl (wsV RL 32 RX11 yX11_day vX11_day) := goodIn_app (goodIn_r _ [721, 722, 723, 98] (by decide +kernel) (by decide +kernel)) (fun w h => ⟨mT_X11_day w h, gs_X11_day w h⟩)
set_option maxRecDepth 20000 in
theorem mT_X12_isDay : wIn lw_tbl vX12_isDay := wIn.cons (List.mem_of_getElem? (i := 1492) (by decide +kernel)) (wIn.app (wIn.r _ [1262, 1387, 1388, 110] (by decide +kernel)) (wIn.app iT_12 mT_X12_in))
set_option maxRecDepth 20000 in
theorem mT_X12_thawOf : wIn lw_tbl vX12_thawOf := wIn.cons (List.mem_of_getElem? (i := 1496) (by decide +kernel)) (wIn.app (wIn.r _ [1262] (by decide +kernel)) iT_12)
set_option maxRecDepth 20000 in
theorem mT_X12_day : wIn lw_tbl vX12_day := wIn.cons (List.mem_of_getElem? (i := 1488) (by decide +kernel)) (wIn.app (wIn.r _ [1489, 1491, 54, 110, 1493, 1495, 55] (by decide +kernel)) (wIn.app mT_X12_isDay mT_X12_thawOf))
theorem gL_X12_day : GoodIn lw_tbl (wsV RL 35 RX12 yX12_day vX12_day) := goodIn_app (goodIn_r _ [1485, 1486, 1487, 110] (by decide +kernel) (by decide +kernel)) (fun w h => ⟨mT_X12_day w h, gs_X12_day w h⟩)
set_option maxHeartbeats 8000000 in
set_option maxRecDepth 100000 in
theorem law_c4 {p : Program} {e : Env} {s : State} {m : MethodId} {below : List Frame} {meth : Method} {c : Code} (l : Launch) {b L : Nat} {xs : Nat → Int32} {D : va_G} {cs : Nat → ClassId} {ad : Nat → Nat} {kS : kSt} {K : sK} {g : Nat → va_E} {H : Heap} {locs : List Loc} (hL : L ≤ 3072) (C0 : lw_At p s m meth c b L xs) (X : CxL p s m b meth c D cs) (Z : SX ad kS s s.heap) (hj : wJ ad 218) (hA : ∀ i, i < 218 → AL s (ad i)) (hKO : KO K) (hR : KR K) (hW : WF (shp ad K) ad cs g) (hP : va_P D vwCl (wL ad g 218) H) (hS : va_S (AL s) s.heap H locs) (ls : Array Slot) (ii : Int32) (hi0 : 0 ≤ ii.toInt) (hi1 : ii.toInt + 6 ≤ L) (hl : lv_has ls 4 [(3, .int ii), (2, .ref (ad 197)), (1, .ref (ad 0)), (0, .ref b)]) (kk : ∀ (K : sK) (g : Nat → va_E) (H : Heap) (locs : List Loc) (ls : Array Slot), KO K → KR K → WF (shp ad K) ad cs g → va_P D vwCl (wL ad g 218) H → va_S (AL s) s.heap H locs → lv_has ls 4 [(3, .int ii), (2, .ref (ad 197)), (1, .ref (ad 0)), (0, .ref b)] → W p l e room_1 s m #[Value.ref b] below meth c H locs 218 6259 (lw_Z below #[Value.ref b] s) (F0 m 2069 ls [])) : W p l e room_1 s m #[Value.ref b] below meth c H locs 218 6259 (lw_Z below #[Value.ref b] s) (F0 m 422 ls []) := by
  have hx := X.1
  have hb : c.code = cL_law := X.2.1
  obtain ⟨-, -, -, -, -, -, hX, hbl, -, -⟩ := id C0
  have hbA : ¬ AL s b := Nat.not_le.mpr hbl
  refine lv_aload_n hx hb dL_law_422 rfl (lv_at hl 2 rfl) ?_
  refine lv_aload_n hx hb dL_law_423 rfl (lv_at hl 3 rfl) ?_
  refine lv_iload_n hx hb dL_law_424 rfl (lv_at hl 0 rfl) ?_
  refine lv_iconst (v := 1) hx hb dL_law_425 (by decide) ?_
  refine lv_iadd hx hb dL_law_426 ?_
  refine lv_topi (fun z_1 ez_1 => ?_)
  have hz_1 : z_1.toInt = ii.toInt + 1 := n_add rfl (by decide : (1 : Int32).toInt = 1) ez_1 (by omega) (by omega)
  refine va_sld hx hb hX hbl hbA hS (i := z_1) (n_in (rfl : z_1.toInt = z_1.toInt) (by omega) (by omega)) dL_law_427 ?_
  refine lv_topi (fun x_2 ex_2 => ?_)
  obtain ⟨fso_3, hgo_3, -⟩ := hW.obj (i := 0) (by decide) (sh_0 ad _)
  refine s_calli (q := (RX11, TX11, 14)) (As := [.int x_2]) (rest := []) X Z (s_X11_day l D cs ad kS K hKO hj g hW x_2) (cwV 1 X.2.2.2.2.1 gL_X11_day rfl rfl rfl (by decide +kernel) ⟨Nat.le_of_ble_eq_true rfl, Nat.le_of_ble_eq_true rfl⟩) (by decide) hgo_3 rfl hP hA (fun a h _ => hS.2.1 a h (Nat.not_le.mpr h)) hS rfl hl.1 rfl (Nat.le_of_ble_eq_true rfl) dL_law_428 ⟨Nat.le_of_ble_eq_true rfl, Nat.le_of_ble_eq_true rfl⟩ (fun r_5 g_4 H locs hw_6 hP hS => ?_)
  rw [hw_6] at hP
  refine lv_pop hx hb dL_law_431 rfl ?_
  refine lv_aload_n hx hb dL_law_432 rfl (lv_at hl 1 rfl) ?_
  refine lv_aload_n hx hb dL_law_433 rfl (lv_at hl 3 rfl) ?_
  refine lv_iload_n hx hb dL_law_434 rfl (lv_at hl 0 rfl) ?_
  refine lv_iconst (v := 1) hx hb dL_law_435 (by decide) ?_
  refine lv_iadd hx hb dL_law_436 ?_
  refine lv_topi (fun z_7 ez_7 => ?_)
  have hz_7 : z_7.toInt = ii.toInt + 1 := n_add rfl (by decide : (1 : Int32).toInt = 1) ez_7 (by omega) (by omega)
  refine va_sld hx hb hX hbl hbA hS (i := z_7) (n_in (rfl : z_7.toInt = z_7.toInt) (by omega) (by omega)) dL_law_437 ?_
  refine lv_topi (fun x_8 ex_8 => ?_)
  obtain rfl : x_2 = x_8 := by rw [ex_2, ex_8, ez_1, ez_7]
  obtain ⟨fso_9, hgo_9, -⟩ := hW.obj (i := 197) (by decide) (sh_197 ad _)
  refine s_calli (q := (RX12, TX12, 40)) (As := [.int x_2]) (rest := []) X Z (s_X12_day l D cs ad kS K hKO hj g hW x_2) (cwV 1 X.2.2.2.2.1 gL_X12_day rfl rfl rfl (by decide +kernel) ⟨Nat.le_of_ble_eq_true rfl, Nat.le_of_ble_eq_true rfl⟩) (by decide) hgo_9 rfl hP hA (fun a h _ => hS.2.1 a h (Nat.not_le.mpr h)) hS rfl hl.1 rfl (Nat.le_of_ble_eq_true rfl) dL_law_438 ⟨Nat.le_of_ble_eq_true rfl, Nat.le_of_ble_eq_true rfl⟩ (fun r_11 g_10 H locs hw_12 hP hS => ?_)
  rw [hw_12] at hP
  refine lv_pop hx hb dL_law_441 rfl ?_
  refine lv_goto (tgt := 2069) hx hb dL_law_442 (by decide) ?_
  exact kk K g _ _ ls hKO hR hW hP hS hl

theorem dL_law_445 : decode cL_law 445 = .ok (.aload_n 1, 1) := by decide +kernel
theorem dL_law_446 : decode cL_law 446 = .ok (.aload_n 0, 1) := by decide +kernel
theorem dL_law_447 : decode cL_law 447 = .ok (.iload_n 3, 1) := by decide +kernel
theorem dL_law_448 : decode cL_law 448 = .ok (.iconst 1, 1) := by decide +kernel
theorem dL_law_449 : decode cL_law 449 = .ok (.iadd, 1) := by decide +kernel
theorem dL_law_450 : decode cL_law 450 = .ok (.iaload, 1) := by decide +kernel
theorem dL_law_451 : decode cL_law 451 = .ok (.aload_n 0, 1) := by decide +kernel
theorem dL_law_452 : decode cL_law 452 = .ok (.iload_n 3, 1) := by decide +kernel
theorem dL_law_453 : decode cL_law 453 = .ok (.iconst 2, 1) := by decide +kernel
theorem dL_law_454 : decode cL_law 454 = .ok (.iadd, 1) := by decide +kernel
theorem dL_law_455 : decode cL_law 455 = .ok (.iaload, 1) := by decide +kernel
theorem dL_law_456 : decode cL_law 456 = .ok (.invokevirtual 36, 3) := by decide +kernel
theorem dL_law_459 : decode cL_law 459 = .ok (.pop, 1) := by decide +kernel
theorem dL_law_460 : decode cL_law 460 = .ok (.aload_n 2, 1) := by decide +kernel
theorem dL_law_461 : decode cL_law 461 = .ok (.aload_n 0, 1) := by decide +kernel
theorem dL_law_462 : decode cL_law 462 = .ok (.iload_n 3, 1) := by decide +kernel
theorem dL_law_463 : decode cL_law 463 = .ok (.iconst 1, 1) := by decide +kernel
theorem dL_law_464 : decode cL_law 464 = .ok (.iadd, 1) := by decide +kernel
theorem dL_law_465 : decode cL_law 465 = .ok (.iaload, 1) := by decide +kernel
theorem dL_law_466 : decode cL_law 466 = .ok (.aload_n 0, 1) := by decide +kernel
theorem dL_law_467 : decode cL_law 467 = .ok (.iload_n 3, 1) := by decide +kernel
theorem dL_law_468 : decode cL_law 468 = .ok (.iconst 2, 1) := by decide +kernel
theorem dL_law_469 : decode cL_law 469 = .ok (.iadd, 1) := by decide +kernel
theorem dL_law_470 : decode cL_law 470 = .ok (.iaload, 1) := by decide +kernel
theorem dL_law_471 : decode cL_law 471 = .ok (.invokevirtual 40, 3) := by decide +kernel
theorem dL_law_474 : decode cL_law 474 = .ok (.pop, 1) := by decide +kernel
theorem dL_law_475 : decode cL_law 475 = .ok (.goto 1594, 3) := by decide +kernel
set_option maxRecDepth 20000 in
theorem mT_X11_isEave : wIn lw_tbl vX11_isEave := wIn.cons (List.mem_of_getElem? (i := 736) (by decide +kernel)) (wIn.app (wIn.r _ [486, 218] (by decide +kernel)) (wIn.app iT_11 iT_6))
set_option maxRecDepth 20000 in
theorem mT_X11_melt : wIn lw_tbl vX11_melt := wIn.cons (List.mem_of_getElem? (i := 732) (by decide +kernel)) (wIn.app (wIn.r _ [733, 735, 14, 98, 725, 727, 13, 486, 737, 710, 711, 100] (by decide +kernel)) (wIn.app iT_11 (wIn.app mT_X11_isEave (wIn.app mT_X11_isDay mT_X6_meltOn))))
theorem gL_X11_melt : GoodIn lw_tbl (wsV RL 36 RX11 yX11_melt vX11_melt) := goodIn_app (goodIn_r _ [729, 730, 731, 98] (by decide +kernel) (by decide +kernel)) (fun w h => ⟨mT_X11_melt w h, gs_X11_melt w h⟩)
set_option maxRecDepth 20000 in
theorem mT_X12_isEave : wIn lw_tbl vX12_isEave := wIn.cons (List.mem_of_getElem? (i := 1504) (by decide +kernel)) (wIn.app (wIn.r _ [1262, 1387, 1388, 110] (by decide +kernel)) (wIn.app iT_12 mT_X12_in))
set_option maxRecDepth 20000 in
theorem mT_X12_sunOf : wIn lw_tbl vX12_sunOf := wIn.cons (List.mem_of_getElem? (i := 1508) (by decide +kernel)) (wIn.app (wIn.r _ [1262] (by decide +kernel)) iT_12)
set_option maxRecDepth 20000 in
theorem mT_X12_meltBy : wIn lw_tbl vX12_meltBy := wIn.cons (List.mem_of_getElem? (i := 1511) (by decide +kernel)) (wIn.r _ [] (by decide +kernel))
set_option maxRecDepth 20000 in
theorem mT_X12_melt : wIn lw_tbl vX12_melt := wIn.cons (List.mem_of_getElem? (i := 1500) (by decide +kernel)) (wIn.app (wIn.r _ [1501, 1503, 56, 110, 1489, 1491, 54, 1493, 1495, 55, 1505, 1507, 57, 1509, 1510] (by decide +kernel)) (wIn.app mT_X12_isEave (wIn.app mT_X12_isDay (wIn.app mT_X12_thawOf (wIn.app mT_X12_sunOf mT_X12_meltBy)))))
theorem gL_X12_melt : GoodIn lw_tbl (wsV RL 40 RX12 yX12_melt vX12_melt) := goodIn_app (goodIn_r _ [1497, 1498, 1499, 110] (by decide +kernel) (by decide +kernel)) (fun w h => ⟨mT_X12_melt w h, gs_X12_melt w h⟩)
set_option maxHeartbeats 8000000 in
set_option maxRecDepth 100000 in
theorem law_c5 {p : Program} {e : Env} {s : State} {m : MethodId} {below : List Frame} {meth : Method} {c : Code} (l : Launch) {b L : Nat} {xs : Nat → Int32} {D : va_G} {cs : Nat → ClassId} {ad : Nat → Nat} {kS : kSt} {K : sK} {g : Nat → va_E} {H : Heap} {locs : List Loc} (hL : L ≤ 3072) (C0 : lw_At p s m meth c b L xs) (X : CxL p s m b meth c D cs) (Z : SX ad kS s s.heap) (hj : wJ ad 218) (hA : ∀ i, i < 218 → AL s (ad i)) (hKO : KO K) (hR : KR K) (hW : WF (shp ad K) ad cs g) (hP : va_P D vwCl (wL ad g 218) H) (hS : va_S (AL s) s.heap H locs) (ls : Array Slot) (ii : Int32) (hi0 : 0 ≤ ii.toInt) (hi1 : ii.toInt + 6 ≤ L) (hl : lv_has ls 4 [(3, .int ii), (2, .ref (ad 197)), (1, .ref (ad 0)), (0, .ref b)]) (kk : ∀ (K : sK) (g : Nat → va_E) (H : Heap) (locs : List Loc) (ls : Array Slot), KO K → KR K → WF (shp ad K) ad cs g → va_P D vwCl (wL ad g 218) H → va_S (AL s) s.heap H locs → lv_has ls 4 [(3, .int ii), (2, .ref (ad 197)), (1, .ref (ad 0)), (0, .ref b)] → W p l e room_1 s m #[Value.ref b] below meth c H locs 218 6259 (lw_Z below #[Value.ref b] s) (F0 m 2069 ls [])) : W p l e room_1 s m #[Value.ref b] below meth c H locs 218 6259 (lw_Z below #[Value.ref b] s) (F0 m 445 ls []) := by
  have hx := X.1
  have hb : c.code = cL_law := X.2.1
  obtain ⟨-, -, -, -, -, -, hX, hbl, -, -⟩ := id C0
  have hbA : ¬ AL s b := Nat.not_le.mpr hbl
  refine lv_aload_n hx hb dL_law_445 rfl (lv_at hl 2 rfl) ?_
  refine lv_aload_n hx hb dL_law_446 rfl (lv_at hl 3 rfl) ?_
  refine lv_iload_n hx hb dL_law_447 rfl (lv_at hl 0 rfl) ?_
  refine lv_iconst (v := 1) hx hb dL_law_448 (by decide) ?_
  refine lv_iadd hx hb dL_law_449 ?_
  refine lv_topi (fun z_1 ez_1 => ?_)
  have hz_1 : z_1.toInt = ii.toInt + 1 := n_add rfl (by decide : (1 : Int32).toInt = 1) ez_1 (by omega) (by omega)
  refine va_sld hx hb hX hbl hbA hS (i := z_1) (n_in (rfl : z_1.toInt = z_1.toInt) (by omega) (by omega)) dL_law_450 ?_
  refine lv_topi (fun x_2 ex_2 => ?_)
  refine lv_aload_n hx hb dL_law_451 rfl (lv_at hl 3 rfl) ?_
  refine lv_iload_n hx hb dL_law_452 rfl (lv_at hl 0 rfl) ?_
  refine lv_iconst (v := 2) hx hb dL_law_453 (by decide) ?_
  refine lv_iadd hx hb dL_law_454 ?_
  refine lv_topi (fun z_3 ez_3 => ?_)
  have hz_3 : z_3.toInt = ii.toInt + 2 := n_add rfl (by decide : (2 : Int32).toInt = 2) ez_3 (by omega) (by omega)
  refine va_sld hx hb hX hbl hbA hS (i := z_3) (n_in (rfl : z_3.toInt = z_3.toInt) (by omega) (by omega)) dL_law_455 ?_
  refine lv_topi (fun x_4 ex_4 => ?_)
  obtain ⟨fso_5, hgo_5, -⟩ := hW.obj (i := 0) (by decide) (sh_0 ad _)
  refine s_calli (q := (RX11, TX11, 14)) (As := [.int x_2, .int x_4]) (rest := []) X Z (s_X11_melt l D cs ad kS K hKO hj g hW x_2 x_4) (cwV 2 X.2.2.2.2.1 gL_X11_melt rfl rfl rfl (by decide +kernel) ⟨Nat.le_of_ble_eq_true rfl, Nat.le_of_ble_eq_true rfl⟩) (by decide) hgo_5 rfl hP hA (fun a h _ => hS.2.1 a h (Nat.not_le.mpr h)) hS rfl hl.1 rfl (Nat.le_of_ble_eq_true rfl) dL_law_456 ⟨Nat.le_of_ble_eq_true rfl, Nat.le_of_ble_eq_true rfl⟩ (fun r_7 g_6 H locs hw_8 hP hS => ?_)
  rw [hw_8] at hP
  refine lv_pop hx hb dL_law_459 rfl ?_
  refine lv_aload_n hx hb dL_law_460 rfl (lv_at hl 1 rfl) ?_
  refine lv_aload_n hx hb dL_law_461 rfl (lv_at hl 3 rfl) ?_
  refine lv_iload_n hx hb dL_law_462 rfl (lv_at hl 0 rfl) ?_
  refine lv_iconst (v := 1) hx hb dL_law_463 (by decide) ?_
  refine lv_iadd hx hb dL_law_464 ?_
  refine lv_topi (fun z_9 ez_9 => ?_)
  have hz_9 : z_9.toInt = ii.toInt + 1 := n_add rfl (by decide : (1 : Int32).toInt = 1) ez_9 (by omega) (by omega)
  refine va_sld hx hb hX hbl hbA hS (i := z_9) (n_in (rfl : z_9.toInt = z_9.toInt) (by omega) (by omega)) dL_law_465 ?_
  refine lv_topi (fun x_10 ex_10 => ?_)
  obtain rfl : x_2 = x_10 := by rw [ex_2, ex_10, ez_1, ez_9]
  refine lv_aload_n hx hb dL_law_466 rfl (lv_at hl 3 rfl) ?_
  refine lv_iload_n hx hb dL_law_467 rfl (lv_at hl 0 rfl) ?_
  refine lv_iconst (v := 2) hx hb dL_law_468 (by decide) ?_
  refine lv_iadd hx hb dL_law_469 ?_
  refine lv_topi (fun z_11 ez_11 => ?_)
  have hz_11 : z_11.toInt = ii.toInt + 2 := n_add rfl (by decide : (2 : Int32).toInt = 2) ez_11 (by omega) (by omega)
  refine va_sld hx hb hX hbl hbA hS (i := z_11) (n_in (rfl : z_11.toInt = z_11.toInt) (by omega) (by omega)) dL_law_470 ?_
  refine lv_topi (fun x_12 ex_12 => ?_)
  obtain rfl : x_4 = x_12 := by rw [ex_4, ex_12, ez_3, ez_11]
  obtain ⟨fso_13, hgo_13, -⟩ := hW.obj (i := 197) (by decide) (sh_197 ad _)
  refine s_calli (q := (RX12, TX12, 40)) (As := [.int x_2, .int x_4]) (rest := []) X Z (s_X12_melt l D cs ad kS K hKO hj g hW x_2 x_4) (cwV 2 X.2.2.2.2.1 gL_X12_melt rfl rfl rfl (by decide +kernel) ⟨Nat.le_of_ble_eq_true rfl, Nat.le_of_ble_eq_true rfl⟩) (by decide) hgo_13 rfl hP hA (fun a h _ => hS.2.1 a h (Nat.not_le.mpr h)) hS rfl hl.1 rfl (Nat.le_of_ble_eq_true rfl) dL_law_471 ⟨Nat.le_of_ble_eq_true rfl, Nat.le_of_ble_eq_true rfl⟩ (fun r_15 g_14 H locs hw_16 hP hS => ?_)
  rw [hw_16] at hP
  refine lv_pop hx hb dL_law_474 rfl ?_
  refine lv_goto (tgt := 2069) hx hb dL_law_475 (by decide) ?_
  exact kk K g _ _ ls hKO hR hW hP hS hl

theorem dL_law_478 : decode cL_law 478 = .ok (.aload_n 1, 1) := by decide +kernel
theorem dL_law_479 : decode cL_law 479 = .ok (.aload_n 0, 1) := by decide +kernel
theorem dL_law_480 : decode cL_law 480 = .ok (.iload_n 3, 1) := by decide +kernel
theorem dL_law_481 : decode cL_law 481 = .ok (.iconst 1, 1) := by decide +kernel
theorem dL_law_482 : decode cL_law 482 = .ok (.iadd, 1) := by decide +kernel
theorem dL_law_483 : decode cL_law 483 = .ok (.iaload, 1) := by decide +kernel
theorem dL_law_484 : decode cL_law 484 = .ok (.aload_n 0, 1) := by decide +kernel
theorem dL_law_485 : decode cL_law 485 = .ok (.iload_n 3, 1) := by decide +kernel
theorem dL_law_486 : decode cL_law 486 = .ok (.iconst 2, 1) := by decide +kernel
theorem dL_law_487 : decode cL_law 487 = .ok (.iadd, 1) := by decide +kernel
theorem dL_law_488 : decode cL_law 488 = .ok (.iaload, 1) := by decide +kernel
theorem dL_law_489 : decode cL_law 489 = .ok (.invokevirtual 41, 3) := by decide +kernel
theorem dL_law_492 : decode cL_law 492 = .ok (.pop, 1) := by decide +kernel
theorem dL_law_493 : decode cL_law 493 = .ok (.aload_n 2, 1) := by decide +kernel
theorem dL_law_494 : decode cL_law 494 = .ok (.aload_n 0, 1) := by decide +kernel
theorem dL_law_495 : decode cL_law 495 = .ok (.iload_n 3, 1) := by decide +kernel
theorem dL_law_496 : decode cL_law 496 = .ok (.iconst 1, 1) := by decide +kernel
theorem dL_law_497 : decode cL_law 497 = .ok (.iadd, 1) := by decide +kernel
theorem dL_law_498 : decode cL_law 498 = .ok (.iaload, 1) := by decide +kernel
theorem dL_law_499 : decode cL_law 499 = .ok (.aload_n 0, 1) := by decide +kernel
theorem dL_law_500 : decode cL_law 500 = .ok (.iload_n 3, 1) := by decide +kernel
theorem dL_law_501 : decode cL_law 501 = .ok (.iconst 2, 1) := by decide +kernel
theorem dL_law_502 : decode cL_law 502 = .ok (.iadd, 1) := by decide +kernel
theorem dL_law_503 : decode cL_law 503 = .ok (.iaload, 1) := by decide +kernel
theorem dL_law_504 : decode cL_law 504 = .ok (.invokevirtual 44, 3) := by decide +kernel
theorem dL_law_507 : decode cL_law 507 = .ok (.pop, 1) := by decide +kernel
theorem dL_law_508 : decode cL_law 508 = .ok (.goto 1561, 3) := by decide +kernel
set_option maxRecDepth 20000 in
theorem mT_X11_isIcicle : wIn lw_tbl vX11_isIcicle := wIn.cons (List.mem_of_getElem? (i := 745) (by decide +kernel)) (wIn.app (wIn.r _ [486, 225] (by decide +kernel)) (wIn.app iT_11 iT_6))
set_option maxRecDepth 20000 in
theorem mT_X11_icicle : wIn lw_tbl vX11_icicle := wIn.cons (List.mem_of_getElem? (i := 741) (by decide +kernel)) (wIn.app (wIn.r _ [742, 744, 15, 98, 486, 261, 253, 250] (by decide +kernel)) (wIn.app iT_11 (wIn.app iT_6 mT_X11_isIcicle)))
theorem gL_X11_icicle : GoodIn lw_tbl (wsV RL 41 RX11 yX11_icicle vX11_icicle) := goodIn_app (goodIn_r _ [738, 739, 740, 98] (by decide +kernel) (by decide +kernel)) (fun w h => ⟨mT_X11_icicle w h, gs_X11_icicle w h⟩)
set_option maxRecDepth 20000 in
theorem mT_X12_isIcicle : wIn lw_tbl vX12_isIcicle := wIn.cons (List.mem_of_getElem? (i := 1519) (by decide +kernel)) (wIn.app (wIn.r _ [1262, 1387, 1388, 110] (by decide +kernel)) (wIn.app iT_12 mT_X12_in))
set_option maxRecDepth 20000 in
theorem mT_X12_of : wIn lw_tbl vX12_of := wIn.cons (List.mem_of_getElem? (i := 1523) (by decide +kernel)) (wIn.app (wIn.r _ [1262] (by decide +kernel)) iT_12)
set_option maxRecDepth 20000 in
theorem mT_X12_icicle : wIn lw_tbl vX12_icicle := wIn.cons (List.mem_of_getElem? (i := 1515) (by decide +kernel)) (wIn.app (wIn.r _ [1516, 1518, 58, 110, 1386, 1387, 1388, 1520, 1522, 59] (by decide +kernel)) (wIn.app mT_X12_isIcicle (wIn.app mT_X12_in mT_X12_of)))
theorem gL_X12_icicle : GoodIn lw_tbl (wsV RL 44 RX12 yX12_icicle vX12_icicle) := goodIn_app (goodIn_r _ [1512, 1513, 1514, 110] (by decide +kernel) (by decide +kernel)) (fun w h => ⟨mT_X12_icicle w h, gs_X12_icicle w h⟩)
set_option maxHeartbeats 8000000 in
set_option maxRecDepth 100000 in
theorem law_c6 {p : Program} {e : Env} {s : State} {m : MethodId} {below : List Frame} {meth : Method} {c : Code} (l : Launch) {b L : Nat} {xs : Nat → Int32} {D : va_G} {cs : Nat → ClassId} {ad : Nat → Nat} {kS : kSt} {K : sK} {g : Nat → va_E} {H : Heap} {locs : List Loc} (hL : L ≤ 3072) (C0 : lw_At p s m meth c b L xs) (X : CxL p s m b meth c D cs) (Z : SX ad kS s s.heap) (hj : wJ ad 218) (hA : ∀ i, i < 218 → AL s (ad i)) (hKO : KO K) (hR : KR K) (hW : WF (shp ad K) ad cs g) (hP : va_P D vwCl (wL ad g 218) H) (hS : va_S (AL s) s.heap H locs) (ls : Array Slot) (ii : Int32) (hi0 : 0 ≤ ii.toInt) (hi1 : ii.toInt + 6 ≤ L) (hl : lv_has ls 4 [(3, .int ii), (2, .ref (ad 197)), (1, .ref (ad 0)), (0, .ref b)]) (kk : ∀ (K : sK) (g : Nat → va_E) (H : Heap) (locs : List Loc) (ls : Array Slot), KO K → KR K → WF (shp ad K) ad cs g → va_P D vwCl (wL ad g 218) H → va_S (AL s) s.heap H locs → lv_has ls 4 [(3, .int ii), (2, .ref (ad 197)), (1, .ref (ad 0)), (0, .ref b)] → W p l e room_1 s m #[Value.ref b] below meth c H locs 218 6259 (lw_Z below #[Value.ref b] s) (F0 m 2069 ls [])) : W p l e room_1 s m #[Value.ref b] below meth c H locs 218 6259 (lw_Z below #[Value.ref b] s) (F0 m 478 ls []) := by
  have hx := X.1
  have hb : c.code = cL_law := X.2.1
  obtain ⟨-, -, -, -, -, -, hX, hbl, -, -⟩ := id C0
  have hbA : ¬ AL s b := Nat.not_le.mpr hbl
  refine lv_aload_n hx hb dL_law_478 rfl (lv_at hl 2 rfl) ?_
  refine lv_aload_n hx hb dL_law_479 rfl (lv_at hl 3 rfl) ?_
  refine lv_iload_n hx hb dL_law_480 rfl (lv_at hl 0 rfl) ?_
  refine lv_iconst (v := 1) hx hb dL_law_481 (by decide) ?_
  refine lv_iadd hx hb dL_law_482 ?_
  refine lv_topi (fun z_1 ez_1 => ?_)
  have hz_1 : z_1.toInt = ii.toInt + 1 := n_add rfl (by decide : (1 : Int32).toInt = 1) ez_1 (by omega) (by omega)
  refine va_sld hx hb hX hbl hbA hS (i := z_1) (n_in (rfl : z_1.toInt = z_1.toInt) (by omega) (by omega)) dL_law_483 ?_
  refine lv_topi (fun x_2 ex_2 => ?_)
  refine lv_aload_n hx hb dL_law_484 rfl (lv_at hl 3 rfl) ?_
  refine lv_iload_n hx hb dL_law_485 rfl (lv_at hl 0 rfl) ?_
  refine lv_iconst (v := 2) hx hb dL_law_486 (by decide) ?_
  refine lv_iadd hx hb dL_law_487 ?_
  refine lv_topi (fun z_3 ez_3 => ?_)
  have hz_3 : z_3.toInt = ii.toInt + 2 := n_add rfl (by decide : (2 : Int32).toInt = 2) ez_3 (by omega) (by omega)
  refine va_sld hx hb hX hbl hbA hS (i := z_3) (n_in (rfl : z_3.toInt = z_3.toInt) (by omega) (by omega)) dL_law_488 ?_
  refine lv_topi (fun x_4 ex_4 => ?_)
  obtain ⟨fso_5, hgo_5, -⟩ := hW.obj (i := 0) (by decide) (sh_0 ad _)
  refine s_calli (q := (RX11, TX11, 14)) (As := [.int x_2, .int x_4]) (rest := []) X Z (s_X11_icicle l D cs ad kS K hKO hj g hW x_2 x_4) (cwV 2 X.2.2.2.2.1 gL_X11_icicle rfl rfl rfl (by decide +kernel) ⟨Nat.le_of_ble_eq_true rfl, Nat.le_of_ble_eq_true rfl⟩) (by decide) hgo_5 rfl hP hA (fun a h _ => hS.2.1 a h (Nat.not_le.mpr h)) hS rfl hl.1 rfl (Nat.le_of_ble_eq_true rfl) dL_law_489 ⟨Nat.le_of_ble_eq_true rfl, Nat.le_of_ble_eq_true rfl⟩ (fun r_7 g_6 H locs hw_8 hP hS => ?_)
  rw [hw_8] at hP
  refine lv_pop hx hb dL_law_492 rfl ?_
  refine lv_aload_n hx hb dL_law_493 rfl (lv_at hl 1 rfl) ?_
  refine lv_aload_n hx hb dL_law_494 rfl (lv_at hl 3 rfl) ?_
  refine lv_iload_n hx hb dL_law_495 rfl (lv_at hl 0 rfl) ?_
  refine lv_iconst (v := 1) hx hb dL_law_496 (by decide) ?_
  refine lv_iadd hx hb dL_law_497 ?_
  refine lv_topi (fun z_9 ez_9 => ?_)
  have hz_9 : z_9.toInt = ii.toInt + 1 := n_add rfl (by decide : (1 : Int32).toInt = 1) ez_9 (by omega) (by omega)
  refine va_sld hx hb hX hbl hbA hS (i := z_9) (n_in (rfl : z_9.toInt = z_9.toInt) (by omega) (by omega)) dL_law_498 ?_
  refine lv_topi (fun x_10 ex_10 => ?_)
  obtain rfl : x_2 = x_10 := by rw [ex_2, ex_10, ez_1, ez_9]
  refine lv_aload_n hx hb dL_law_499 rfl (lv_at hl 3 rfl) ?_
  refine lv_iload_n hx hb dL_law_500 rfl (lv_at hl 0 rfl) ?_
  refine lv_iconst (v := 2) hx hb dL_law_501 (by decide) ?_
  refine lv_iadd hx hb dL_law_502 ?_
  refine lv_topi (fun z_11 ez_11 => ?_)
  have hz_11 : z_11.toInt = ii.toInt + 2 := n_add rfl (by decide : (2 : Int32).toInt = 2) ez_11 (by omega) (by omega)
  refine va_sld hx hb hX hbl hbA hS (i := z_11) (n_in (rfl : z_11.toInt = z_11.toInt) (by omega) (by omega)) dL_law_503 ?_
  refine lv_topi (fun x_12 ex_12 => ?_)
  obtain rfl : x_4 = x_12 := by rw [ex_4, ex_12, ez_3, ez_11]
  obtain ⟨fso_13, hgo_13, -⟩ := hW.obj (i := 197) (by decide) (sh_197 ad _)
  refine s_calli (q := (RX12, TX12, 40)) (As := [.int x_2, .int x_4]) (rest := []) X Z (s_X12_icicle l D cs ad kS K hKO hj g hW x_2 x_4) (cwV 2 X.2.2.2.2.1 gL_X12_icicle rfl rfl rfl (by decide +kernel) ⟨Nat.le_of_ble_eq_true rfl, Nat.le_of_ble_eq_true rfl⟩) (by decide) hgo_13 rfl hP hA (fun a h _ => hS.2.1 a h (Nat.not_le.mpr h)) hS rfl hl.1 rfl (Nat.le_of_ble_eq_true rfl) dL_law_504 ⟨Nat.le_of_ble_eq_true rfl, Nat.le_of_ble_eq_true rfl⟩ (fun r_15 g_14 H locs hw_16 hP hS => ?_)
  rw [hw_16] at hP
  refine lv_pop hx hb dL_law_507 rfl ?_
  refine lv_goto (tgt := 2069) hx hb dL_law_508 (by decide) ?_
  exact kk K g _ _ ls hKO hR hW hP hS hl

theorem dL_law_511 : decode cL_law 511 = .ok (.aload_n 1, 1) := by decide +kernel
theorem dL_law_512 : decode cL_law 512 = .ok (.aload_n 0, 1) := by decide +kernel
theorem dL_law_513 : decode cL_law 513 = .ok (.iload_n 3, 1) := by decide +kernel
theorem dL_law_514 : decode cL_law 514 = .ok (.iconst 1, 1) := by decide +kernel
theorem dL_law_515 : decode cL_law 515 = .ok (.iadd, 1) := by decide +kernel
theorem dL_law_516 : decode cL_law 516 = .ok (.iaload, 1) := by decide +kernel
theorem dL_law_517 : decode cL_law 517 = .ok (.aload_n 0, 1) := by decide +kernel
theorem dL_law_518 : decode cL_law 518 = .ok (.iload_n 3, 1) := by decide +kernel
theorem dL_law_519 : decode cL_law 519 = .ok (.iconst 2, 1) := by decide +kernel
theorem dL_law_520 : decode cL_law 520 = .ok (.iadd, 1) := by decide +kernel
theorem dL_law_521 : decode cL_law 521 = .ok (.iaload, 1) := by decide +kernel
theorem dL_law_522 : decode cL_law 522 = .ok (.invokevirtual 45, 3) := by decide +kernel
theorem dL_law_525 : decode cL_law 525 = .ok (.pop, 1) := by decide +kernel
theorem dL_law_526 : decode cL_law 526 = .ok (.aload_n 2, 1) := by decide +kernel
theorem dL_law_527 : decode cL_law 527 = .ok (.aload_n 0, 1) := by decide +kernel
theorem dL_law_528 : decode cL_law 528 = .ok (.iload_n 3, 1) := by decide +kernel
theorem dL_law_529 : decode cL_law 529 = .ok (.iconst 1, 1) := by decide +kernel
theorem dL_law_530 : decode cL_law 530 = .ok (.iadd, 1) := by decide +kernel
theorem dL_law_531 : decode cL_law 531 = .ok (.iaload, 1) := by decide +kernel
theorem dL_law_532 : decode cL_law 532 = .ok (.aload_n 0, 1) := by decide +kernel
theorem dL_law_533 : decode cL_law 533 = .ok (.iload_n 3, 1) := by decide +kernel
theorem dL_law_534 : decode cL_law 534 = .ok (.iconst 2, 1) := by decide +kernel
theorem dL_law_535 : decode cL_law 535 = .ok (.iadd, 1) := by decide +kernel
theorem dL_law_536 : decode cL_law 536 = .ok (.iaload, 1) := by decide +kernel
theorem dL_law_537 : decode cL_law 537 = .ok (.invokevirtual 48, 3) := by decide +kernel
theorem dL_law_540 : decode cL_law 540 = .ok (.pop, 1) := by decide +kernel
theorem dL_law_541 : decode cL_law 541 = .ok (.goto 1528, 3) := by decide +kernel
set_option maxRecDepth 20000 in
theorem mT_X11_isWork : wIn lw_tbl vX11_isWork := wIn.cons (List.mem_of_getElem? (i := 753) (by decide +kernel)) (wIn.app (wIn.r _ [486, 229] (by decide +kernel)) (wIn.app iT_11 iT_6))
set_option maxRecDepth 20000 in
theorem mT_X11_isEither : wIn lw_tbl vX11_isEither := wIn.cons (List.mem_of_getElem? (i := 756) (by decide +kernel)) (wIn.r _ [] (by decide +kernel))
set_option maxRecDepth 20000 in
theorem mT_X11_work : wIn lw_tbl vX11_work := wIn.cons (List.mem_of_getElem? (i := 749) (by decide +kernel)) (wIn.app (wIn.r _ [750, 752, 16, 98, 754, 755, 486, 265, 269] (by decide +kernel)) (wIn.app iT_11 (wIn.app iT_6 (wIn.app mT_X11_isWork mT_X11_isEither))))
theorem gL_X11_work : GoodIn lw_tbl (wsV RL 45 RX11 yX11_work vX11_work) := goodIn_app (goodIn_r _ [746, 747, 748, 98] (by decide +kernel) (by decide +kernel)) (fun w h => ⟨mT_X11_work w h, gs_X11_work w h⟩)
set_option maxRecDepth 20000 in
theorem mT_X12_isWork : wIn lw_tbl vX12_isWork := wIn.cons (List.mem_of_getElem? (i := 1531) (by decide +kernel)) (wIn.app (wIn.r _ [1262, 1387, 1388, 110] (by decide +kernel)) (wIn.app iT_12 mT_X12_in))
set_option maxRecDepth 20000 in
theorem mT_X12_work : wIn lw_tbl vX12_work := wIn.cons (List.mem_of_getElem? (i := 1527) (by decide +kernel)) (wIn.app (wIn.r _ [1528, 1530, 60, 110, 1387, 1388, 1262] (by decide +kernel)) (wIn.app iT_12 (wIn.app mT_X12_isWork mT_X12_in)))
theorem gL_X12_work : GoodIn lw_tbl (wsV RL 48 RX12 yX12_work vX12_work) := goodIn_app (goodIn_r _ [1524, 1525, 1526, 110] (by decide +kernel) (by decide +kernel)) (fun w h => ⟨mT_X12_work w h, gs_X12_work w h⟩)
set_option maxHeartbeats 8000000 in
set_option maxRecDepth 100000 in
theorem law_c7 {p : Program} {e : Env} {s : State} {m : MethodId} {below : List Frame} {meth : Method} {c : Code} (l : Launch) {b L : Nat} {xs : Nat → Int32} {D : va_G} {cs : Nat → ClassId} {ad : Nat → Nat} {kS : kSt} {K : sK} {g : Nat → va_E} {H : Heap} {locs : List Loc} (hL : L ≤ 3072) (C0 : lw_At p s m meth c b L xs) (X : CxL p s m b meth c D cs) (Z : SX ad kS s s.heap) (hj : wJ ad 218) (hA : ∀ i, i < 218 → AL s (ad i)) (hKO : KO K) (hR : KR K) (hW : WF (shp ad K) ad cs g) (hP : va_P D vwCl (wL ad g 218) H) (hS : va_S (AL s) s.heap H locs) (ls : Array Slot) (ii : Int32) (hi0 : 0 ≤ ii.toInt) (hi1 : ii.toInt + 6 ≤ L) (hl : lv_has ls 4 [(3, .int ii), (2, .ref (ad 197)), (1, .ref (ad 0)), (0, .ref b)]) (kk : ∀ (K : sK) (g : Nat → va_E) (H : Heap) (locs : List Loc) (ls : Array Slot), KO K → KR K → WF (shp ad K) ad cs g → va_P D vwCl (wL ad g 218) H → va_S (AL s) s.heap H locs → lv_has ls 4 [(3, .int ii), (2, .ref (ad 197)), (1, .ref (ad 0)), (0, .ref b)] → W p l e room_1 s m #[Value.ref b] below meth c H locs 218 6259 (lw_Z below #[Value.ref b] s) (F0 m 2069 ls [])) : W p l e room_1 s m #[Value.ref b] below meth c H locs 218 6259 (lw_Z below #[Value.ref b] s) (F0 m 511 ls []) := by
  have hx := X.1
  have hb : c.code = cL_law := X.2.1
  obtain ⟨-, -, -, -, -, -, hX, hbl, -, -⟩ := id C0
  have hbA : ¬ AL s b := Nat.not_le.mpr hbl
  refine lv_aload_n hx hb dL_law_511 rfl (lv_at hl 2 rfl) ?_
  refine lv_aload_n hx hb dL_law_512 rfl (lv_at hl 3 rfl) ?_
  refine lv_iload_n hx hb dL_law_513 rfl (lv_at hl 0 rfl) ?_
  refine lv_iconst (v := 1) hx hb dL_law_514 (by decide) ?_
  refine lv_iadd hx hb dL_law_515 ?_
  refine lv_topi (fun z_1 ez_1 => ?_)
  have hz_1 : z_1.toInt = ii.toInt + 1 := n_add rfl (by decide : (1 : Int32).toInt = 1) ez_1 (by omega) (by omega)
  refine va_sld hx hb hX hbl hbA hS (i := z_1) (n_in (rfl : z_1.toInt = z_1.toInt) (by omega) (by omega)) dL_law_516 ?_
  refine lv_topi (fun x_2 ex_2 => ?_)
  refine lv_aload_n hx hb dL_law_517 rfl (lv_at hl 3 rfl) ?_
  refine lv_iload_n hx hb dL_law_518 rfl (lv_at hl 0 rfl) ?_
  refine lv_iconst (v := 2) hx hb dL_law_519 (by decide) ?_
  refine lv_iadd hx hb dL_law_520 ?_
  refine lv_topi (fun z_3 ez_3 => ?_)
  have hz_3 : z_3.toInt = ii.toInt + 2 := n_add rfl (by decide : (2 : Int32).toInt = 2) ez_3 (by omega) (by omega)
  refine va_sld hx hb hX hbl hbA hS (i := z_3) (n_in (rfl : z_3.toInt = z_3.toInt) (by omega) (by omega)) dL_law_521 ?_
  refine lv_topi (fun x_4 ex_4 => ?_)
  obtain ⟨fso_5, hgo_5, -⟩ := hW.obj (i := 0) (by decide) (sh_0 ad _)
  refine s_calli (q := (RX11, TX11, 14)) (As := [.int x_2, .int x_4]) (rest := []) X Z (s_X11_work l D cs ad kS K hKO hj g hW x_2 x_4) (cwV 2 X.2.2.2.2.1 gL_X11_work rfl rfl rfl (by decide +kernel) ⟨Nat.le_of_ble_eq_true rfl, Nat.le_of_ble_eq_true rfl⟩) (by decide) hgo_5 rfl hP hA (fun a h _ => hS.2.1 a h (Nat.not_le.mpr h)) hS rfl hl.1 rfl (Nat.le_of_ble_eq_true rfl) dL_law_522 ⟨Nat.le_of_ble_eq_true rfl, Nat.le_of_ble_eq_true rfl⟩ (fun r_7 g_6 H locs hw_8 hP hS => ?_)
  rw [hw_8] at hP
  refine lv_pop hx hb dL_law_525 rfl ?_
  refine lv_aload_n hx hb dL_law_526 rfl (lv_at hl 1 rfl) ?_
  refine lv_aload_n hx hb dL_law_527 rfl (lv_at hl 3 rfl) ?_
  refine lv_iload_n hx hb dL_law_528 rfl (lv_at hl 0 rfl) ?_
  refine lv_iconst (v := 1) hx hb dL_law_529 (by decide) ?_
  refine lv_iadd hx hb dL_law_530 ?_
  refine lv_topi (fun z_9 ez_9 => ?_)
  have hz_9 : z_9.toInt = ii.toInt + 1 := n_add rfl (by decide : (1 : Int32).toInt = 1) ez_9 (by omega) (by omega)
  refine va_sld hx hb hX hbl hbA hS (i := z_9) (n_in (rfl : z_9.toInt = z_9.toInt) (by omega) (by omega)) dL_law_531 ?_
  refine lv_topi (fun x_10 ex_10 => ?_)
  obtain rfl : x_2 = x_10 := by rw [ex_2, ex_10, ez_1, ez_9]
  refine lv_aload_n hx hb dL_law_532 rfl (lv_at hl 3 rfl) ?_
  refine lv_iload_n hx hb dL_law_533 rfl (lv_at hl 0 rfl) ?_
  refine lv_iconst (v := 2) hx hb dL_law_534 (by decide) ?_
  refine lv_iadd hx hb dL_law_535 ?_
  refine lv_topi (fun z_11 ez_11 => ?_)
  have hz_11 : z_11.toInt = ii.toInt + 2 := n_add rfl (by decide : (2 : Int32).toInt = 2) ez_11 (by omega) (by omega)
  refine va_sld hx hb hX hbl hbA hS (i := z_11) (n_in (rfl : z_11.toInt = z_11.toInt) (by omega) (by omega)) dL_law_536 ?_
  refine lv_topi (fun x_12 ex_12 => ?_)
  obtain rfl : x_4 = x_12 := by rw [ex_4, ex_12, ez_3, ez_11]
  obtain ⟨fso_13, hgo_13, -⟩ := hW.obj (i := 197) (by decide) (sh_197 ad _)
  refine s_calli (q := (RX12, TX12, 40)) (As := [.int x_2, .int x_4]) (rest := []) X Z (s_X12_work l D cs ad kS K hKO hj g hW x_2 x_4) (cwV 2 X.2.2.2.2.1 gL_X12_work rfl rfl rfl (by decide +kernel) ⟨Nat.le_of_ble_eq_true rfl, Nat.le_of_ble_eq_true rfl⟩) (by decide) hgo_13 rfl hP hA (fun a h _ => hS.2.1 a h (Nat.not_le.mpr h)) hS rfl hl.1 rfl (Nat.le_of_ble_eq_true rfl) dL_law_537 ⟨Nat.le_of_ble_eq_true rfl, Nat.le_of_ble_eq_true rfl⟩ (fun r_15 g_14 H locs hw_16 hP hS => ?_)
  rw [hw_16] at hP
  refine lv_pop hx hb dL_law_540 rfl ?_
  refine lv_goto (tgt := 2069) hx hb dL_law_541 (by decide) ?_
  exact kk K g _ _ ls hKO hR hW hP hS hl

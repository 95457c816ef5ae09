theorem dL_law_1360 : decode cL_law 1360 = .ok (.aload_n 1, 1) := by decide +kernel
theorem dL_law_1361 : decode cL_law 1361 = .ok (.aload_n 0, 1) := by decide +kernel
theorem dL_law_1362 : decode cL_law 1362 = .ok (.iload_n 3, 1) := by decide +kernel
theorem dL_law_1363 : decode cL_law 1363 = .ok (.iconst 1, 1) := by decide +kernel
theorem dL_law_1364 : decode cL_law 1364 = .ok (.iadd, 1) := by decide +kernel
theorem dL_law_1365 : decode cL_law 1365 = .ok (.iaload, 1) := by decide +kernel
theorem dL_law_1366 : decode cL_law 1366 = .ok (.aload_n 0, 1) := by decide +kernel
theorem dL_law_1367 : decode cL_law 1367 = .ok (.iload_n 3, 1) := by decide +kernel
theorem dL_law_1368 : decode cL_law 1368 = .ok (.iconst 2, 1) := by decide +kernel
theorem dL_law_1369 : decode cL_law 1369 = .ok (.iadd, 1) := by decide +kernel
theorem dL_law_1370 : decode cL_law 1370 = .ok (.iaload, 1) := by decide +kernel
theorem dL_law_1371 : decode cL_law 1371 = .ok (.aload_n 0, 1) := by decide +kernel
theorem dL_law_1372 : decode cL_law 1372 = .ok (.iload_n 3, 1) := by decide +kernel
theorem dL_law_1373 : decode cL_law 1373 = .ok (.iconst 3, 1) := by decide +kernel
theorem dL_law_1374 : decode cL_law 1374 = .ok (.iadd, 1) := by decide +kernel
theorem dL_law_1375 : decode cL_law 1375 = .ok (.iaload, 1) := by decide +kernel
theorem dL_law_1376 : decode cL_law 1376 = .ok (.invokevirtual 178, 3) := by decide +kernel
theorem dL_law_1379 : decode cL_law 1379 = .ok (.pop, 1) := by decide +kernel
theorem dL_law_1380 : decode cL_law 1380 = .ok (.aload_n 2, 1) := by decide +kernel
theorem dL_law_1381 : decode cL_law 1381 = .ok (.aload_n 0, 1) := by decide +kernel
theorem dL_law_1382 : decode cL_law 1382 = .ok (.iload_n 3, 1) := by decide +kernel
theorem dL_law_1383 : decode cL_law 1383 = .ok (.iconst 1, 1) := by decide +kernel
theorem dL_law_1384 : decode cL_law 1384 = .ok (.iadd, 1) := by decide +kernel
theorem dL_law_1385 : decode cL_law 1385 = .ok (.iaload, 1) := by decide +kernel
theorem dL_law_1386 : decode cL_law 1386 = .ok (.aload_n 0, 1) := by decide +kernel
theorem dL_law_1387 : decode cL_law 1387 = .ok (.iload_n 3, 1) := by decide +kernel
theorem dL_law_1388 : decode cL_law 1388 = .ok (.iconst 2, 1) := by decide +kernel
theorem dL_law_1389 : decode cL_law 1389 = .ok (.iadd, 1) := by decide +kernel
theorem dL_law_1390 : decode cL_law 1390 = .ok (.iaload, 1) := by decide +kernel
theorem dL_law_1391 : decode cL_law 1391 = .ok (.aload_n 0, 1) := by decide +kernel
theorem dL_law_1392 : decode cL_law 1392 = .ok (.iload_n 3, 1) := by decide +kernel
theorem dL_law_1393 : decode cL_law 1393 = .ok (.iconst 3, 1) := by decide +kernel
theorem dL_law_1394 : decode cL_law 1394 = .ok (.iadd, 1) := by decide +kernel
theorem dL_law_1395 : decode cL_law 1395 = .ok (.iaload, 1) := by decide +kernel
theorem dL_law_1396 : decode cL_law 1396 = .ok (.invokevirtual 181, 3) := by decide +kernel
theorem dL_law_1399 : decode cL_law 1399 = .ok (.pop, 1) := by decide +kernel
theorem dL_law_1400 : decode cL_law 1400 = .ok (.goto 669, 3) := by decide +kernel
set_option maxRecDepth 20000 in
theorem mT_X9_thawOfFirst : wIn lw_tbl vX9_thawOfFirst := wIn.cons (List.mem_of_getElem? (i := 1055) (by decide +kernel)) (wIn.app (wIn.r _ [408, 1040, 1042, 30, 106] (by decide +kernel)) (wIn.app iT_9 mT_X9_goingsBy))
set_option maxRecDepth 20000 in
theorem mT_X11_weather : wIn lw_tbl vX11_weather := wIn.cons (List.mem_of_getElem? (i := 1051) (by decide +kernel)) (wIn.app (wIn.r _ [1018, 1020, 27, 98, 495, 486, 493, 1022, 1023, 1024, 106, 1052, 1053, 1054] (by decide +kernel)) (wIn.app iT_11 (wIn.app mT_X11_weatherRefusal (wIn.app mT_X9_search mT_X9_thawOfFirst))))
theorem gL_X11_weather : GoodIn lw_tbl (wsV RL 178 RX11 yX11_weather vX11_weather) := goodIn_app (goodIn_r _ [1048, 1049, 1050, 98] (by decide +kernel) (by decide +kernel)) (fun w h => ⟨mT_X11_weather w h, gs_X11_weather w h⟩)
set_option maxRecDepth 20000 in
theorem mT_X12_weather : wIn lw_tbl vX12_weather := wIn.cons (List.mem_of_getElem? (i := 1774) (by decide +kernel)) (wIn.app (wIn.r _ [1387, 1388, 110, 1763, 1765, 83, 1284, 1285, 1768, 1769] (by decide +kernel)) (wIn.app iT_12 (wIn.app mT_X12_in (wIn.app mT_X12_layWeathers mT_X12_thawIn))))
theorem gL_X12_weather : GoodIn lw_tbl (wsV RL 181 RX12 yX12_weather vX12_weather) := goodIn_app (goodIn_r _ [1771, 1772, 1773, 110] (by decide +kernel) (by decide +kernel)) (fun w h => ⟨mT_X12_weather w h, gs_X12_weather w h⟩)
set_option maxHeartbeats 8000000 in
set_option maxRecDepth 100000 in
theorem law_c40 {p : Program} {e : Env} {s : State} {m : MethodId} {below : List Frame} {meth : Method} {c : Code} (l : Launch) {b L : Nat} {xs : Nat → Int32} {D : va_G} {cs : Nat → ClassId} {ad : Nat → Nat} {kS : kSt} {K : sK} {g : Nat → va_E} {H : Heap} {locs : List Loc} (hL : L ≤ 3072) (C0 : lw_At p s m meth c b L xs) (X : CxL p s m b meth c D cs) (Z : SX ad kS s s.heap) (hj : wJ ad 218) (hA : ∀ i, i < 218 → AL s (ad i)) (hKO : KO K) (hR : KR K) (hW : WF (shp ad K) ad cs g) (hP : va_P D vwCl (wL ad g 218) H) (hS : va_S (AL s) s.heap H locs) (ls : Array Slot) (ii : Int32) (hi0 : 0 ≤ ii.toInt) (hi1 : ii.toInt + 6 ≤ L) (hl : lv_has ls 4 [(3, .int ii), (2, .ref (ad 197)), (1, .ref (ad 0)), (0, .ref b)]) (kk : ∀ (K : sK) (g : Nat → va_E) (H : Heap) (locs : List Loc) (ls : Array Slot), KO K → KR K → WF (shp ad K) ad cs g → va_P D vwCl (wL ad g 218) H → va_S (AL s) s.heap H locs → lv_has ls 4 [(3, .int ii), (2, .ref (ad 197)), (1, .ref (ad 0)), (0, .ref b)] → W p l e room_1 s m #[Value.ref b] below meth c H locs 218 6259 (lw_Z below #[Value.ref b] s) (F0 m 2069 ls [])) : W p l e room_1 s m #[Value.ref b] below meth c H locs 218 6259 (lw_Z below #[Value.ref b] s) (F0 m 1360 ls []) := by
  have hx := X.1
  have hb : c.code = cL_law := X.2.1
  obtain ⟨-, -, -, -, -, -, hX, hbl, -, -⟩ := id C0
  have hbA : ¬ AL s b := Nat.not_le.mpr hbl
  refine lv_aload_n hx hb dL_law_1360 rfl (lv_at hl 2 rfl) ?_
  refine lv_aload_n hx hb dL_law_1361 rfl (lv_at hl 3 rfl) ?_
  refine lv_iload_n hx hb dL_law_1362 rfl (lv_at hl 0 rfl) ?_
  refine lv_iconst (v := 1) hx hb dL_law_1363 (by decide) ?_
  refine lv_iadd hx hb dL_law_1364 ?_
  refine lv_topi (fun z_1 ez_1 => ?_)
  have hz_1 : z_1.toInt = ii.toInt + 1 := n_add rfl (by decide : (1 : Int32).toInt = 1) ez_1 (by omega) (by omega)
  refine va_sld hx hb hX hbl hbA hS (i := z_1) (n_in (rfl : z_1.toInt = z_1.toInt) (by omega) (by omega)) dL_law_1365 ?_
  refine lv_topi (fun x_2 ex_2 => ?_)
  refine lv_aload_n hx hb dL_law_1366 rfl (lv_at hl 3 rfl) ?_
  refine lv_iload_n hx hb dL_law_1367 rfl (lv_at hl 0 rfl) ?_
  refine lv_iconst (v := 2) hx hb dL_law_1368 (by decide) ?_
  refine lv_iadd hx hb dL_law_1369 ?_
  refine lv_topi (fun z_3 ez_3 => ?_)
  have hz_3 : z_3.toInt = ii.toInt + 2 := n_add rfl (by decide : (2 : Int32).toInt = 2) ez_3 (by omega) (by omega)
  refine va_sld hx hb hX hbl hbA hS (i := z_3) (n_in (rfl : z_3.toInt = z_3.toInt) (by omega) (by omega)) dL_law_1370 ?_
  refine lv_topi (fun x_4 ex_4 => ?_)
  refine lv_aload_n hx hb dL_law_1371 rfl (lv_at hl 3 rfl) ?_
  refine lv_iload_n hx hb dL_law_1372 rfl (lv_at hl 0 rfl) ?_
  refine lv_iconst (v := 3) hx hb dL_law_1373 (by decide) ?_
  refine lv_iadd hx hb dL_law_1374 ?_
  refine lv_topi (fun z_5 ez_5 => ?_)
  have hz_5 : z_5.toInt = ii.toInt + 3 := n_add rfl (by decide : (3 : Int32).toInt = 3) ez_5 (by omega) (by omega)
  refine va_sld hx hb hX hbl hbA hS (i := z_5) (n_in (rfl : z_5.toInt = z_5.toInt) (by omega) (by omega)) dL_law_1375 ?_
  refine lv_topi (fun x_6 ex_6 => ?_)
  obtain ⟨fso_7, hgo_7, -⟩ := hW.obj (i := 0) (by decide) (sh_0 ad _)
  refine s_calli (q := (RX11, TX11, 14)) (As := [.int x_2, .int x_4, .int x_6]) (rest := []) X Z (s_X11_weather l D cs ad kS K hKO hj g hW x_2 x_4 x_6) (cwV 3 X.2.2.2.2.1 gL_X11_weather rfl rfl rfl (by decide +kernel) ⟨Nat.le_of_ble_eq_true rfl, Nat.le_of_ble_eq_true rfl⟩) (by decide) hgo_7 rfl hP hA (fun a h _ => hS.2.1 a h (Nat.not_le.mpr h)) hS rfl hl.1 rfl (Nat.le_of_ble_eq_true rfl) dL_law_1376 ⟨Nat.le_of_ble_eq_true rfl, Nat.le_of_ble_eq_true rfl⟩ (fun r_9 g_8 H locs hw_10 hP hS => ?_)
  obtain ⟨hw_10W, hw_10f⟩ := hw_10
  refine lv_pop hx hb dL_law_1379 rfl ?_
  refine lv_aload_n hx hb dL_law_1380 rfl (lv_at hl 1 rfl) ?_
  refine lv_aload_n hx hb dL_law_1381 rfl (lv_at hl 3 rfl) ?_
  refine lv_iload_n hx hb dL_law_1382 rfl (lv_at hl 0 rfl) ?_
  refine lv_iconst (v := 1) hx hb dL_law_1383 (by decide) ?_
  refine lv_iadd hx hb dL_law_1384 ?_
  refine lv_topi (fun z_11 ez_11 => ?_)
  have hz_11 : z_11.toInt = ii.toInt + 1 := n_add rfl (by decide : (1 : Int32).toInt = 1) ez_11 (by omega) (by omega)
  refine va_sld hx hb hX hbl hbA hS (i := z_11) (n_in (rfl : z_11.toInt = z_11.toInt) (by omega) (by omega)) dL_law_1385 ?_
  refine lv_topi (fun x_12 ex_12 => ?_)
  obtain rfl : x_2 = x_12 := by rw [ex_2, ex_12, ez_1, ez_11]
  refine lv_aload_n hx hb dL_law_1386 rfl (lv_at hl 3 rfl) ?_
  refine lv_iload_n hx hb dL_law_1387 rfl (lv_at hl 0 rfl) ?_
  refine lv_iconst (v := 2) hx hb dL_law_1388 (by decide) ?_
  refine lv_iadd hx hb dL_law_1389 ?_
  refine lv_topi (fun z_13 ez_13 => ?_)
  have hz_13 : z_13.toInt = ii.toInt + 2 := n_add rfl (by decide : (2 : Int32).toInt = 2) ez_13 (by omega) (by omega)
  refine va_sld hx hb hX hbl hbA hS (i := z_13) (n_in (rfl : z_13.toInt = z_13.toInt) (by omega) (by omega)) dL_law_1390 ?_
  refine lv_topi (fun x_14 ex_14 => ?_)
  obtain rfl : x_4 = x_14 := by rw [ex_4, ex_14, ez_3, ez_13]
  refine lv_aload_n hx hb dL_law_1391 rfl (lv_at hl 3 rfl) ?_
  refine lv_iload_n hx hb dL_law_1392 rfl (lv_at hl 0 rfl) ?_
  refine lv_iconst (v := 3) hx hb dL_law_1393 (by decide) ?_
  refine lv_iadd hx hb dL_law_1394 ?_
  refine lv_topi (fun z_15 ez_15 => ?_)
  have hz_15 : z_15.toInt = ii.toInt + 3 := n_add rfl (by decide : (3 : Int32).toInt = 3) ez_15 (by omega) (by omega)
  refine va_sld hx hb hX hbl hbA hS (i := z_15) (n_in (rfl : z_15.toInt = z_15.toInt) (by omega) (by omega)) dL_law_1395 ?_
  refine lv_topi (fun x_16 ex_16 => ?_)
  obtain rfl : x_6 = x_16 := by rw [ex_6, ex_16, ez_5, ez_15]
  obtain ⟨fso_17, hgo_17, -⟩ := hw_10W.obj (i := 197) (by decide) (sh_197 ad _)
  refine s_calli (q := (RX12, TX12, 40)) (As := [.int x_2, .int x_4, .int x_6]) (rest := []) X Z (s_X12_weather l D cs ad kS K hKO hj g_8 hw_10W x_2 x_4 x_6) (cwV 3 X.2.2.2.2.1 gL_X12_weather rfl rfl rfl (by decide +kernel) ⟨Nat.le_of_ble_eq_true rfl, Nat.le_of_ble_eq_true rfl⟩) (by decide) hgo_17 rfl hP hA (fun a h _ => hS.2.1 a h (Nat.not_le.mpr h)) hS rfl hl.1 rfl (Nat.le_of_ble_eq_true rfl) dL_law_1396 ⟨Nat.le_of_ble_eq_true rfl, Nat.le_of_ble_eq_true rfl⟩ (fun r_19 g_18 H locs hw_20 hP hS => ?_)
  obtain ⟨hw_20W, hw_20f⟩ := hw_20
  refine lv_pop hx hb dL_law_1399 rfl ?_
  refine lv_goto (tgt := 2069) hx hb dL_law_1400 (by decide) ?_
  exact kk K g_18 _ _ ls hKO hR hw_20W hP hS hl

theorem dL_law_1403 : decode cL_law 1403 = .ok (.aload_n 1, 1) := by decide +kernel
theorem dL_law_1404 : decode cL_law 1404 = .ok (.aload_n 0, 1) := by decide +kernel
theorem dL_law_1405 : decode cL_law 1405 = .ok (.iload_n 3, 1) := by decide +kernel
theorem dL_law_1406 : decode cL_law 1406 = .ok (.iconst 1, 1) := by decide +kernel
theorem dL_law_1407 : decode cL_law 1407 = .ok (.iadd, 1) := by decide +kernel
theorem dL_law_1408 : decode cL_law 1408 = .ok (.iaload, 1) := by decide +kernel
theorem dL_law_1409 : decode cL_law 1409 = .ok (.aload_n 0, 1) := by decide +kernel
theorem dL_law_1410 : decode cL_law 1410 = .ok (.iload_n 3, 1) := by decide +kernel
theorem dL_law_1411 : decode cL_law 1411 = .ok (.iconst 2, 1) := by decide +kernel
theorem dL_law_1412 : decode cL_law 1412 = .ok (.iadd, 1) := by decide +kernel
theorem dL_law_1413 : decode cL_law 1413 = .ok (.iaload, 1) := by decide +kernel
theorem dL_law_1414 : decode cL_law 1414 = .ok (.aload_n 0, 1) := by decide +kernel
theorem dL_law_1415 : decode cL_law 1415 = .ok (.iload_n 3, 1) := by decide +kernel
theorem dL_law_1416 : decode cL_law 1416 = .ok (.iconst 3, 1) := by decide +kernel
theorem dL_law_1417 : decode cL_law 1417 = .ok (.iadd, 1) := by decide +kernel
theorem dL_law_1418 : decode cL_law 1418 = .ok (.iaload, 1) := by decide +kernel
theorem dL_law_1419 : decode cL_law 1419 = .ok (.invokevirtual 182, 3) := by decide +kernel
theorem dL_law_1422 : decode cL_law 1422 = .ok (.pop, 1) := by decide +kernel
theorem dL_law_1423 : decode cL_law 1423 = .ok (.aload_n 2, 1) := by decide +kernel
theorem dL_law_1424 : decode cL_law 1424 = .ok (.aload_n 0, 1) := by decide +kernel
theorem dL_law_1425 : decode cL_law 1425 = .ok (.iload_n 3, 1) := by decide +kernel
theorem dL_law_1426 : decode cL_law 1426 = .ok (.iconst 1, 1) := by decide +kernel
theorem dL_law_1427 : decode cL_law 1427 = .ok (.iadd, 1) := by decide +kernel
theorem dL_law_1428 : decode cL_law 1428 = .ok (.iaload, 1) := by decide +kernel
theorem dL_law_1429 : decode cL_law 1429 = .ok (.aload_n 0, 1) := by decide +kernel
theorem dL_law_1430 : decode cL_law 1430 = .ok (.iload_n 3, 1) := by decide +kernel
theorem dL_law_1431 : decode cL_law 1431 = .ok (.iconst 2, 1) := by decide +kernel
theorem dL_law_1432 : decode cL_law 1432 = .ok (.iadd, 1) := by decide +kernel
theorem dL_law_1433 : decode cL_law 1433 = .ok (.iaload, 1) := by decide +kernel
theorem dL_law_1434 : decode cL_law 1434 = .ok (.aload_n 0, 1) := by decide +kernel
theorem dL_law_1435 : decode cL_law 1435 = .ok (.iload_n 3, 1) := by decide +kernel
theorem dL_law_1436 : decode cL_law 1436 = .ok (.iconst 3, 1) := by decide +kernel
theorem dL_law_1437 : decode cL_law 1437 = .ok (.iadd, 1) := by decide +kernel
theorem dL_law_1438 : decode cL_law 1438 = .ok (.iaload, 1) := by decide +kernel
theorem dL_law_1439 : decode cL_law 1439 = .ok (.invokevirtual 185, 3) := by decide +kernel
theorem dL_law_1442 : decode cL_law 1442 = .ok (.pop, 1) := by decide +kernel
theorem dL_law_1443 : decode cL_law 1443 = .ok (.goto 626, 3) := by decide +kernel
set_option maxRecDepth 20000 in
theorem mT_X9_sumsReached : wIn lw_tbl vX9_sumsReached := wIn.cons (List.mem_of_getElem? (i := 1067) (by decide +kernel)) (wIn.app (wIn.r _ [408, 405, 406] (by decide +kernel)) iT_9)
set_option maxRecDepth 20000 in
theorem mT_X9_leastSum : wIn lw_tbl vX9_leastSum := wIn.cons (List.mem_of_getElem? (i := 1063) (by decide +kernel)) (wIn.app (wIn.r _ [1064, 1066, 31, 106] (by decide +kernel)) mT_X9_sumsReached)
set_option maxRecDepth 20000 in
theorem mT_X9_greatestSum : wIn lw_tbl vX9_greatestSum := wIn.cons (List.mem_of_getElem? (i := 1071) (by decide +kernel)) (wIn.app (wIn.r _ [1064, 1066, 31, 106] (by decide +kernel)) mT_X9_sumsReached)
set_option maxRecDepth 20000 in
theorem mT_X11_warmth : wIn lw_tbl vX11_warmth := wIn.cons (List.mem_of_getElem? (i := 1059) (by decide +kernel)) (wIn.app (wIn.r _ [754, 755, 98, 1018, 1020, 27, 495, 486, 493, 1022, 1023, 1024, 106, 1060, 1061, 1062, 1068, 1069, 1070] (by decide +kernel)) (wIn.app iT_11 (wIn.app mT_X11_isEither (wIn.app mT_X11_weatherRefusal (wIn.app mT_X9_search (wIn.app mT_X9_leastSum mT_X9_greatestSum))))))
theorem gL_X11_warmth : GoodIn lw_tbl (wsV RL 182 RX11 yX11_warmth vX11_warmth) := goodIn_app (goodIn_r _ [1056, 1057, 1058, 98] (by decide +kernel) (by decide +kernel)) (fun w h => ⟨mT_X11_warmth w h, gs_X11_warmth w h⟩)
set_option maxRecDepth 20000 in
theorem mT_X12_warmth : wIn lw_tbl vX12_warmth := wIn.cons (List.mem_of_getElem? (i := 1778) (by decide +kernel)) (wIn.app (wIn.r _ [1387, 1388, 110, 1763, 1765, 83, 1284, 1286, 1287] (by decide +kernel)) (wIn.app iT_12 (wIn.app mT_X12_in mT_X12_layWeathers)))
theorem gL_X12_warmth : GoodIn lw_tbl (wsV RL 185 RX12 yX12_warmth vX12_warmth) := goodIn_app (goodIn_r _ [1775, 1776, 1777, 110] (by decide +kernel) (by decide +kernel)) (fun w h => ⟨mT_X12_warmth w h, gs_X12_warmth w h⟩)
set_option maxHeartbeats 8000000 in
set_option maxRecDepth 100000 in
theorem law_c41 {p : Program} {e : Env} {s : State} {m : MethodId} {below : List Frame} {meth : Method} {c : Code} (l : Launch) {b L : Nat} {xs : Nat → Int32} {D : va_G} {cs : Nat → ClassId} {ad : Nat → Nat} {kS : kSt} {K : sK} {g : Nat → va_E} {H : Heap} {locs : List Loc} (hL : L ≤ 3072) (C0 : lw_At p s m meth c b L xs) (X : CxL p s m b meth c D cs) (Z : SX ad kS s s.heap) (hj : wJ ad 218) (hA : ∀ i, i < 218 → AL s (ad i)) (hKO : KO K) (hR : KR K) (hW : WF (shp ad K) ad cs g) (hP : va_P D vwCl (wL ad g 218) H) (hS : va_S (AL s) s.heap H locs) (ls : Array Slot) (ii : Int32) (hi0 : 0 ≤ ii.toInt) (hi1 : ii.toInt + 6 ≤ L) (hl : lv_has ls 4 [(3, .int ii), (2, .ref (ad 197)), (1, .ref (ad 0)), (0, .ref b)]) (kk : ∀ (K : sK) (g : Nat → va_E) (H : Heap) (locs : List Loc) (ls : Array Slot), KO K → KR K → WF (shp ad K) ad cs g → va_P D vwCl (wL ad g 218) H → va_S (AL s) s.heap H locs → lv_has ls 4 [(3, .int ii), (2, .ref (ad 197)), (1, .ref (ad 0)), (0, .ref b)] → W p l e room_1 s m #[Value.ref b] below meth c H locs 218 6259 (lw_Z below #[Value.ref b] s) (F0 m 2069 ls [])) : W p l e room_1 s m #[Value.ref b] below meth c H locs 218 6259 (lw_Z below #[Value.ref b] s) (F0 m 1403 ls []) := by
  have hx := X.1
  have hb : c.code = cL_law := X.2.1
  obtain ⟨-, -, -, -, -, -, hX, hbl, -, -⟩ := id C0
  have hbA : ¬ AL s b := Nat.not_le.mpr hbl
  refine lv_aload_n hx hb dL_law_1403 rfl (lv_at hl 2 rfl) ?_
  refine lv_aload_n hx hb dL_law_1404 rfl (lv_at hl 3 rfl) ?_
  refine lv_iload_n hx hb dL_law_1405 rfl (lv_at hl 0 rfl) ?_
  refine lv_iconst (v := 1) hx hb dL_law_1406 (by decide) ?_
  refine lv_iadd hx hb dL_law_1407 ?_
  refine lv_topi (fun z_1 ez_1 => ?_)
  have hz_1 : z_1.toInt = ii.toInt + 1 := n_add rfl (by decide : (1 : Int32).toInt = 1) ez_1 (by omega) (by omega)
  refine va_sld hx hb hX hbl hbA hS (i := z_1) (n_in (rfl : z_1.toInt = z_1.toInt) (by omega) (by omega)) dL_law_1408 ?_
  refine lv_topi (fun x_2 ex_2 => ?_)
  refine lv_aload_n hx hb dL_law_1409 rfl (lv_at hl 3 rfl) ?_
  refine lv_iload_n hx hb dL_law_1410 rfl (lv_at hl 0 rfl) ?_
  refine lv_iconst (v := 2) hx hb dL_law_1411 (by decide) ?_
  refine lv_iadd hx hb dL_law_1412 ?_
  refine lv_topi (fun z_3 ez_3 => ?_)
  have hz_3 : z_3.toInt = ii.toInt + 2 := n_add rfl (by decide : (2 : Int32).toInt = 2) ez_3 (by omega) (by omega)
  refine va_sld hx hb hX hbl hbA hS (i := z_3) (n_in (rfl : z_3.toInt = z_3.toInt) (by omega) (by omega)) dL_law_1413 ?_
  refine lv_topi (fun x_4 ex_4 => ?_)
  refine lv_aload_n hx hb dL_law_1414 rfl (lv_at hl 3 rfl) ?_
  refine lv_iload_n hx hb dL_law_1415 rfl (lv_at hl 0 rfl) ?_
  refine lv_iconst (v := 3) hx hb dL_law_1416 (by decide) ?_
  refine lv_iadd hx hb dL_law_1417 ?_
  refine lv_topi (fun z_5 ez_5 => ?_)
  have hz_5 : z_5.toInt = ii.toInt + 3 := n_add rfl (by decide : (3 : Int32).toInt = 3) ez_5 (by omega) (by omega)
  refine va_sld hx hb hX hbl hbA hS (i := z_5) (n_in (rfl : z_5.toInt = z_5.toInt) (by omega) (by omega)) dL_law_1418 ?_
  refine lv_topi (fun x_6 ex_6 => ?_)
  obtain ⟨fso_7, hgo_7, -⟩ := hW.obj (i := 0) (by decide) (sh_0 ad _)
  refine s_calli (q := (RX11, TX11, 14)) (As := [.int x_2, .int x_4, .int x_6]) (rest := []) X Z (s_X11_warmth l D cs ad kS K hKO hj g hW x_2 x_4 x_6) (cwV 3 X.2.2.2.2.1 gL_X11_warmth rfl rfl rfl (by decide +kernel) ⟨Nat.le_of_ble_eq_true rfl, Nat.le_of_ble_eq_true rfl⟩) (by decide) hgo_7 rfl hP hA (fun a h _ => hS.2.1 a h (Nat.not_le.mpr h)) hS rfl hl.1 rfl (Nat.le_of_ble_eq_true rfl) dL_law_1419 ⟨Nat.le_of_ble_eq_true rfl, Nat.le_of_ble_eq_true rfl⟩ (fun r_9 g_8 H locs hw_10 hP hS => ?_)
  obtain ⟨hw_10W, hw_10f⟩ := hw_10
  refine lv_pop hx hb dL_law_1422 rfl ?_
  refine lv_aload_n hx hb dL_law_1423 rfl (lv_at hl 1 rfl) ?_
  refine lv_aload_n hx hb dL_law_1424 rfl (lv_at hl 3 rfl) ?_
  refine lv_iload_n hx hb dL_law_1425 rfl (lv_at hl 0 rfl) ?_
  refine lv_iconst (v := 1) hx hb dL_law_1426 (by decide) ?_
  refine lv_iadd hx hb dL_law_1427 ?_
  refine lv_topi (fun z_11 ez_11 => ?_)
  have hz_11 : z_11.toInt = ii.toInt + 1 := n_add rfl (by decide : (1 : Int32).toInt = 1) ez_11 (by omega) (by omega)
  refine va_sld hx hb hX hbl hbA hS (i := z_11) (n_in (rfl : z_11.toInt = z_11.toInt) (by omega) (by omega)) dL_law_1428 ?_
  refine lv_topi (fun x_12 ex_12 => ?_)
  obtain rfl : x_2 = x_12 := by rw [ex_2, ex_12, ez_1, ez_11]
  refine lv_aload_n hx hb dL_law_1429 rfl (lv_at hl 3 rfl) ?_
  refine lv_iload_n hx hb dL_law_1430 rfl (lv_at hl 0 rfl) ?_
  refine lv_iconst (v := 2) hx hb dL_law_1431 (by decide) ?_
  refine lv_iadd hx hb dL_law_1432 ?_
  refine lv_topi (fun z_13 ez_13 => ?_)
  have hz_13 : z_13.toInt = ii.toInt + 2 := n_add rfl (by decide : (2 : Int32).toInt = 2) ez_13 (by omega) (by omega)
  refine va_sld hx hb hX hbl hbA hS (i := z_13) (n_in (rfl : z_13.toInt = z_13.toInt) (by omega) (by omega)) dL_law_1433 ?_
  refine lv_topi (fun x_14 ex_14 => ?_)
  obtain rfl : x_4 = x_14 := by rw [ex_4, ex_14, ez_3, ez_13]
  refine lv_aload_n hx hb dL_law_1434 rfl (lv_at hl 3 rfl) ?_
  refine lv_iload_n hx hb dL_law_1435 rfl (lv_at hl 0 rfl) ?_
  refine lv_iconst (v := 3) hx hb dL_law_1436 (by decide) ?_
  refine lv_iadd hx hb dL_law_1437 ?_
  refine lv_topi (fun z_15 ez_15 => ?_)
  have hz_15 : z_15.toInt = ii.toInt + 3 := n_add rfl (by decide : (3 : Int32).toInt = 3) ez_15 (by omega) (by omega)
  refine va_sld hx hb hX hbl hbA hS (i := z_15) (n_in (rfl : z_15.toInt = z_15.toInt) (by omega) (by omega)) dL_law_1438 ?_
  refine lv_topi (fun x_16 ex_16 => ?_)
  obtain rfl : x_6 = x_16 := by rw [ex_6, ex_16, ez_5, ez_15]
  obtain ⟨fso_17, hgo_17, -⟩ := hw_10W.obj (i := 197) (by decide) (sh_197 ad _)
  refine s_calli (q := (RX12, TX12, 40)) (As := [.int x_2, .int x_4, .int x_6]) (rest := []) X Z (s_X12_warmth l D cs ad kS K hKO hj g_8 hw_10W x_2 x_4 x_6) (cwV 3 X.2.2.2.2.1 gL_X12_warmth rfl rfl rfl (by decide +kernel) ⟨Nat.le_of_ble_eq_true rfl, Nat.le_of_ble_eq_true rfl⟩) (by decide) hgo_17 rfl hP hA (fun a h _ => hS.2.1 a h (Nat.not_le.mpr h)) hS rfl hl.1 rfl (Nat.le_of_ble_eq_true rfl) dL_law_1439 ⟨Nat.le_of_ble_eq_true rfl, Nat.le_of_ble_eq_true rfl⟩ (fun r_19 g_18 H locs hw_20 hP hS => ?_)
  obtain ⟨hw_20W, hw_20f⟩ := hw_20
  refine lv_pop hx hb dL_law_1442 rfl ?_
  refine lv_goto (tgt := 2069) hx hb dL_law_1443 (by decide) ?_
  exact kk K g_18 _ _ ls hKO hR hw_20W hP hS hl

theorem dL_law_1446 : decode cL_law 1446 = .ok (.aload_n 1, 1) := by decide +kernel
theorem dL_law_1447 : decode cL_law 1447 = .ok (.aload_n 0, 1) := by decide +kernel
theorem dL_law_1448 : decode cL_law 1448 = .ok (.iload_n 3, 1) := by decide +kernel
theorem dL_law_1449 : decode cL_law 1449 = .ok (.iconst 1, 1) := by decide +kernel
theorem dL_law_1450 : decode cL_law 1450 = .ok (.iadd, 1) := by decide +kernel
theorem dL_law_1451 : decode cL_law 1451 = .ok (.iaload, 1) := by decide +kernel
theorem dL_law_1452 : decode cL_law 1452 = .ok (.aload_n 0, 1) := by decide +kernel
theorem dL_law_1453 : decode cL_law 1453 = .ok (.iload_n 3, 1) := by decide +kernel
theorem dL_law_1454 : decode cL_law 1454 = .ok (.iconst 2, 1) := by decide +kernel
theorem dL_law_1455 : decode cL_law 1455 = .ok (.iadd, 1) := by decide +kernel
theorem dL_law_1456 : decode cL_law 1456 = .ok (.iaload, 1) := by decide +kernel
theorem dL_law_1457 : decode cL_law 1457 = .ok (.aload_n 0, 1) := by decide +kernel
theorem dL_law_1458 : decode cL_law 1458 = .ok (.iload_n 3, 1) := by decide +kernel
theorem dL_law_1459 : decode cL_law 1459 = .ok (.iconst 3, 1) := by decide +kernel
theorem dL_law_1460 : decode cL_law 1460 = .ok (.iadd, 1) := by decide +kernel
theorem dL_law_1461 : decode cL_law 1461 = .ok (.iaload, 1) := by decide +kernel
theorem dL_law_1462 : decode cL_law 1462 = .ok (.invokevirtual 186, 3) := by decide +kernel
theorem dL_law_1465 : decode cL_law 1465 = .ok (.pop2, 1) := by decide +kernel
theorem dL_law_1466 : decode cL_law 1466 = .ok (.aload_n 2, 1) := by decide +kernel
theorem dL_law_1467 : decode cL_law 1467 = .ok (.aload_n 0, 1) := by decide +kernel
theorem dL_law_1468 : decode cL_law 1468 = .ok (.iload_n 3, 1) := by decide +kernel
theorem dL_law_1469 : decode cL_law 1469 = .ok (.iconst 1, 1) := by decide +kernel
theorem dL_law_1470 : decode cL_law 1470 = .ok (.iadd, 1) := by decide +kernel
theorem dL_law_1471 : decode cL_law 1471 = .ok (.iaload, 1) := by decide +kernel
theorem dL_law_1472 : decode cL_law 1472 = .ok (.aload_n 0, 1) := by decide +kernel
theorem dL_law_1473 : decode cL_law 1473 = .ok (.iload_n 3, 1) := by decide +kernel
theorem dL_law_1474 : decode cL_law 1474 = .ok (.iconst 2, 1) := by decide +kernel
theorem dL_law_1475 : decode cL_law 1475 = .ok (.iadd, 1) := by decide +kernel
theorem dL_law_1476 : decode cL_law 1476 = .ok (.iaload, 1) := by decide +kernel
theorem dL_law_1477 : decode cL_law 1477 = .ok (.aload_n 0, 1) := by decide +kernel
theorem dL_law_1478 : decode cL_law 1478 = .ok (.iload_n 3, 1) := by decide +kernel
theorem dL_law_1479 : decode cL_law 1479 = .ok (.iconst 3, 1) := by decide +kernel
theorem dL_law_1480 : decode cL_law 1480 = .ok (.iadd, 1) := by decide +kernel
theorem dL_law_1481 : decode cL_law 1481 = .ok (.iaload, 1) := by decide +kernel
theorem dL_law_1482 : decode cL_law 1482 = .ok (.invokevirtual 190, 3) := by decide +kernel
theorem dL_law_1485 : decode cL_law 1485 = .ok (.pop2, 1) := by decide +kernel
theorem dL_law_1486 : decode cL_law 1486 = .ok (.goto 583, 3) := by decide +kernel
set_option maxRecDepth 20000 in
theorem mT_J7_fill_d0a16 : wIn lw_tbl vJ7_fill_d0a16 := wIn.cons (List.mem_of_getElem? (i := 1083) (by decide +kernel)) (wIn.r _ [] (by decide +kernel))
set_option maxRecDepth 20000 in
theorem mT_X1_warmOrNot : wIn lw_tbl vX1_warmOrNot := wIn.cons (List.mem_of_getElem? (i := 1087) (by decide +kernel)) (wIn.app (wIn.r _ [429, 1088, 650, 115, 651, 424] (by decide +kernel)) iT_1)
set_option maxRecDepth 20000 in
theorem mT_X1_letFall : wIn lw_tbl vX1_letFall := wIn.cons (List.mem_of_getElem? (i := 1094) (by decide +kernel)) (wIn.app (wIn.r _ [429, 424] (by decide +kernel)) iT_1)
set_option maxRecDepth 20000 in
theorem mT_X1_weigh : wIn lw_tbl vX1_weigh := wIn.cons (List.mem_of_getElem? (i := 1080) (by decide +kernel)) (wIn.app (wIn.r _ [424, 1081, 1082, 118, 429, 207, 237, 202, 1084, 1086, 32, 107, 1089, 1090, 706, 707, 103, 425, 241, 1091, 1093, 33, 427] (by decide +kernel)) (wIn.app iT_1 (wIn.app iT_6 (wIn.app mT_J7_fill_d0a16 (wIn.app mT_X1_warmOrNot (wIn.app mT_X10_lossOn mT_X1_letFall))))))
set_option maxRecDepth 20000 in
theorem mT_X11_greatestDivisor : wIn lw_tbl vX11_greatestDivisor := wIn.cons (List.mem_of_getElem? (i := 1097) (by decide +kernel)) (wIn.r _ [] (by decide +kernel))
set_option maxRecDepth 20000 in
theorem mT_X11_chance : wIn lw_tbl vX11_chance := wIn.cons (List.mem_of_getElem? (i := 1075) (by decide +kernel)) (wIn.app (wIn.r _ [742, 744, 15, 98, 725, 727, 13, 754, 755, 496, 486, 491, 250, 258, 1077, 1078, 1079, 107, 426, 428, 1095, 1096, 1076] (by decide +kernel)) (wIn.app iT_11 (wIn.app iT_6 (wIn.app iT_1 (wIn.app mT_X11_isIcicle (wIn.app mT_X11_isDay (wIn.app mT_X11_isEither (wIn.app mT_X1_weigh mT_X11_greatestDivisor))))))))
theorem gL_X11_chance : GoodIn lw_tbl (wsV RL 186 RX11 yX11_chance vX11_chance) := goodIn_app (goodIn_r _ [1072, 1073, 1074, 98] (by decide +kernel) (by decide +kernel)) (fun w h => ⟨mT_X11_chance w h, gs_X11_chance w h⟩)
set_option maxRecDepth 20000 in
theorem mT_X12_isThaw : wIn lw_tbl vX12_isThaw := wIn.cons (List.mem_of_getElem? (i := 1795) (by decide +kernel)) (wIn.app (wIn.r _ [1262] (by decide +kernel)) iT_12)
set_option maxRecDepth 20000 in
theorem mT_X12_goWarm : wIn lw_tbl vX12_goWarm := wIn.cons (List.mem_of_getElem? (i := 1791) (by decide +kernel)) (wIn.app (wIn.r _ [1289, 1288, 1792, 1794, 86, 110, 1262] (by decide +kernel)) (wIn.app iT_12 mT_X12_isThaw))
set_option maxRecDepth 20000 in
theorem mT_X12_layWarm : wIn lw_tbl vX12_layWarm := wIn.cons (List.mem_of_getElem? (i := 1787) (by decide +kernel)) (wIn.app (wIn.r _ [1544, 1546, 62, 110, 1288, 1291, 1278, 1788, 1790, 85, 1792, 1794, 86, 1290, 1276, 1505, 1507, 57, 1289, 1292] (by decide +kernel)) (wIn.app iT_12 (wIn.app mT_X12_layOff (wIn.app mT_X12_goWarm (wIn.app mT_X12_isThaw mT_X12_sunOf)))))
set_option maxRecDepth 20000 in
theorem mT_X12_divisor : wIn lw_tbl vX12_divisor := wIn.cons (List.mem_of_getElem? (i := 1798) (by decide +kernel)) (wIn.r _ [] (by decide +kernel))
set_option maxRecDepth 20000 in
theorem mT_X12_chance : wIn lw_tbl vX12_chance := wIn.cons (List.mem_of_getElem? (i := 1782) (by decide +kernel)) (wIn.app (wIn.r _ [1516, 1518, 58, 110, 1489, 1491, 54, 1387, 1388, 1520, 1522, 59, 1784, 1786, 84, 1290, 1291, 1796, 1797, 1783] (by decide +kernel)) (wIn.app iT_12 (wIn.app mT_X12_isIcicle (wIn.app mT_X12_isDay (wIn.app mT_X12_in (wIn.app mT_X12_of (wIn.app mT_X12_layWarm mT_X12_divisor)))))))
theorem gL_X12_chance : GoodIn lw_tbl (wsV RL 190 RX12 yX12_chance vX12_chance) := goodIn_app (goodIn_r _ [1779, 1780, 1781, 110] (by decide +kernel) (by decide +kernel)) (fun w h => ⟨mT_X12_chance w h, gs_X12_chance w h⟩)
set_option maxHeartbeats 8000000 in
set_option maxRecDepth 100000 in
theorem law_c42 {p : Program} {e : Env} {s : State} {m : MethodId} {below : List Frame} {meth : Method} {c : Code} (l : Launch) {b L : Nat} {xs : Nat → Int32} {D : va_G} {cs : Nat → ClassId} {ad : Nat → Nat} {kS : kSt} {K : sK} {g : Nat → va_E} {H : Heap} {locs : List Loc} (hL : L ≤ 3072) (C0 : lw_At p s m meth c b L xs) (X : CxL p s m b meth c D cs) (Z : SX ad kS s s.heap) (hj : wJ ad 218) (hA : ∀ i, i < 218 → AL s (ad i)) (hKO : KO K) (hR : KR K) (hW : WF (shp ad K) ad cs g) (hP : va_P D vwCl (wL ad g 218) H) (hS : va_S (AL s) s.heap H locs) (ls : Array Slot) (ii : Int32) (hi0 : 0 ≤ ii.toInt) (hi1 : ii.toInt + 6 ≤ L) (hl : lv_has ls 4 [(3, .int ii), (2, .ref (ad 197)), (1, .ref (ad 0)), (0, .ref b)]) (kk : ∀ (K : sK) (g : Nat → va_E) (H : Heap) (locs : List Loc) (ls : Array Slot), KO K → KR K → WF (shp ad K) ad cs g → va_P D vwCl (wL ad g 218) H → va_S (AL s) s.heap H locs → lv_has ls 4 [(3, .int ii), (2, .ref (ad 197)), (1, .ref (ad 0)), (0, .ref b)] → W p l e room_1 s m #[Value.ref b] below meth c H locs 218 6259 (lw_Z below #[Value.ref b] s) (F0 m 2069 ls [])) : W p l e room_1 s m #[Value.ref b] below meth c H locs 218 6259 (lw_Z below #[Value.ref b] s) (F0 m 1446 ls []) := by
  have hx := X.1
  have hb : c.code = cL_law := X.2.1
  obtain ⟨-, -, -, -, -, -, hX, hbl, -, -⟩ := id C0
  have hbA : ¬ AL s b := Nat.not_le.mpr hbl
  refine lv_aload_n hx hb dL_law_1446 rfl (lv_at hl 2 rfl) ?_
  refine lv_aload_n hx hb dL_law_1447 rfl (lv_at hl 3 rfl) ?_
  refine lv_iload_n hx hb dL_law_1448 rfl (lv_at hl 0 rfl) ?_
  refine lv_iconst (v := 1) hx hb dL_law_1449 (by decide) ?_
  refine lv_iadd hx hb dL_law_1450 ?_
  refine lv_topi (fun z_1 ez_1 => ?_)
  have hz_1 : z_1.toInt = ii.toInt + 1 := n_add rfl (by decide : (1 : Int32).toInt = 1) ez_1 (by omega) (by omega)
  refine va_sld hx hb hX hbl hbA hS (i := z_1) (n_in (rfl : z_1.toInt = z_1.toInt) (by omega) (by omega)) dL_law_1451 ?_
  refine lv_topi (fun x_2 ex_2 => ?_)
  refine lv_aload_n hx hb dL_law_1452 rfl (lv_at hl 3 rfl) ?_
  refine lv_iload_n hx hb dL_law_1453 rfl (lv_at hl 0 rfl) ?_
  refine lv_iconst (v := 2) hx hb dL_law_1454 (by decide) ?_
  refine lv_iadd hx hb dL_law_1455 ?_
  refine lv_topi (fun z_3 ez_3 => ?_)
  have hz_3 : z_3.toInt = ii.toInt + 2 := n_add rfl (by decide : (2 : Int32).toInt = 2) ez_3 (by omega) (by omega)
  refine va_sld hx hb hX hbl hbA hS (i := z_3) (n_in (rfl : z_3.toInt = z_3.toInt) (by omega) (by omega)) dL_law_1456 ?_
  refine lv_topi (fun x_4 ex_4 => ?_)
  refine lv_aload_n hx hb dL_law_1457 rfl (lv_at hl 3 rfl) ?_
  refine lv_iload_n hx hb dL_law_1458 rfl (lv_at hl 0 rfl) ?_
  refine lv_iconst (v := 3) hx hb dL_law_1459 (by decide) ?_
  refine lv_iadd hx hb dL_law_1460 ?_
  refine lv_topi (fun z_5 ez_5 => ?_)
  have hz_5 : z_5.toInt = ii.toInt + 3 := n_add rfl (by decide : (3 : Int32).toInt = 3) ez_5 (by omega) (by omega)
  refine va_sld hx hb hX hbl hbA hS (i := z_5) (n_in (rfl : z_5.toInt = z_5.toInt) (by omega) (by omega)) dL_law_1461 ?_
  refine lv_topi (fun x_6 ex_6 => ?_)
  obtain ⟨fso_7, hgo_7, -⟩ := hW.obj (i := 0) (by decide) (sh_0 ad _)
  refine s_callj (q := (RX11, TX11, 14)) (As := [.int x_2, .int x_4, .int x_6]) (rest := []) X Z (s_X11_chance l D cs ad kS K hKO hj g hW x_2 x_4 x_6) (cwV 3 X.2.2.2.2.1 gL_X11_chance rfl rfl rfl (by decide +kernel) ⟨Nat.le_of_ble_eq_true rfl, Nat.le_of_ble_eq_true rfl⟩) (by decide) hgo_7 rfl hP hA (fun a h _ => hS.2.1 a h (Nat.not_le.mpr h)) hS rfl hl.1 rfl (Nat.le_of_ble_eq_true rfl) dL_law_1462 ⟨Nat.le_of_ble_eq_true rfl, Nat.le_of_ble_eq_true rfl⟩ (fun r_9 g_8 H locs hw_10 hP hS => ?_)
  obtain ⟨hw_10W, hw_10f⟩ := hw_10
  refine lv_pop2_2 hx hb dL_law_1465 rfl ?_
  refine lv_aload_n hx hb dL_law_1466 rfl (lv_at hl 1 rfl) ?_
  refine lv_aload_n hx hb dL_law_1467 rfl (lv_at hl 3 rfl) ?_
  refine lv_iload_n hx hb dL_law_1468 rfl (lv_at hl 0 rfl) ?_
  refine lv_iconst (v := 1) hx hb dL_law_1469 (by decide) ?_
  refine lv_iadd hx hb dL_law_1470 ?_
  refine lv_topi (fun z_11 ez_11 => ?_)
  have hz_11 : z_11.toInt = ii.toInt + 1 := n_add rfl (by decide : (1 : Int32).toInt = 1) ez_11 (by omega) (by omega)
  refine va_sld hx hb hX hbl hbA hS (i := z_11) (n_in (rfl : z_11.toInt = z_11.toInt) (by omega) (by omega)) dL_law_1471 ?_
  refine lv_topi (fun x_12 ex_12 => ?_)
  obtain rfl : x_2 = x_12 := by rw [ex_2, ex_12, ez_1, ez_11]
  refine lv_aload_n hx hb dL_law_1472 rfl (lv_at hl 3 rfl) ?_
  refine lv_iload_n hx hb dL_law_1473 rfl (lv_at hl 0 rfl) ?_
  refine lv_iconst (v := 2) hx hb dL_law_1474 (by decide) ?_
  refine lv_iadd hx hb dL_law_1475 ?_
  refine lv_topi (fun z_13 ez_13 => ?_)
  have hz_13 : z_13.toInt = ii.toInt + 2 := n_add rfl (by decide : (2 : Int32).toInt = 2) ez_13 (by omega) (by omega)
  refine va_sld hx hb hX hbl hbA hS (i := z_13) (n_in (rfl : z_13.toInt = z_13.toInt) (by omega) (by omega)) dL_law_1476 ?_
  refine lv_topi (fun x_14 ex_14 => ?_)
  obtain rfl : x_4 = x_14 := by rw [ex_4, ex_14, ez_3, ez_13]
  refine lv_aload_n hx hb dL_law_1477 rfl (lv_at hl 3 rfl) ?_
  refine lv_iload_n hx hb dL_law_1478 rfl (lv_at hl 0 rfl) ?_
  refine lv_iconst (v := 3) hx hb dL_law_1479 (by decide) ?_
  refine lv_iadd hx hb dL_law_1480 ?_
  refine lv_topi (fun z_15 ez_15 => ?_)
  have hz_15 : z_15.toInt = ii.toInt + 3 := n_add rfl (by decide : (3 : Int32).toInt = 3) ez_15 (by omega) (by omega)
  refine va_sld hx hb hX hbl hbA hS (i := z_15) (n_in (rfl : z_15.toInt = z_15.toInt) (by omega) (by omega)) dL_law_1481 ?_
  refine lv_topi (fun x_16 ex_16 => ?_)
  obtain rfl : x_6 = x_16 := by rw [ex_6, ex_16, ez_5, ez_15]
  obtain ⟨fso_17, hgo_17, -⟩ := hw_10W.obj (i := 197) (by decide) (sh_197 ad _)
  refine s_callj (q := (RX12, TX12, 40)) (As := [.int x_2, .int x_4, .int x_6]) (rest := []) X Z (s_X12_chance l D cs ad kS K hKO hj g_8 hw_10W x_2 x_4 x_6) (cwV 3 X.2.2.2.2.1 gL_X12_chance rfl rfl rfl (by decide +kernel) ⟨Nat.le_of_ble_eq_true rfl, Nat.le_of_ble_eq_true rfl⟩) (by decide) hgo_17 rfl hP hA (fun a h _ => hS.2.1 a h (Nat.not_le.mpr h)) hS rfl hl.1 rfl (Nat.le_of_ble_eq_true rfl) dL_law_1482 ⟨Nat.le_of_ble_eq_true rfl, Nat.le_of_ble_eq_true rfl⟩ (fun r_19 g_18 H locs hw_20 hP hS => ?_)
  obtain ⟨hw_20W, hw_20f⟩ := hw_20
  refine lv_pop2_2 hx hb dL_law_1485 rfl ?_
  refine lv_goto (tgt := 2069) hx hb dL_law_1486 (by decide) ?_
  exact kk K g_18 _ _ ls hKO hR hw_20W hP hS hl

theorem dL_law_1489 : decode cL_law 1489 = .ok (.aload_n 1, 1) := by decide +kernel
theorem dL_law_1490 : decode cL_law 1490 = .ok (.aload_n 0, 1) := by decide +kernel
theorem dL_law_1491 : decode cL_law 1491 = .ok (.iload_n 3, 1) := by decide +kernel
theorem dL_law_1492 : decode cL_law 1492 = .ok (.iconst 1, 1) := by decide +kernel
theorem dL_law_1493 : decode cL_law 1493 = .ok (.iadd, 1) := by decide +kernel
theorem dL_law_1494 : decode cL_law 1494 = .ok (.iaload, 1) := by decide +kernel
theorem dL_law_1495 : decode cL_law 1495 = .ok (.invokevirtual 191, 3) := by decide +kernel
theorem dL_law_1498 : decode cL_law 1498 = .ok (.pop, 1) := by decide +kernel
theorem dL_law_1499 : decode cL_law 1499 = .ok (.aload_n 2, 1) := by decide +kernel
theorem dL_law_1500 : decode cL_law 1500 = .ok (.aload_n 0, 1) := by decide +kernel
theorem dL_law_1501 : decode cL_law 1501 = .ok (.iload_n 3, 1) := by decide +kernel
theorem dL_law_1502 : decode cL_law 1502 = .ok (.iconst 1, 1) := by decide +kernel
theorem dL_law_1503 : decode cL_law 1503 = .ok (.iadd, 1) := by decide +kernel
theorem dL_law_1504 : decode cL_law 1504 = .ok (.iaload, 1) := by decide +kernel
theorem dL_law_1505 : decode cL_law 1505 = .ok (.invokevirtual 194, 3) := by decide +kernel
theorem dL_law_1508 : decode cL_law 1508 = .ok (.pop, 1) := by decide +kernel
theorem dL_law_1509 : decode cL_law 1509 = .ok (.goto 560, 3) := by decide +kernel
set_option maxRecDepth 20000 in
theorem mT_X1_likeliestDay : wIn lw_tbl vX1_likeliestDay := wIn.cons (List.mem_of_getElem? (i := 1105) (by decide +kernel)) (wIn.app (wIn.r _ [429, 424, 427, 425] (by decide +kernel)) iT_1)
set_option maxRecDepth 20000 in
theorem mT_X11_likely : wIn lw_tbl vX11_likely := wIn.cons (List.mem_of_getElem? (i := 1101) (by decide +kernel)) (wIn.app (wIn.r _ [742, 744, 15, 98, 496, 486, 491, 250, 258, 212, 1077, 1078, 1079, 107, 1102, 1103, 1104] (by decide +kernel)) (wIn.app iT_11 (wIn.app iT_6 (wIn.app mT_X11_isIcicle (wIn.app mT_X1_weigh mT_X1_likeliestDay)))))
theorem gL_X11_likely : GoodIn lw_tbl (wsV RL 191 RX11 yX11_likely vX11_likely) := goodIn_app (goodIn_r _ [1098, 1099, 1100, 98] (by decide +kernel) (by decide +kernel)) (fun w h => ⟨mT_X11_likely w h, gs_X11_likely w h⟩)
set_option maxRecDepth 20000 in
theorem mT_X12_likely : wIn lw_tbl vX12_likely := wIn.cons (List.mem_of_getElem? (i := 1802) (by decide +kernel)) (wIn.app (wIn.r _ [1516, 1518, 58, 110, 1520, 1522, 59, 1784, 1786, 84, 1292, 1278, 1290] (by decide +kernel)) (wIn.app iT_12 (wIn.app mT_X12_isIcicle (wIn.app mT_X12_of mT_X12_layWarm))))
theorem gL_X12_likely : GoodIn lw_tbl (wsV RL 194 RX12 yX12_likely vX12_likely) := goodIn_app (goodIn_r _ [1799, 1800, 1801, 110] (by decide +kernel) (by decide +kernel)) (fun w h => ⟨mT_X12_likely w h, gs_X12_likely w h⟩)
set_option maxHeartbeats 8000000 in
set_option maxRecDepth 100000 in
theorem law_c43 {p : Program} {e : Env} {s : State} {m : MethodId} {below : List Frame} {meth : Method} {c : Code} (l : Launch) {b L : Nat} {xs : Nat → Int32} {D : va_G} {cs : Nat → ClassId} {ad : Nat → Nat} {kS : kSt} {K : sK} {g : Nat → va_E} {H : Heap} {locs : List Loc} (hL : L ≤ 3072) (C0 : lw_At p s m meth c b L xs) (X : CxL p s m b meth c D cs) (Z : SX ad kS s s.heap) (hj : wJ ad 218) (hA : ∀ i, i < 218 → AL s (ad i)) (hKO : KO K) (hR : KR K) (hW : WF (shp ad K) ad cs g) (hP : va_P D vwCl (wL ad g 218) H) (hS : va_S (AL s) s.heap H locs) (ls : Array Slot) (ii : Int32) (hi0 : 0 ≤ ii.toInt) (hi1 : ii.toInt + 6 ≤ L) (hl : lv_has ls 4 [(3, .int ii), (2, .ref (ad 197)), (1, .ref (ad 0)), (0, .ref b)]) (kk : ∀ (K : sK) (g : Nat → va_E) (H : Heap) (locs : List Loc) (ls : Array Slot), KO K → KR K → WF (shp ad K) ad cs g → va_P D vwCl (wL ad g 218) H → va_S (AL s) s.heap H locs → lv_has ls 4 [(3, .int ii), (2, .ref (ad 197)), (1, .ref (ad 0)), (0, .ref b)] → W p l e room_1 s m #[Value.ref b] below meth c H locs 218 6259 (lw_Z below #[Value.ref b] s) (F0 m 2069 ls [])) : W p l e room_1 s m #[Value.ref b] below meth c H locs 218 6259 (lw_Z below #[Value.ref b] s) (F0 m 1489 ls []) := by
  have hx := X.1
  have hb : c.code = cL_law := X.2.1
  obtain ⟨-, -, -, -, -, -, hX, hbl, -, -⟩ := id C0
  have hbA : ¬ AL s b := Nat.not_le.mpr hbl
  refine lv_aload_n hx hb dL_law_1489 rfl (lv_at hl 2 rfl) ?_
  refine lv_aload_n hx hb dL_law_1490 rfl (lv_at hl 3 rfl) ?_
  refine lv_iload_n hx hb dL_law_1491 rfl (lv_at hl 0 rfl) ?_
  refine lv_iconst (v := 1) hx hb dL_law_1492 (by decide) ?_
  refine lv_iadd hx hb dL_law_1493 ?_
  refine lv_topi (fun z_1 ez_1 => ?_)
  have hz_1 : z_1.toInt = ii.toInt + 1 := n_add rfl (by decide : (1 : Int32).toInt = 1) ez_1 (by omega) (by omega)
  refine va_sld hx hb hX hbl hbA hS (i := z_1) (n_in (rfl : z_1.toInt = z_1.toInt) (by omega) (by omega)) dL_law_1494 ?_
  refine lv_topi (fun x_2 ex_2 => ?_)
  obtain ⟨fso_3, hgo_3, -⟩ := hW.obj (i := 0) (by decide) (sh_0 ad _)
  refine s_calli (q := (RX11, TX11, 14)) (As := [.int x_2]) (rest := []) X Z (s_X11_likely l D cs ad kS K hKO hj g hW x_2) (cwV 1 X.2.2.2.2.1 gL_X11_likely rfl rfl rfl (by decide +kernel) ⟨Nat.le_of_ble_eq_true rfl, Nat.le_of_ble_eq_true rfl⟩) (by decide) hgo_3 rfl hP hA (fun a h _ => hS.2.1 a h (Nat.not_le.mpr h)) hS rfl hl.1 rfl (Nat.le_of_ble_eq_true rfl) dL_law_1495 ⟨Nat.le_of_ble_eq_true rfl, Nat.le_of_ble_eq_true rfl⟩ (fun r_5 g_4 H locs hw_6 hP hS => ?_)
  obtain ⟨hw_6W, hw_6f⟩ := hw_6
  refine lv_pop hx hb dL_law_1498 rfl ?_
  refine lv_aload_n hx hb dL_law_1499 rfl (lv_at hl 1 rfl) ?_
  refine lv_aload_n hx hb dL_law_1500 rfl (lv_at hl 3 rfl) ?_
  refine lv_iload_n hx hb dL_law_1501 rfl (lv_at hl 0 rfl) ?_
  refine lv_iconst (v := 1) hx hb dL_law_1502 (by decide) ?_
  refine lv_iadd hx hb dL_law_1503 ?_
  refine lv_topi (fun z_7 ez_7 => ?_)
  have hz_7 : z_7.toInt = ii.toInt + 1 := n_add rfl (by decide : (1 : Int32).toInt = 1) ez_7 (by omega) (by omega)
  refine va_sld hx hb hX hbl hbA hS (i := z_7) (n_in (rfl : z_7.toInt = z_7.toInt) (by omega) (by omega)) dL_law_1504 ?_
  refine lv_topi (fun x_8 ex_8 => ?_)
  obtain rfl : x_2 = x_8 := by rw [ex_2, ex_8, ez_1, ez_7]
  obtain ⟨fso_9, hgo_9, -⟩ := hw_6W.obj (i := 197) (by decide) (sh_197 ad _)
  refine s_calli (q := (RX12, TX12, 40)) (As := [.int x_2]) (rest := []) X Z (s_X12_likely l D cs ad kS K hKO hj g_4 hw_6W x_2) (cwV 1 X.2.2.2.2.1 gL_X12_likely rfl rfl rfl (by decide +kernel) ⟨Nat.le_of_ble_eq_true rfl, Nat.le_of_ble_eq_true rfl⟩) (by decide) hgo_9 rfl hP hA (fun a h _ => hS.2.1 a h (Nat.not_le.mpr h)) hS rfl hl.1 rfl (Nat.le_of_ble_eq_true rfl) dL_law_1505 ⟨Nat.le_of_ble_eq_true rfl, Nat.le_of_ble_eq_true rfl⟩ (fun r_11 g_10 H locs hw_12 hP hS => ?_)
  obtain ⟨hw_12W, hw_12f⟩ := hw_12
  refine lv_pop hx hb dL_law_1508 rfl ?_
  refine lv_goto (tgt := 2069) hx hb dL_law_1509 (by decide) ?_
  exact kk K g_10 _ _ ls hKO hR hw_12W hP hS hl

theorem dL_law_1512 : decode cL_law 1512 = .ok (.aload_n 1, 1) := by decide +kernel
theorem dL_law_1513 : decode cL_law 1513 = .ok (.aload_n 0, 1) := by decide +kernel
theorem dL_law_1514 : decode cL_law 1514 = .ok (.iload_n 3, 1) := by decide +kernel
theorem dL_law_1515 : decode cL_law 1515 = .ok (.iconst 1, 1) := by decide +kernel
theorem dL_law_1516 : decode cL_law 1516 = .ok (.iadd, 1) := by decide +kernel
theorem dL_law_1517 : decode cL_law 1517 = .ok (.iaload, 1) := by decide +kernel
theorem dL_law_1518 : decode cL_law 1518 = .ok (.aload_n 0, 1) := by decide +kernel
theorem dL_law_1519 : decode cL_law 1519 = .ok (.iload_n 3, 1) := by decide +kernel
theorem dL_law_1520 : decode cL_law 1520 = .ok (.iconst 2, 1) := by decide +kernel
theorem dL_law_1521 : decode cL_law 1521 = .ok (.iadd, 1) := by decide +kernel
theorem dL_law_1522 : decode cL_law 1522 = .ok (.iaload, 1) := by decide +kernel
theorem dL_law_1523 : decode cL_law 1523 = .ok (.invokevirtual 195, 3) := by decide +kernel
theorem dL_law_1526 : decode cL_law 1526 = .ok (.pop, 1) := by decide +kernel
theorem dL_law_1527 : decode cL_law 1527 = .ok (.aload_n 2, 1) := by decide +kernel
theorem dL_law_1528 : decode cL_law 1528 = .ok (.aload_n 0, 1) := by decide +kernel
theorem dL_law_1529 : decode cL_law 1529 = .ok (.iload_n 3, 1) := by decide +kernel
theorem dL_law_1530 : decode cL_law 1530 = .ok (.iconst 1, 1) := by decide +kernel
theorem dL_law_1531 : decode cL_law 1531 = .ok (.iadd, 1) := by decide +kernel
theorem dL_law_1532 : decode cL_law 1532 = .ok (.iaload, 1) := by decide +kernel
theorem dL_law_1533 : decode cL_law 1533 = .ok (.aload_n 0, 1) := by decide +kernel
theorem dL_law_1534 : decode cL_law 1534 = .ok (.iload_n 3, 1) := by decide +kernel
theorem dL_law_1535 : decode cL_law 1535 = .ok (.iconst 2, 1) := by decide +kernel
theorem dL_law_1536 : decode cL_law 1536 = .ok (.iadd, 1) := by decide +kernel
theorem dL_law_1537 : decode cL_law 1537 = .ok (.iaload, 1) := by decide +kernel
theorem dL_law_1538 : decode cL_law 1538 = .ok (.invokevirtual 198, 3) := by decide +kernel
theorem dL_law_1541 : decode cL_law 1541 = .ok (.pop, 1) := by decide +kernel
theorem dL_law_1542 : decode cL_law 1542 = .ok (.goto 527, 3) := by decide +kernel
set_option maxRecDepth 20000 in
theorem mT_X11_surest : wIn lw_tbl vX11_surest := wIn.cons (List.mem_of_getElem? (i := 1109) (by decide +kernel)) (wIn.app (wIn.r _ [742, 744, 15, 98, 725, 727, 13, 496, 486, 491, 250, 1077, 1078, 1079, 107, 426] (by decide +kernel)) (wIn.app iT_11 (wIn.app iT_6 (wIn.app iT_1 (wIn.app mT_X11_isIcicle (wIn.app mT_X11_isDay mT_X1_weigh))))))
theorem gL_X11_surest : GoodIn lw_tbl (wsV RL 195 RX11 yX11_surest vX11_surest) := goodIn_app (goodIn_r _ [1106, 1107, 1108, 98] (by decide +kernel) (by decide +kernel)) (fun w h => ⟨mT_X11_surest w h, gs_X11_surest w h⟩)
set_option maxRecDepth 20000 in
theorem mT_X12_surest : wIn lw_tbl vX12_surest := wIn.cons (List.mem_of_getElem? (i := 1806) (by decide +kernel)) (wIn.app (wIn.r _ [1516, 1518, 58, 110, 1489, 1491, 54, 1520, 1522, 59, 1784, 1786, 84, 1290] (by decide +kernel)) (wIn.app iT_12 (wIn.app mT_X12_isIcicle (wIn.app mT_X12_isDay (wIn.app mT_X12_of mT_X12_layWarm)))))
theorem gL_X12_surest : GoodIn lw_tbl (wsV RL 198 RX12 yX12_surest vX12_surest) := goodIn_app (goodIn_r _ [1803, 1804, 1805, 110] (by decide +kernel) (by decide +kernel)) (fun w h => ⟨mT_X12_surest w h, gs_X12_surest w h⟩)
set_option maxHeartbeats 8000000 in
set_option maxRecDepth 100000 in
theorem law_c44 {p : Program} {e : Env} {s : State} {m : MethodId} {below : List Frame} {meth : Method} {c : Code} (l : Launch) {b L : Nat} {xs : Nat → Int32} {D : va_G} {cs : Nat → ClassId} {ad : Nat → Nat} {kS : kSt} {K : sK} {g : Nat → va_E} {H : Heap} {locs : List Loc} (hL : L ≤ 3072) (C0 : lw_At p s m meth c b L xs) (X : CxL p s m b meth c D cs) (Z : SX ad kS s s.heap) (hj : wJ ad 218) (hA : ∀ i, i < 218 → AL s (ad i)) (hKO : KO K) (hR : KR K) (hW : WF (shp ad K) ad cs g) (hP : va_P D vwCl (wL ad g 218) H) (hS : va_S (AL s) s.heap H locs) (ls : Array Slot) (ii : Int32) (hi0 : 0 ≤ ii.toInt) (hi1 : ii.toInt + 6 ≤ L) (hl : lv_has ls 4 [(3, .int ii), (2, .ref (ad 197)), (1, .ref (ad 0)), (0, .ref b)]) (kk : ∀ (K : sK) (g : Nat → va_E) (H : Heap) (locs : List Loc) (ls : Array Slot), KO K → KR K → WF (shp ad K) ad cs g → va_P D vwCl (wL ad g 218) H → va_S (AL s) s.heap H locs → lv_has ls 4 [(3, .int ii), (2, .ref (ad 197)), (1, .ref (ad 0)), (0, .ref b)] → W p l e room_1 s m #[Value.ref b] below meth c H locs 218 6259 (lw_Z below #[Value.ref b] s) (F0 m 2069 ls [])) : W p l e room_1 s m #[Value.ref b] below meth c H locs 218 6259 (lw_Z below #[Value.ref b] s) (F0 m 1512 ls []) := by
  have hx := X.1
  have hb : c.code = cL_law := X.2.1
  obtain ⟨-, -, -, -, -, -, hX, hbl, -, -⟩ := id C0
  have hbA : ¬ AL s b := Nat.not_le.mpr hbl
  refine lv_aload_n hx hb dL_law_1512 rfl (lv_at hl 2 rfl) ?_
  refine lv_aload_n hx hb dL_law_1513 rfl (lv_at hl 3 rfl) ?_
  refine lv_iload_n hx hb dL_law_1514 rfl (lv_at hl 0 rfl) ?_
  refine lv_iconst (v := 1) hx hb dL_law_1515 (by decide) ?_
  refine lv_iadd hx hb dL_law_1516 ?_
  refine lv_topi (fun z_1 ez_1 => ?_)
  have hz_1 : z_1.toInt = ii.toInt + 1 := n_add rfl (by decide : (1 : Int32).toInt = 1) ez_1 (by omega) (by omega)
  refine va_sld hx hb hX hbl hbA hS (i := z_1) (n_in (rfl : z_1.toInt = z_1.toInt) (by omega) (by omega)) dL_law_1517 ?_
  refine lv_topi (fun x_2 ex_2 => ?_)
  refine lv_aload_n hx hb dL_law_1518 rfl (lv_at hl 3 rfl) ?_
  refine lv_iload_n hx hb dL_law_1519 rfl (lv_at hl 0 rfl) ?_
  refine lv_iconst (v := 2) hx hb dL_law_1520 (by decide) ?_
  refine lv_iadd hx hb dL_law_1521 ?_
  refine lv_topi (fun z_3 ez_3 => ?_)
  have hz_3 : z_3.toInt = ii.toInt + 2 := n_add rfl (by decide : (2 : Int32).toInt = 2) ez_3 (by omega) (by omega)
  refine va_sld hx hb hX hbl hbA hS (i := z_3) (n_in (rfl : z_3.toInt = z_3.toInt) (by omega) (by omega)) dL_law_1522 ?_
  refine lv_topi (fun x_4 ex_4 => ?_)
  obtain ⟨fso_5, hgo_5, -⟩ := hW.obj (i := 0) (by decide) (sh_0 ad _)
  refine s_calli (q := (RX11, TX11, 14)) (As := [.int x_2, .int x_4]) (rest := []) X Z (s_X11_surest l D cs ad kS K hKO hj g hW x_2 x_4) (cwV 2 X.2.2.2.2.1 gL_X11_surest rfl rfl rfl (by decide +kernel) ⟨Nat.le_of_ble_eq_true rfl, Nat.le_of_ble_eq_true rfl⟩) (by decide) hgo_5 rfl hP hA (fun a h _ => hS.2.1 a h (Nat.not_le.mpr h)) hS rfl hl.1 rfl (Nat.le_of_ble_eq_true rfl) dL_law_1523 ⟨Nat.le_of_ble_eq_true rfl, Nat.le_of_ble_eq_true rfl⟩ (fun r_7 g_6 H locs hw_8 hP hS => ?_)
  obtain ⟨hw_8W, hw_8f⟩ := hw_8
  refine lv_pop hx hb dL_law_1526 rfl ?_
  refine lv_aload_n hx hb dL_law_1527 rfl (lv_at hl 1 rfl) ?_
  refine lv_aload_n hx hb dL_law_1528 rfl (lv_at hl 3 rfl) ?_
  refine lv_iload_n hx hb dL_law_1529 rfl (lv_at hl 0 rfl) ?_
  refine lv_iconst (v := 1) hx hb dL_law_1530 (by decide) ?_
  refine lv_iadd hx hb dL_law_1531 ?_
  refine lv_topi (fun z_9 ez_9 => ?_)
  have hz_9 : z_9.toInt = ii.toInt + 1 := n_add rfl (by decide : (1 : Int32).toInt = 1) ez_9 (by omega) (by omega)
  refine va_sld hx hb hX hbl hbA hS (i := z_9) (n_in (rfl : z_9.toInt = z_9.toInt) (by omega) (by omega)) dL_law_1532 ?_
  refine lv_topi (fun x_10 ex_10 => ?_)
  obtain rfl : x_2 = x_10 := by rw [ex_2, ex_10, ez_1, ez_9]
  refine lv_aload_n hx hb dL_law_1533 rfl (lv_at hl 3 rfl) ?_
  refine lv_iload_n hx hb dL_law_1534 rfl (lv_at hl 0 rfl) ?_
  refine lv_iconst (v := 2) hx hb dL_law_1535 (by decide) ?_
  refine lv_iadd hx hb dL_law_1536 ?_
  refine lv_topi (fun z_11 ez_11 => ?_)
  have hz_11 : z_11.toInt = ii.toInt + 2 := n_add rfl (by decide : (2 : Int32).toInt = 2) ez_11 (by omega) (by omega)
  refine va_sld hx hb hX hbl hbA hS (i := z_11) (n_in (rfl : z_11.toInt = z_11.toInt) (by omega) (by omega)) dL_law_1537 ?_
  refine lv_topi (fun x_12 ex_12 => ?_)
  obtain rfl : x_4 = x_12 := by rw [ex_4, ex_12, ez_3, ez_11]
  obtain ⟨fso_13, hgo_13, -⟩ := hw_8W.obj (i := 197) (by decide) (sh_197 ad _)
  refine s_calli (q := (RX12, TX12, 40)) (As := [.int x_2, .int x_4]) (rest := []) X Z (s_X12_surest l D cs ad kS K hKO hj g_6 hw_8W x_2 x_4) (cwV 2 X.2.2.2.2.1 gL_X12_surest rfl rfl rfl (by decide +kernel) ⟨Nat.le_of_ble_eq_true rfl, Nat.le_of_ble_eq_true rfl⟩) (by decide) hgo_13 rfl hP hA (fun a h _ => hS.2.1 a h (Nat.not_le.mpr h)) hS rfl hl.1 rfl (Nat.le_of_ble_eq_true rfl) dL_law_1538 ⟨Nat.le_of_ble_eq_true rfl, Nat.le_of_ble_eq_true rfl⟩ (fun r_15 g_14 H locs hw_16 hP hS => ?_)
  obtain ⟨hw_16W, hw_16f⟩ := hw_16
  refine lv_pop hx hb dL_law_1541 rfl ?_
  refine lv_goto (tgt := 2069) hx hb dL_law_1542 (by decide) ?_
  exact kk K g_14 _ _ ls hKO hR hw_16W hP hS hl

theorem dL_law_1545 : decode cL_law 1545 = .ok (.aload_n 1, 1) := by decide +kernel
theorem dL_law_1546 : decode cL_law 1546 = .ok (.invokevirtual 199, 3) := by decide +kernel
theorem dL_law_1549 : decode cL_law 1549 = .ok (.pop, 1) := by decide +kernel
theorem dL_law_1550 : decode cL_law 1550 = .ok (.aload_n 2, 1) := by decide +kernel
theorem dL_law_1551 : decode cL_law 1551 = .ok (.invokevirtual 202, 3) := by decide +kernel
theorem dL_law_1554 : decode cL_law 1554 = .ok (.pop, 1) := by decide +kernel
theorem dL_law_1555 : decode cL_law 1555 = .ok (.goto 514, 3) := by decide +kernel
set_option maxRecDepth 20000 in
theorem mT_X8_planFrom : wIn lw_tbl vX8_planFrom := wIn.cons (List.mem_of_getElem? (i := 1122) (by decide +kernel)) (wIn.app (wIn.r _ [449, 448, 450, 451, 1123, 783, 115, 784, 452, 1124, 650, 651] (by decide +kernel)) iT_8)
set_option maxRecDepth 20000 in
theorem mT_X8_plan : wIn lw_tbl vX8_plan := wIn.cons (List.mem_of_getElem? (i := 1117) (by decide +kernel)) (wIn.app (wIn.r _ [205, 451, 214, 452, 448, 1118, 825, 826, 103, 1119, 1121, 34, 108, 449, 446, 1124, 650, 115, 651] (by decide +kernel)) (wIn.app iT_6 (wIn.app iT_8 (wIn.app mT_X10_fallsUnder mT_X8_planFrom))))
set_option maxRecDepth 20000 in
theorem mT_X11_walk : wIn lw_tbl vX11_walk := wIn.cons (List.mem_of_getElem? (i := 1113) (by decide +kernel)) (wIn.app (wIn.r _ [486, 212, 218, 497, 491, 1114, 1115, 1116, 108, 447] (by decide +kernel)) (wIn.app iT_11 (wIn.app iT_6 (wIn.app iT_8 mT_X8_plan))))
theorem gL_X11_walk : GoodIn lw_tbl (wsV RL 199 RX11 yX11_walk vX11_walk) := goodIn_app (goodIn_r _ [1110, 1111, 1112, 98] (by decide +kernel) (by decide +kernel)) (fun w h => ⟨mT_X11_walk w h, gs_X11_walk w h⟩)
set_option maxRecDepth 20000 in
theorem mT_X12_struckFrom : wIn lw_tbl vX12_struckFrom := wIn.cons (List.mem_of_getElem? (i := 1822) (by decide +kernel)) (wIn.app (wIn.r _ [1293] (by decide +kernel)) iT_12)
set_option maxRecDepth 20000 in
theorem mT_X12_leastFrom : wIn lw_tbl vX12_leastFrom := wIn.cons (List.mem_of_getElem? (i := 1818) (by decide +kernel)) (wIn.app (wIn.r _ [1668, 1262, 1627, 858, 115, 859, 1819, 1821, 89, 110, 1423, 650, 651] (by decide +kernel)) (wIn.app iT_12 mT_X12_struckFrom))
set_option maxRecDepth 20000 in
theorem mT_X12_waysFrom : wIn lw_tbl vX12_waysFrom := wIn.cons (List.mem_of_getElem? (i := 1826) (by decide +kernel)) (wIn.app (wIn.r _ [1262, 1627, 858, 115, 859, 1819, 1821, 89, 110, 1815, 1817, 88, 1294] (by decide +kernel)) (wIn.app iT_12 (wIn.app mT_X12_struckFrom mT_X12_leastFrom)))
set_option maxRecDepth 20000 in
theorem mT_X12_layWalks : wIn lw_tbl vX12_layWalks := wIn.cons (List.mem_of_getElem? (i := 1814) (by decide +kernel)) (wIn.app (wIn.r _ [1262, 1540, 1542, 61, 110, 1278, 1293, 1694, 1696, 75, 1815, 1817, 88, 1294, 1823, 1825, 90] (by decide +kernel)) (wIn.app iT_12 (wIn.app mT_X12_layAll (wIn.app mT_X12_dropsAt (wIn.app mT_X12_leastFrom mT_X12_waysFrom)))))
set_option maxRecDepth 20000 in
theorem mT_X12_walk : wIn lw_tbl vX12_walk := wIn.cons (List.mem_of_getElem? (i := 1810) (by decide +kernel)) (wIn.app (wIn.r _ [1811, 1813, 87, 110, 1815, 1817, 88] (by decide +kernel)) (wIn.app mT_X12_layWalks mT_X12_leastFrom))
theorem gL_X12_walk : GoodIn lw_tbl (wsV RL 202 RX12 yX12_walk vX12_walk) := goodIn_app (goodIn_r _ [1807, 1808, 1809, 110] (by decide +kernel) (by decide +kernel)) (fun w h => ⟨mT_X12_walk w h, gs_X12_walk w h⟩)
set_option maxHeartbeats 8000000 in
set_option maxRecDepth 100000 in
theorem law_c45 {p : Program} {e : Env} {s : State} {m : MethodId} {below : List Frame} {meth : Method} {c : Code} (l : Launch) {b L : Nat} {xs : Nat → Int32} {D : va_G} {cs : Nat → ClassId} {ad : Nat → Nat} {kS : kSt} {K : sK} {g : Nat → va_E} {H : Heap} {locs : List Loc} (hL : L ≤ 3072) (C0 : lw_At p s m meth c b L xs) (X : CxL p s m b meth c D cs) (Z : SX ad kS s s.heap) (hj : wJ ad 218) (hA : ∀ i, i < 218 → AL s (ad i)) (hKO : KO K) (hR : KR K) (hW : WF (shp ad K) ad cs g) (hP : va_P D vwCl (wL ad g 218) H) (hS : va_S (AL s) s.heap H locs) (ls : Array Slot) (ii : Int32) (hi0 : 0 ≤ ii.toInt) (hi1 : ii.toInt + 6 ≤ L) (hl : lv_has ls 4 [(3, .int ii), (2, .ref (ad 197)), (1, .ref (ad 0)), (0, .ref b)]) (kk : ∀ (K : sK) (g : Nat → va_E) (H : Heap) (locs : List Loc) (ls : Array Slot), KO K → KR K → WF (shp ad K) ad cs g → va_P D vwCl (wL ad g 218) H → va_S (AL s) s.heap H locs → lv_has ls 4 [(3, .int ii), (2, .ref (ad 197)), (1, .ref (ad 0)), (0, .ref b)] → W p l e room_1 s m #[Value.ref b] below meth c H locs 218 6259 (lw_Z below #[Value.ref b] s) (F0 m 2069 ls [])) : W p l e room_1 s m #[Value.ref b] below meth c H locs 218 6259 (lw_Z below #[Value.ref b] s) (F0 m 1545 ls []) := by
  have hx := X.1
  have hb : c.code = cL_law := X.2.1
  obtain ⟨-, -, -, -, -, -, hX, hbl, -, -⟩ := id C0
  have hbA : ¬ AL s b := Nat.not_le.mpr hbl
  refine lv_aload_n hx hb dL_law_1545 rfl (lv_at hl 2 rfl) ?_
  obtain ⟨fso_1, hgo_1, -⟩ := hW.obj (i := 0) (by decide) (sh_0 ad _)
  refine s_calli (q := (RX11, TX11, 14)) (As := []) (rest := []) X Z (s_X11_walk l D cs ad kS K hKO hj g hW ) (cwV 0 X.2.2.2.2.1 gL_X11_walk rfl rfl rfl (by decide +kernel) ⟨Nat.le_of_ble_eq_true rfl, Nat.le_of_ble_eq_true rfl⟩) (by decide) hgo_1 rfl hP hA (fun a h _ => hS.2.1 a h (Nat.not_le.mpr h)) hS rfl hl.1 rfl (Nat.le_of_ble_eq_true rfl) dL_law_1546 ⟨Nat.le_of_ble_eq_true rfl, Nat.le_of_ble_eq_true rfl⟩ (fun r_3 g_2 H locs hw_4 hP hS => ?_)
  obtain ⟨hw_4W, hw_4f⟩ := hw_4
  refine lv_pop hx hb dL_law_1549 rfl ?_
  refine lv_aload_n hx hb dL_law_1550 rfl (lv_at hl 1 rfl) ?_
  obtain ⟨fso_5, hgo_5, -⟩ := hw_4W.obj (i := 197) (by decide) (sh_197 ad _)
  refine s_calli (q := (RX12, TX12, 40)) (As := []) (rest := []) X Z (s_X12_walk l D cs ad kS K hKO hj g_2 hw_4W ) (cwV 0 X.2.2.2.2.1 gL_X12_walk rfl rfl rfl (by decide +kernel) ⟨Nat.le_of_ble_eq_true rfl, Nat.le_of_ble_eq_true rfl⟩) (by decide) hgo_5 rfl hP hA (fun a h _ => hS.2.1 a h (Nat.not_le.mpr h)) hS rfl hl.1 rfl (Nat.le_of_ble_eq_true rfl) dL_law_1551 ⟨Nat.le_of_ble_eq_true rfl, Nat.le_of_ble_eq_true rfl⟩ (fun r_7 g_6 H locs hw_8 hP hS => ?_)
  obtain ⟨hw_8W, hw_8f⟩ := hw_8
  refine lv_pop hx hb dL_law_1554 rfl ?_
  refine lv_goto (tgt := 2069) hx hb dL_law_1555 (by decide) ?_
  exact kk K g_6 _ _ ls hKO hR hw_8W hP hS hl

theorem dL_law_1558 : decode cL_law 1558 = .ok (.aload_n 1, 1) := by decide +kernel
theorem dL_law_1559 : decode cL_law 1559 = .ok (.aload_n 0, 1) := by decide +kernel
theorem dL_law_1560 : decode cL_law 1560 = .ok (.iload_n 3, 1) := by decide +kernel
theorem dL_law_1561 : decode cL_law 1561 = .ok (.iconst 1, 1) := by decide +kernel
theorem dL_law_1562 : decode cL_law 1562 = .ok (.iadd, 1) := by decide +kernel
theorem dL_law_1563 : decode cL_law 1563 = .ok (.iaload, 1) := by decide +kernel
theorem dL_law_1564 : decode cL_law 1564 = .ok (.invokevirtual 203, 3) := by decide +kernel
theorem dL_law_1567 : decode cL_law 1567 = .ok (.pop, 1) := by decide +kernel
theorem dL_law_1568 : decode cL_law 1568 = .ok (.aload_n 2, 1) := by decide +kernel
theorem dL_law_1569 : decode cL_law 1569 = .ok (.aload_n 0, 1) := by decide +kernel
theorem dL_law_1570 : decode cL_law 1570 = .ok (.iload_n 3, 1) := by decide +kernel
theorem dL_law_1571 : decode cL_law 1571 = .ok (.iconst 1, 1) := by decide +kernel
theorem dL_law_1572 : decode cL_law 1572 = .ok (.iadd, 1) := by decide +kernel
theorem dL_law_1573 : decode cL_law 1573 = .ok (.iaload, 1) := by decide +kernel
theorem dL_law_1574 : decode cL_law 1574 = .ok (.invokevirtual 206, 3) := by decide +kernel
theorem dL_law_1577 : decode cL_law 1577 = .ok (.pop, 1) := by decide +kernel
theorem dL_law_1578 : decode cL_law 1578 = .ok (.goto 491, 3) := by decide +kernel
set_option maxRecDepth 20000 in
theorem mT_X8_firstOf : wIn lw_tbl vX8_firstOf := wIn.cons (List.mem_of_getElem? (i := 1136) (by decide +kernel)) (wIn.app (wIn.r _ [449] (by decide +kernel)) iT_8)
set_option maxRecDepth 20000 in
theorem mT_X8_eaveOfFirst : wIn lw_tbl vX8_eaveOfFirst := wIn.cons (List.mem_of_getElem? (i := 1132) (by decide +kernel)) (wIn.app (wIn.r _ [452, 446, 1133, 1135, 35, 108, 451, 449, 448, 1123, 783, 115, 784, 1124, 650, 651] (by decide +kernel)) (wIn.app iT_8 mT_X8_firstOf))
set_option maxRecDepth 20000 in
theorem mT_X11_walks : wIn lw_tbl vX11_walks := wIn.cons (List.mem_of_getElem? (i := 1128) (by decide +kernel)) (wIn.app (wIn.r _ [725, 727, 13, 98, 486, 218, 497, 491, 1114, 1115, 1116, 108, 1129, 1130, 1131] (by decide +kernel)) (wIn.app iT_11 (wIn.app iT_6 (wIn.app mT_X11_isDay (wIn.app mT_X8_plan mT_X8_eaveOfFirst)))))
theorem gL_X11_walks : GoodIn lw_tbl (wsV RL 203 RX11 yX11_walks vX11_walks) := goodIn_app (goodIn_r _ [1125, 1126, 1127, 98] (by decide +kernel) (by decide +kernel)) (fun w h => ⟨mT_X11_walks w h, gs_X11_walks w h⟩)
set_option maxRecDepth 20000 in
theorem mT_X12_walks : wIn lw_tbl vX12_walks := wIn.cons (List.mem_of_getElem? (i := 1834) (by decide +kernel)) (wIn.app (wIn.r _ [1489, 1491, 54, 110, 1811, 1813, 87, 1815, 1817, 88, 1819, 1821, 89, 1627, 858, 115, 859] (by decide +kernel)) (wIn.app mT_X12_isDay (wIn.app mT_X12_layWalks (wIn.app mT_X12_leastFrom mT_X12_struckFrom))))
theorem gL_X12_walks : GoodIn lw_tbl (wsV RL 206 RX12 yX12_walks vX12_walks) := goodIn_app (goodIn_r _ [1831, 1832, 1833, 110] (by decide +kernel) (by decide +kernel)) (fun w h => ⟨mT_X12_walks w h, gs_X12_walks w h⟩)
set_option maxHeartbeats 8000000 in
set_option maxRecDepth 100000 in
theorem law_c46 {p : Program} {e : Env} {s : State} {m : MethodId} {below : List Frame} {meth : Method} {c : Code} (l : Launch) {b L : Nat} {xs : Nat → Int32} {D : va_G} {cs : Nat → ClassId} {ad : Nat → Nat} {kS : kSt} {K : sK} {g : Nat → va_E} {H : Heap} {locs : List Loc} (hL : L ≤ 3072) (C0 : lw_At p s m meth c b L xs) (X : CxL p s m b meth c D cs) (Z : SX ad kS s s.heap) (hj : wJ ad 218) (hA : ∀ i, i < 218 → AL s (ad i)) (hKO : KO K) (hR : KR K) (hW : WF (shp ad K) ad cs g) (hP : va_P D vwCl (wL ad g 218) H) (hS : va_S (AL s) s.heap H locs) (ls : Array Slot) (ii : Int32) (hi0 : 0 ≤ ii.toInt) (hi1 : ii.toInt + 6 ≤ L) (hl : lv_has ls 4 [(3, .int ii), (2, .ref (ad 197)), (1, .ref (ad 0)), (0, .ref b)]) (kk : ∀ (K : sK) (g : Nat → va_E) (H : Heap) (locs : List Loc) (ls : Array Slot), KO K → KR K → WF (shp ad K) ad cs g → va_P D vwCl (wL ad g 218) H → va_S (AL s) s.heap H locs → lv_has ls 4 [(3, .int ii), (2, .ref (ad 197)), (1, .ref (ad 0)), (0, .ref b)] → W p l e room_1 s m #[Value.ref b] below meth c H locs 218 6259 (lw_Z below #[Value.ref b] s) (F0 m 2069 ls [])) : W p l e room_1 s m #[Value.ref b] below meth c H locs 218 6259 (lw_Z below #[Value.ref b] s) (F0 m 1558 ls []) := by
  have hx := X.1
  have hb : c.code = cL_law := X.2.1
  obtain ⟨-, -, -, -, -, -, hX, hbl, -, -⟩ := id C0
  have hbA : ¬ AL s b := Nat.not_le.mpr hbl
  refine lv_aload_n hx hb dL_law_1558 rfl (lv_at hl 2 rfl) ?_
  refine lv_aload_n hx hb dL_law_1559 rfl (lv_at hl 3 rfl) ?_
  refine lv_iload_n hx hb dL_law_1560 rfl (lv_at hl 0 rfl) ?_
  refine lv_iconst (v := 1) hx hb dL_law_1561 (by decide) ?_
  refine lv_iadd hx hb dL_law_1562 ?_
  refine lv_topi (fun z_1 ez_1 => ?_)
  have hz_1 : z_1.toInt = ii.toInt + 1 := n_add rfl (by decide : (1 : Int32).toInt = 1) ez_1 (by omega) (by omega)
  refine va_sld hx hb hX hbl hbA hS (i := z_1) (n_in (rfl : z_1.toInt = z_1.toInt) (by omega) (by omega)) dL_law_1563 ?_
  refine lv_topi (fun x_2 ex_2 => ?_)
  obtain ⟨fso_3, hgo_3, -⟩ := hW.obj (i := 0) (by decide) (sh_0 ad _)
  refine s_calli (q := (RX11, TX11, 14)) (As := [.int x_2]) (rest := []) X Z (s_X11_walks l D cs ad kS K hKO hj g hW x_2) (cwV 1 X.2.2.2.2.1 gL_X11_walks rfl rfl rfl (by decide +kernel) ⟨Nat.le_of_ble_eq_true rfl, Nat.le_of_ble_eq_true rfl⟩) (by decide) hgo_3 rfl hP hA (fun a h _ => hS.2.1 a h (Nat.not_le.mpr h)) hS rfl hl.1 rfl (Nat.le_of_ble_eq_true rfl) dL_law_1564 ⟨Nat.le_of_ble_eq_true rfl, Nat.le_of_ble_eq_true rfl⟩ (fun r_5 g_4 H locs hw_6 hP hS => ?_)
  obtain ⟨hw_6W, hw_6f⟩ := hw_6
  refine lv_pop hx hb dL_law_1567 rfl ?_
  refine lv_aload_n hx hb dL_law_1568 rfl (lv_at hl 1 rfl) ?_
  refine lv_aload_n hx hb dL_law_1569 rfl (lv_at hl 3 rfl) ?_
  refine lv_iload_n hx hb dL_law_1570 rfl (lv_at hl 0 rfl) ?_
  refine lv_iconst (v := 1) hx hb dL_law_1571 (by decide) ?_
  refine lv_iadd hx hb dL_law_1572 ?_
  refine lv_topi (fun z_7 ez_7 => ?_)
  have hz_7 : z_7.toInt = ii.toInt + 1 := n_add rfl (by decide : (1 : Int32).toInt = 1) ez_7 (by omega) (by omega)
  refine va_sld hx hb hX hbl hbA hS (i := z_7) (n_in (rfl : z_7.toInt = z_7.toInt) (by omega) (by omega)) dL_law_1573 ?_
  refine lv_topi (fun x_8 ex_8 => ?_)
  obtain rfl : x_2 = x_8 := by rw [ex_2, ex_8, ez_1, ez_7]
  obtain ⟨fso_9, hgo_9, -⟩ := hw_6W.obj (i := 197) (by decide) (sh_197 ad _)
  refine s_calli (q := (RX12, TX12, 40)) (As := [.int x_2]) (rest := []) X Z (s_X12_walks l D cs ad kS K hKO hj g_4 hw_6W x_2) (cwV 1 X.2.2.2.2.1 gL_X12_walks rfl rfl rfl (by decide +kernel) ⟨Nat.le_of_ble_eq_true rfl, Nat.le_of_ble_eq_true rfl⟩) (by decide) hgo_9 rfl hP hA (fun a h _ => hS.2.1 a h (Nat.not_le.mpr h)) hS rfl hl.1 rfl (Nat.le_of_ble_eq_true rfl) dL_law_1574 ⟨Nat.le_of_ble_eq_true rfl, Nat.le_of_ble_eq_true rfl⟩ (fun r_11 g_10 H locs hw_12 hP hS => ?_)
  obtain ⟨hw_12W, hw_12f⟩ := hw_12
  refine lv_pop hx hb dL_law_1577 rfl ?_
  refine lv_goto (tgt := 2069) hx hb dL_law_1578 (by decide) ?_
  exact kk K g_10 _ _ ls hKO hR hw_12W hP hS hl

theorem dL_law_1581 : decode cL_law 1581 = .ok (.aload_n 1, 1) := by decide +kernel
theorem dL_law_1582 : decode cL_law 1582 = .ok (.invokevirtual 207, 3) := by decide +kernel
theorem dL_law_1585 : decode cL_law 1585 = .ok (.pop, 1) := by decide +kernel
theorem dL_law_1586 : decode cL_law 1586 = .ok (.aload_n 2, 1) := by decide +kernel
theorem dL_law_1587 : decode cL_law 1587 = .ok (.invokevirtual 210, 3) := by decide +kernel
theorem dL_law_1590 : decode cL_law 1590 = .ok (.pop, 1) := by decide +kernel
theorem dL_law_1591 : decode cL_law 1591 = .ok (.goto 478, 3) := by decide +kernel
set_option maxRecDepth 20000 in
theorem mT_X8_howMany : wIn lw_tbl vX8_howMany := wIn.cons (List.mem_of_getElem? (i := 1144) (by decide +kernel)) (wIn.app (wIn.r _ [452, 449, 446, 450] (by decide +kernel)) iT_8)
set_option maxRecDepth 20000 in
theorem mT_X11_ways : wIn lw_tbl vX11_ways := wIn.cons (List.mem_of_getElem? (i := 1140) (by decide +kernel)) (wIn.app (wIn.r _ [486, 212, 218, 497, 491, 1114, 1115, 1116, 108, 1141, 1142, 1143] (by decide +kernel)) (wIn.app iT_11 (wIn.app iT_6 (wIn.app mT_X8_plan mT_X8_howMany))))
theorem gL_X11_ways : GoodIn lw_tbl (wsV RL 207 RX11 yX11_ways vX11_ways) := goodIn_app (goodIn_r _ [1137, 1138, 1139, 98] (by decide +kernel) (by decide +kernel)) (fun w h => ⟨mT_X11_ways w h, gs_X11_ways w h⟩)
set_option maxRecDepth 20000 in
theorem mT_X12_ways : wIn lw_tbl vX12_ways := wIn.cons (List.mem_of_getElem? (i := 1830) (by decide +kernel)) (wIn.app (wIn.r _ [1811, 1813, 87, 110, 1823, 1825, 90] (by decide +kernel)) (wIn.app mT_X12_layWalks mT_X12_waysFrom))
theorem gL_X12_ways : GoodIn lw_tbl (wsV RL 210 RX12 yX12_ways vX12_ways) := goodIn_app (goodIn_r _ [1827, 1828, 1829, 110] (by decide +kernel) (by decide +kernel)) (fun w h => ⟨mT_X12_ways w h, gs_X12_ways w h⟩)
set_option maxHeartbeats 8000000 in
set_option maxRecDepth 100000 in
theorem law_c47 {p : Program} {e : Env} {s : State} {m : MethodId} {below : List Frame} {meth : Method} {c : Code} (l : Launch) {b L : Nat} {xs : Nat → Int32} {D : va_G} {cs : Nat → ClassId} {ad : Nat → Nat} {kS : kSt} {K : sK} {g : Nat → va_E} {H : Heap} {locs : List Loc} (hL : L ≤ 3072) (C0 : lw_At p s m meth c b L xs) (X : CxL p s m b meth c D cs) (Z : SX ad kS s s.heap) (hj : wJ ad 218) (hA : ∀ i, i < 218 → AL s (ad i)) (hKO : KO K) (hR : KR K) (hW : WF (shp ad K) ad cs g) (hP : va_P D vwCl (wL ad g 218) H) (hS : va_S (AL s) s.heap H locs) (ls : Array Slot) (ii : Int32) (hi0 : 0 ≤ ii.toInt) (hi1 : ii.toInt + 6 ≤ L) (hl : lv_has ls 4 [(3, .int ii), (2, .ref (ad 197)), (1, .ref (ad 0)), (0, .ref b)]) (kk : ∀ (K : sK) (g : Nat → va_E) (H : Heap) (locs : List Loc) (ls : Array Slot), KO K → KR K → WF (shp ad K) ad cs g → va_P D vwCl (wL ad g 218) H → va_S (AL s) s.heap H locs → lv_has ls 4 [(3, .int ii), (2, .ref (ad 197)), (1, .ref (ad 0)), (0, .ref b)] → W p l e room_1 s m #[Value.ref b] below meth c H locs 218 6259 (lw_Z below #[Value.ref b] s) (F0 m 2069 ls [])) : W p l e room_1 s m #[Value.ref b] below meth c H locs 218 6259 (lw_Z below #[Value.ref b] s) (F0 m 1581 ls []) := by
  have hx := X.1
  have hb : c.code = cL_law := X.2.1
  obtain ⟨-, -, -, -, -, -, hX, hbl, -, -⟩ := id C0
  have hbA : ¬ AL s b := Nat.not_le.mpr hbl
  refine lv_aload_n hx hb dL_law_1581 rfl (lv_at hl 2 rfl) ?_
  obtain ⟨fso_1, hgo_1, -⟩ := hW.obj (i := 0) (by decide) (sh_0 ad _)
  refine s_calli (q := (RX11, TX11, 14)) (As := []) (rest := []) X Z (s_X11_ways l D cs ad kS K hKO hj g hW ) (cwV 0 X.2.2.2.2.1 gL_X11_ways rfl rfl rfl (by decide +kernel) ⟨Nat.le_of_ble_eq_true rfl, Nat.le_of_ble_eq_true rfl⟩) (by decide) hgo_1 rfl hP hA (fun a h _ => hS.2.1 a h (Nat.not_le.mpr h)) hS rfl hl.1 rfl (Nat.le_of_ble_eq_true rfl) dL_law_1582 ⟨Nat.le_of_ble_eq_true rfl, Nat.le_of_ble_eq_true rfl⟩ (fun r_3 g_2 H locs hw_4 hP hS => ?_)
  obtain ⟨hw_4W, hw_4f⟩ := hw_4
  refine lv_pop hx hb dL_law_1585 rfl ?_
  refine lv_aload_n hx hb dL_law_1586 rfl (lv_at hl 1 rfl) ?_
  obtain ⟨fso_5, hgo_5, -⟩ := hw_4W.obj (i := 197) (by decide) (sh_197 ad _)
  refine s_calli (q := (RX12, TX12, 40)) (As := []) (rest := []) X Z (s_X12_ways l D cs ad kS K hKO hj g_2 hw_4W ) (cwV 0 X.2.2.2.2.1 gL_X12_ways rfl rfl rfl (by decide +kernel) ⟨Nat.le_of_ble_eq_true rfl, Nat.le_of_ble_eq_true rfl⟩) (by decide) hgo_5 rfl hP hA (fun a h _ => hS.2.1 a h (Nat.not_le.mpr h)) hS rfl hl.1 rfl (Nat.le_of_ble_eq_true rfl) dL_law_1587 ⟨Nat.le_of_ble_eq_true rfl, Nat.le_of_ble_eq_true rfl⟩ (fun r_7 g_6 H locs hw_8 hP hS => ?_)
  obtain ⟨hw_8W, hw_8f⟩ := hw_8
  refine lv_pop hx hb dL_law_1590 rfl ?_
  refine lv_goto (tgt := 2069) hx hb dL_law_1591 (by decide) ?_
  exact kk K g_6 _ _ ls hKO hR hw_8W hP hS hl

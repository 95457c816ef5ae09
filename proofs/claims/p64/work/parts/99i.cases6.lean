theorem dL_law_1594 : decode cL_law 1594 = .ok (.aload_n 1, 1) := by decide +kernel
theorem dL_law_1595 : decode cL_law 1595 = .ok (.invokevirtual 211, 3) := by decide +kernel
theorem dL_law_1598 : decode cL_law 1598 = .ok (.pop, 1) := by decide +kernel
theorem dL_law_1599 : decode cL_law 1599 = .ok (.aload_n 2, 1) := by decide +kernel
theorem dL_law_1600 : decode cL_law 1600 = .ok (.invokevirtual 214, 3) := by decide +kernel
theorem dL_law_1603 : decode cL_law 1603 = .ok (.pop, 1) := by decide +kernel
theorem dL_law_1604 : decode cL_law 1604 = .ok (.goto 465, 3) := by decide +kernel
set_option maxRecDepth 20000 in
theorem mT_X2_firstHas : wIn lw_tbl vX2_firstHas := wIn.cons (List.mem_of_getElem? (i := 1162) (by decide +kernel)) (wIn.app (wIn.r _ [477, 243] (by decide +kernel)) (wIn.app iT_2 iT_6))
set_option maxRecDepth 20000 in
theorem mT_X2_secondHas : wIn lw_tbl vX2_secondHas := wIn.cons (List.mem_of_getElem? (i := 1166) (by decide +kernel)) (wIn.app (wIn.r _ [211, 477, 243] (by decide +kernel)) (wIn.app iT_6 iT_2))
set_option maxRecDepth 20000 in
theorem mT_X2_isRest : wIn lw_tbl vX2_isRest := wIn.cons (List.mem_of_getElem? (i := 1158) (by decide +kernel)) (wIn.app (wIn.r _ [213, 1159, 1161, 37, 109, 1163, 1165, 38] (by decide +kernel)) (wIn.app iT_6 (wIn.app mT_X2_firstHas mT_X2_secondHas)))
set_option maxRecDepth 20000 in
theorem mT_X2_compare : wIn lw_tbl vX2_compare := wIn.cons (List.mem_of_getElem? (i := 1152) (by decide +kernel)) (wIn.app (wIn.r _ [213, 477, 1153, 849, 850, 103, 1154, 815, 117, 473, 475, 1155, 1157, 36, 109] (by decide +kernel)) (wIn.app iT_6 (wIn.app iT_2 (wIn.app mT_X10_daysOfOneTime (wIn.app mT_J6_bitCount_0f7a4 mT_X2_isRest)))))
set_option maxRecDepth 20000 in
theorem mT_X11_rests : wIn lw_tbl vX11_rests := wIn.cons (List.mem_of_getElem? (i := 1148) (by decide +kernel)) (wIn.app (wIn.r _ [810, 812, 17, 98, 498, 486, 491, 1149, 1150, 1151, 109, 474] (by decide +kernel)) (wIn.app iT_11 (wIn.app iT_2 (wIn.app mT_X11_isTold mT_X2_compare))))
theorem gL_X11_rests : GoodIn lw_tbl (wsV RL 211 RX11 yX11_rests vX11_rests) := goodIn_app (goodIn_r _ [1145, 1146, 1147, 98] (by decide +kernel) (by decide +kernel)) (fun w h => ⟨mT_X11_rests w h, gs_X11_rests w h⟩)
set_option maxRecDepth 20000 in
theorem mT_X12_hasFirst : wIn lw_tbl vX12_hasFirst := wIn.cons (List.mem_of_getElem? (i := 1850) (by decide +kernel)) (wIn.app (wIn.r _ [1619, 1621, 70, 110, 1600, 1601, 1505, 1507, 57] (by decide +kernel)) (wIn.app mT_X12_meetOf (wIn.app mT_X12_bits mT_X12_sunOf)))
set_option maxRecDepth 20000 in
theorem mT_X12_hasSecond : wIn lw_tbl vX12_hasSecond := wIn.cons (List.mem_of_getElem? (i := 1854) (by decide +kernel)) (wIn.app (wIn.r _ [1278, 1619, 1621, 70, 110, 1600, 1601, 1505, 1507, 57] (by decide +kernel)) (wIn.app iT_12 (wIn.app mT_X12_meetOf (wIn.app mT_X12_bits mT_X12_sunOf))))
set_option maxRecDepth 20000 in
theorem mT_X12_isRest : wIn lw_tbl vX12_isRest := wIn.cons (List.mem_of_getElem? (i := 1846) (by decide +kernel)) (wIn.app (wIn.r _ [1262, 1847, 1849, 93, 110, 1851, 1853, 94] (by decide +kernel)) (wIn.app iT_12 (wIn.app mT_X12_hasFirst mT_X12_hasSecond)))
set_option maxRecDepth 20000 in
theorem mT_X12_layRests : wIn lw_tbl vX12_layRests := wIn.cons (List.mem_of_getElem? (i := 1842) (by decide +kernel)) (wIn.app (wIn.r _ [1540, 1542, 61, 110, 1295, 1262, 1843, 1845, 92] (by decide +kernel)) (wIn.app iT_12 (wIn.app mT_X12_layAll mT_X12_isRest)))
set_option maxRecDepth 20000 in
theorem mT_X12_rests : wIn lw_tbl vX12_rests := wIn.cons (List.mem_of_getElem? (i := 1838) (by decide +kernel)) (wIn.app (wIn.r _ [1596, 1598, 68, 110, 1839, 1841, 91] (by decide +kernel)) (wIn.app mT_X12_isStreet mT_X12_layRests))
theorem gL_X12_rests : GoodIn lw_tbl (wsV RL 214 RX12 yX12_rests vX12_rests) := goodIn_app (goodIn_r _ [1835, 1836, 1837, 110] (by decide +kernel) (by decide +kernel)) (fun w h => ⟨mT_X12_rests w h, gs_X12_rests w h⟩)
set_option maxHeartbeats 8000000 in
set_option maxRecDepth 100000 in
theorem law_c48 {p : Program} {e : Env} {s : State} {m : MethodId} {below : List Frame} {meth : Method} {c : Code} (l : Launch) {b L : Nat} {xs : Nat → Int32} {D : va_G} {cs : Nat → ClassId} {ad : Nat → Nat} {kS : kSt} {K : sK} {g : Nat → va_E} {H : Heap} {locs : List Loc} (hL : L ≤ 3072) (C0 : lw_At p s m meth c b L xs) (X : CxL p s m b meth c D cs) (Z : SX ad kS s s.heap) (hj : wJ ad 218) (hA : ∀ i, i < 218 → AL s (ad i)) (hKO : KO K) (hR : KR K) (hW : WF (shp ad K) ad cs g) (hP : va_P D vwCl (wL ad g 218) H) (hS : va_S (AL s) s.heap H locs) (ls : Array Slot) (ii : Int32) (hi0 : 0 ≤ ii.toInt) (hi1 : ii.toInt + 6 ≤ L) (hl : lv_has ls 4 [(3, .int ii), (2, .ref (ad 197)), (1, .ref (ad 0)), (0, .ref b)]) (kk : ∀ (K : sK) (g : Nat → va_E) (H : Heap) (locs : List Loc) (ls : Array Slot), KO K → KR K → WF (shp ad K) ad cs g → va_P D vwCl (wL ad g 218) H → va_S (AL s) s.heap H locs → lv_has ls 4 [(3, .int ii), (2, .ref (ad 197)), (1, .ref (ad 0)), (0, .ref b)] → W p l e room_1 s m #[Value.ref b] below meth c H locs 218 6259 (lw_Z below #[Value.ref b] s) (F0 m 2069 ls [])) : W p l e room_1 s m #[Value.ref b] below meth c H locs 218 6259 (lw_Z below #[Value.ref b] s) (F0 m 1594 ls []) := by
  have hx := X.1
  have hb : c.code = cL_law := X.2.1
  obtain ⟨-, -, -, -, -, -, hX, hbl, -, -⟩ := id C0
  have hbA : ¬ AL s b := Nat.not_le.mpr hbl
  refine lv_aload_n hx hb dL_law_1594 rfl (lv_at hl 2 rfl) ?_
  obtain ⟨fso_1, hgo_1, -⟩ := hW.obj (i := 0) (by decide) (sh_0 ad _)
  refine s_calli (q := (RX11, TX11, 14)) (As := []) (rest := []) X Z (s_X11_rests l D cs ad kS K hKO hj g hW ) (cwV 0 X.2.2.2.2.1 gL_X11_rests rfl rfl rfl (by decide +kernel) ⟨Nat.le_of_ble_eq_true rfl, Nat.le_of_ble_eq_true rfl⟩) (by decide) hgo_1 rfl hP hA (fun a h _ => hS.2.1 a h (Nat.not_le.mpr h)) hS rfl hl.1 rfl (Nat.le_of_ble_eq_true rfl) dL_law_1595 ⟨Nat.le_of_ble_eq_true rfl, Nat.le_of_ble_eq_true rfl⟩ (fun r_3 g_2 H locs hw_4 hP hS => ?_)
  obtain ⟨hw_4W, hw_4f⟩ := hw_4
  refine lv_pop hx hb dL_law_1598 rfl ?_
  refine lv_aload_n hx hb dL_law_1599 rfl (lv_at hl 1 rfl) ?_
  obtain ⟨fso_5, hgo_5, -⟩ := hw_4W.obj (i := 197) (by decide) (sh_197 ad _)
  refine s_calli (q := (RX12, TX12, 40)) (As := []) (rest := []) X Z (s_X12_rests l D cs ad kS K hKO hj g_2 hw_4W ) (cwV 0 X.2.2.2.2.1 gL_X12_rests rfl rfl rfl (by decide +kernel) ⟨Nat.le_of_ble_eq_true rfl, Nat.le_of_ble_eq_true rfl⟩) (by decide) hgo_5 rfl hP hA (fun a h _ => hS.2.1 a h (Nat.not_le.mpr h)) hS rfl hl.1 rfl (Nat.le_of_ble_eq_true rfl) dL_law_1600 ⟨Nat.le_of_ble_eq_true rfl, Nat.le_of_ble_eq_true rfl⟩ (fun r_7 g_6 H locs hw_8 hP hS => ?_)
  obtain ⟨hw_8W, hw_8f⟩ := hw_8
  refine lv_pop hx hb dL_law_1603 rfl ?_
  refine lv_goto (tgt := 2069) hx hb dL_law_1604 (by decide) ?_
  exact kk K g_6 _ _ ls hKO hR hw_8W hP hS hl

theorem dL_law_1607 : decode cL_law 1607 = .ok (.aload_n 1, 1) := by decide +kernel
theorem dL_law_1608 : decode cL_law 1608 = .ok (.invokevirtual 215, 3) := by decide +kernel
theorem dL_law_1611 : decode cL_law 1611 = .ok (.pop, 1) := by decide +kernel
theorem dL_law_1612 : decode cL_law 1612 = .ok (.aload_n 2, 1) := by decide +kernel
theorem dL_law_1613 : decode cL_law 1613 = .ok (.invokevirtual 218, 3) := by decide +kernel
theorem dL_law_1616 : decode cL_law 1616 = .ok (.pop, 1) := by decide +kernel
theorem dL_law_1617 : decode cL_law 1617 = .ok (.goto 452, 3) := by decide +kernel
set_option maxRecDepth 20000 in
theorem mT_X11_rest : wIn lw_tbl vX11_rest := wIn.cons (List.mem_of_getElem? (i := 1170) (by decide +kernel)) (wIn.app (wIn.r _ [810, 812, 17, 98, 498, 486, 491, 1149, 1150, 1151, 109, 476] (by decide +kernel)) (wIn.app iT_11 (wIn.app iT_2 (wIn.app mT_X11_isTold mT_X2_compare))))
theorem gL_X11_rest : GoodIn lw_tbl (wsV RL 215 RX11 yX11_rest vX11_rest) := goodIn_app (goodIn_r _ [1167, 1168, 1169, 98] (by decide +kernel) (by decide +kernel)) (fun w h => ⟨mT_X11_rest w h, gs_X11_rest w h⟩)
set_option maxRecDepth 20000 in
theorem mT_X12_rest : wIn lw_tbl vX12_rest := wIn.cons (List.mem_of_getElem? (i := 1858) (by decide +kernel)) (wIn.app (wIn.r _ [1596, 1598, 68, 110, 1839, 1841, 91, 1295] (by decide +kernel)) (wIn.app iT_12 (wIn.app mT_X12_isStreet mT_X12_layRests)))
theorem gL_X12_rest : GoodIn lw_tbl (wsV RL 218 RX12 yX12_rest vX12_rest) := goodIn_app (goodIn_r _ [1855, 1856, 1857, 110] (by decide +kernel) (by decide +kernel)) (fun w h => ⟨mT_X12_rest w h, gs_X12_rest w h⟩)
set_option maxHeartbeats 8000000 in
set_option maxRecDepth 100000 in
theorem law_c49 {p : Program} {e : Env} {s : State} {m : MethodId} {below : List Frame} {meth : Method} {c : Code} (l : Launch) {b L : Nat} {xs : Nat → Int32} {D : va_G} {cs : Nat → ClassId} {ad : Nat → Nat} {kS : kSt} {K : sK} {g : Nat → va_E} {H : Heap} {locs : List Loc} (hL : L ≤ 3072) (C0 : lw_At p s m meth c b L xs) (X : CxL p s m b meth c D cs) (Z : SX ad kS s s.heap) (hj : wJ ad 218) (hA : ∀ i, i < 218 → AL s (ad i)) (hKO : KO K) (hR : KR K) (hW : WF (shp ad K) ad cs g) (hP : va_P D vwCl (wL ad g 218) H) (hS : va_S (AL s) s.heap H locs) (ls : Array Slot) (ii : Int32) (hi0 : 0 ≤ ii.toInt) (hi1 : ii.toInt + 6 ≤ L) (hl : lv_has ls 4 [(3, .int ii), (2, .ref (ad 197)), (1, .ref (ad 0)), (0, .ref b)]) (kk : ∀ (K : sK) (g : Nat → va_E) (H : Heap) (locs : List Loc) (ls : Array Slot), KO K → KR K → WF (shp ad K) ad cs g → va_P D vwCl (wL ad g 218) H → va_S (AL s) s.heap H locs → lv_has ls 4 [(3, .int ii), (2, .ref (ad 197)), (1, .ref (ad 0)), (0, .ref b)] → W p l e room_1 s m #[Value.ref b] below meth c H locs 218 6259 (lw_Z below #[Value.ref b] s) (F0 m 2069 ls [])) : W p l e room_1 s m #[Value.ref b] below meth c H locs 218 6259 (lw_Z below #[Value.ref b] s) (F0 m 1607 ls []) := by
  have hx := X.1
  have hb : c.code = cL_law := X.2.1
  obtain ⟨-, -, -, -, -, -, hX, hbl, -, -⟩ := id C0
  have hbA : ¬ AL s b := Nat.not_le.mpr hbl
  refine lv_aload_n hx hb dL_law_1607 rfl (lv_at hl 2 rfl) ?_
  obtain ⟨fso_1, hgo_1, -⟩ := hW.obj (i := 0) (by decide) (sh_0 ad _)
  refine s_calli (q := (RX11, TX11, 14)) (As := []) (rest := []) X Z (s_X11_rest l D cs ad kS K hKO hj g hW ) (cwV 0 X.2.2.2.2.1 gL_X11_rest rfl rfl rfl (by decide +kernel) ⟨Nat.le_of_ble_eq_true rfl, Nat.le_of_ble_eq_true rfl⟩) (by decide) hgo_1 rfl hP hA (fun a h _ => hS.2.1 a h (Nat.not_le.mpr h)) hS rfl hl.1 rfl (Nat.le_of_ble_eq_true rfl) dL_law_1608 ⟨Nat.le_of_ble_eq_true rfl, Nat.le_of_ble_eq_true rfl⟩ (fun r_3 g_2 H locs hw_4 hP hS => ?_)
  obtain ⟨hw_4W, hw_4f⟩ := hw_4
  refine lv_pop hx hb dL_law_1611 rfl ?_
  refine lv_aload_n hx hb dL_law_1612 rfl (lv_at hl 1 rfl) ?_
  obtain ⟨fso_5, hgo_5, -⟩ := hw_4W.obj (i := 197) (by decide) (sh_197 ad _)
  refine s_calli (q := (RX12, TX12, 40)) (As := []) (rest := []) X Z (s_X12_rest l D cs ad kS K hKO hj g_2 hw_4W ) (cwV 0 X.2.2.2.2.1 gL_X12_rest rfl rfl rfl (by decide +kernel) ⟨Nat.le_of_ble_eq_true rfl, Nat.le_of_ble_eq_true rfl⟩) (by decide) hgo_5 rfl hP hA (fun a h _ => hS.2.1 a h (Nat.not_le.mpr h)) hS rfl hl.1 rfl (Nat.le_of_ble_eq_true rfl) dL_law_1613 ⟨Nat.le_of_ble_eq_true rfl, Nat.le_of_ble_eq_true rfl⟩ (fun r_7 g_6 H locs hw_8 hP hS => ?_)
  obtain ⟨hw_8W, hw_8f⟩ := hw_8
  refine lv_pop hx hb dL_law_1616 rfl ?_
  refine lv_goto (tgt := 2069) hx hb dL_law_1617 (by decide) ?_
  exact kk K g_6 _ _ ls hKO hR hw_8W hP hS hl

theorem dL_law_1620 : decode cL_law 1620 = .ok (.aload_n 1, 1) := by decide +kernel
theorem dL_law_1621 : decode cL_law 1621 = .ok (.aload_n 0, 1) := by decide +kernel
theorem dL_law_1622 : decode cL_law 1622 = .ok (.iload_n 3, 1) := by decide +kernel
theorem dL_law_1623 : decode cL_law 1623 = .ok (.iconst 1, 1) := by decide +kernel
theorem dL_law_1624 : decode cL_law 1624 = .ok (.iadd, 1) := by decide +kernel
theorem dL_law_1625 : decode cL_law 1625 = .ok (.iaload, 1) := by decide +kernel
theorem dL_law_1626 : decode cL_law 1626 = .ok (.aload_n 0, 1) := by decide +kernel
theorem dL_law_1627 : decode cL_law 1627 = .ok (.iload_n 3, 1) := by decide +kernel
theorem dL_law_1628 : decode cL_law 1628 = .ok (.iconst 2, 1) := by decide +kernel
theorem dL_law_1629 : decode cL_law 1629 = .ok (.iadd, 1) := by decide +kernel
theorem dL_law_1630 : decode cL_law 1630 = .ok (.iaload, 1) := by decide +kernel
theorem dL_law_1631 : decode cL_law 1631 = .ok (.invokevirtual 219, 3) := by decide +kernel
theorem dL_law_1634 : decode cL_law 1634 = .ok (.pop, 1) := by decide +kernel
theorem dL_law_1635 : decode cL_law 1635 = .ok (.aload_n 2, 1) := by decide +kernel
theorem dL_law_1636 : decode cL_law 1636 = .ok (.aload_n 0, 1) := by decide +kernel
theorem dL_law_1637 : decode cL_law 1637 = .ok (.iload_n 3, 1) := by decide +kernel
theorem dL_law_1638 : decode cL_law 1638 = .ok (.iconst 1, 1) := by decide +kernel
theorem dL_law_1639 : decode cL_law 1639 = .ok (.iadd, 1) := by decide +kernel
theorem dL_law_1640 : decode cL_law 1640 = .ok (.iaload, 1) := by decide +kernel
theorem dL_law_1641 : decode cL_law 1641 = .ok (.aload_n 0, 1) := by decide +kernel
theorem dL_law_1642 : decode cL_law 1642 = .ok (.iload_n 3, 1) := by decide +kernel
theorem dL_law_1643 : decode cL_law 1643 = .ok (.iconst 2, 1) := by decide +kernel
theorem dL_law_1644 : decode cL_law 1644 = .ok (.iadd, 1) := by decide +kernel
theorem dL_law_1645 : decode cL_law 1645 = .ok (.iaload, 1) := by decide +kernel
theorem dL_law_1646 : decode cL_law 1646 = .ok (.invokevirtual 222, 3) := by decide +kernel
theorem dL_law_1649 : decode cL_law 1649 = .ok (.pop, 1) := by decide +kernel
theorem dL_law_1650 : decode cL_law 1650 = .ok (.goto 419, 3) := by decide +kernel
set_option maxRecDepth 20000 in
theorem mT_X11_door : wIn lw_tbl vX11_door := wIn.cons (List.mem_of_getElem? (i := 1174) (by decide +kernel)) (wIn.app (wIn.r _ [733, 735, 14, 98, 725, 727, 13, 486, 272, 1175, 694, 695, 101, 491, 697, 698, 699, 103, 824, 825, 826] (by decide +kernel)) (wIn.app iT_11 (wIn.app iT_6 (wIn.app mT_X11_isEave (wIn.app mT_X11_isDay (wIn.app mT_X0_add (wIn.app mT_X10_passOver mT_X10_fallsUnder)))))))
theorem gL_X11_door : GoodIn lw_tbl (wsV RL 219 RX11 yX11_door vX11_door) := goodIn_app (goodIn_r _ [1171, 1172, 1173, 98] (by decide +kernel) (by decide +kernel)) (fun w h => ⟨mT_X11_door w h, gs_X11_door w h⟩)
set_option maxRecDepth 20000 in
theorem mT_X12_keepAct : wIn lw_tbl vX12_keepAct := wIn.cons (List.mem_of_getElem? (i := 1866) (by decide +kernel)) (wIn.app (wIn.r _ [1262, 1540, 1542, 61, 110] (by decide +kernel)) (wIn.app iT_12 mT_X12_layAll))
set_option maxRecDepth 20000 in
theorem mT_X12_door : wIn lw_tbl vX12_door := wIn.cons (List.mem_of_getElem? (i := 1862) (by decide +kernel)) (wIn.app (wIn.r _ [1501, 1503, 56, 110, 1489, 1491, 54, 1863, 1865, 95, 1694, 1696, 75] (by decide +kernel)) (wIn.app mT_X12_isEave (wIn.app mT_X12_isDay (wIn.app mT_X12_keepAct mT_X12_dropsAt))))
theorem gL_X12_door : GoodIn lw_tbl (wsV RL 222 RX12 yX12_door vX12_door) := goodIn_app (goodIn_r _ [1859, 1860, 1861, 110] (by decide +kernel) (by decide +kernel)) (fun w h => ⟨mT_X12_door w h, gs_X12_door w h⟩)
set_option maxHeartbeats 8000000 in
set_option maxRecDepth 100000 in
theorem law_c50 {p : Program} {e : Env} {s : State} {m : MethodId} {below : List Frame} {meth : Method} {c : Code} (l : Launch) {b L : Nat} {xs : Nat → Int32} {D : va_G} {cs : Nat → ClassId} {ad : Nat → Nat} {kS : kSt} {K : sK} {g : Nat → va_E} {H : Heap} {locs : List Loc} (hL : L ≤ 3072) (C0 : lw_At p s m meth c b L xs) (X : CxL p s m b meth c D cs) (Z : SX ad kS s s.heap) (hj : wJ ad 218) (hA : ∀ i, i < 218 → AL s (ad i)) (hKO : KO K) (hR : KR K) (hW : WF (shp ad K) ad cs g) (hP : va_P D vwCl (wL ad g 218) H) (hS : va_S (AL s) s.heap H locs) (ls : Array Slot) (ii : Int32) (hi0 : 0 ≤ ii.toInt) (hi1 : ii.toInt + 6 ≤ L) (hl : lv_has ls 4 [(3, .int ii), (2, .ref (ad 197)), (1, .ref (ad 0)), (0, .ref b)]) (kk : ∀ (K : sK) (g : Nat → va_E) (H : Heap) (locs : List Loc) (ls : Array Slot), KO K → KR K → WF (shp ad K) ad cs g → va_P D vwCl (wL ad g 218) H → va_S (AL s) s.heap H locs → lv_has ls 4 [(3, .int ii), (2, .ref (ad 197)), (1, .ref (ad 0)), (0, .ref b)] → W p l e room_1 s m #[Value.ref b] below meth c H locs 218 6259 (lw_Z below #[Value.ref b] s) (F0 m 2069 ls [])) : W p l e room_1 s m #[Value.ref b] below meth c H locs 218 6259 (lw_Z below #[Value.ref b] s) (F0 m 1620 ls []) := by
  have hx := X.1
  have hb : c.code = cL_law := X.2.1
  obtain ⟨-, -, -, -, -, -, hX, hbl, -, -⟩ := id C0
  have hbA : ¬ AL s b := Nat.not_le.mpr hbl
  refine lv_aload_n hx hb dL_law_1620 rfl (lv_at hl 2 rfl) ?_
  refine lv_aload_n hx hb dL_law_1621 rfl (lv_at hl 3 rfl) ?_
  refine lv_iload_n hx hb dL_law_1622 rfl (lv_at hl 0 rfl) ?_
  refine lv_iconst (v := 1) hx hb dL_law_1623 (by decide) ?_
  refine lv_iadd hx hb dL_law_1624 ?_
  refine lv_topi (fun z_1 ez_1 => ?_)
  have hz_1 : z_1.toInt = ii.toInt + 1 := n_add rfl (by decide : (1 : Int32).toInt = 1) ez_1 (by omega) (by omega)
  refine va_sld hx hb hX hbl hbA hS (i := z_1) (n_in (rfl : z_1.toInt = z_1.toInt) (by omega) (by omega)) dL_law_1625 ?_
  refine lv_topi (fun x_2 ex_2 => ?_)
  refine lv_aload_n hx hb dL_law_1626 rfl (lv_at hl 3 rfl) ?_
  refine lv_iload_n hx hb dL_law_1627 rfl (lv_at hl 0 rfl) ?_
  refine lv_iconst (v := 2) hx hb dL_law_1628 (by decide) ?_
  refine lv_iadd hx hb dL_law_1629 ?_
  refine lv_topi (fun z_3 ez_3 => ?_)
  have hz_3 : z_3.toInt = ii.toInt + 2 := n_add rfl (by decide : (2 : Int32).toInt = 2) ez_3 (by omega) (by omega)
  refine va_sld hx hb hX hbl hbA hS (i := z_3) (n_in (rfl : z_3.toInt = z_3.toInt) (by omega) (by omega)) dL_law_1630 ?_
  refine lv_topi (fun x_4 ex_4 => ?_)
  obtain ⟨fso_5, hgo_5, -⟩ := hW.obj (i := 0) (by decide) (sh_0 ad _)
  refine s_calli (q := (RX11, TX11, 14)) (As := [.int x_2, .int x_4]) (rest := []) X Z (s_X11_door l D cs ad kS K hKO hj g hW x_2 x_4) (cwV 2 X.2.2.2.2.1 gL_X11_door rfl rfl rfl (by decide +kernel) ⟨Nat.le_of_ble_eq_true rfl, Nat.le_of_ble_eq_true rfl⟩) (by decide) hgo_5 rfl hP hA (fun a h _ => hS.2.1 a h (Nat.not_le.mpr h)) hS rfl hl.1 rfl (Nat.le_of_ble_eq_true rfl) dL_law_1631 ⟨Nat.le_of_ble_eq_true rfl, Nat.le_of_ble_eq_true rfl⟩ (fun r_7 g_6 H locs hw_8 hP hS => ?_)
  obtain ⟨hw_8W, hw_8f⟩ := hw_8
  refine lv_pop hx hb dL_law_1634 rfl ?_
  refine lv_aload_n hx hb dL_law_1635 rfl (lv_at hl 1 rfl) ?_
  refine lv_aload_n hx hb dL_law_1636 rfl (lv_at hl 3 rfl) ?_
  refine lv_iload_n hx hb dL_law_1637 rfl (lv_at hl 0 rfl) ?_
  refine lv_iconst (v := 1) hx hb dL_law_1638 (by decide) ?_
  refine lv_iadd hx hb dL_law_1639 ?_
  refine lv_topi (fun z_9 ez_9 => ?_)
  have hz_9 : z_9.toInt = ii.toInt + 1 := n_add rfl (by decide : (1 : Int32).toInt = 1) ez_9 (by omega) (by omega)
  refine va_sld hx hb hX hbl hbA hS (i := z_9) (n_in (rfl : z_9.toInt = z_9.toInt) (by omega) (by omega)) dL_law_1640 ?_
  refine lv_topi (fun x_10 ex_10 => ?_)
  obtain rfl : x_2 = x_10 := by rw [ex_2, ex_10, ez_1, ez_9]
  refine lv_aload_n hx hb dL_law_1641 rfl (lv_at hl 3 rfl) ?_
  refine lv_iload_n hx hb dL_law_1642 rfl (lv_at hl 0 rfl) ?_
  refine lv_iconst (v := 2) hx hb dL_law_1643 (by decide) ?_
  refine lv_iadd hx hb dL_law_1644 ?_
  refine lv_topi (fun z_11 ez_11 => ?_)
  have hz_11 : z_11.toInt = ii.toInt + 2 := n_add rfl (by decide : (2 : Int32).toInt = 2) ez_11 (by omega) (by omega)
  refine va_sld hx hb hX hbl hbA hS (i := z_11) (n_in (rfl : z_11.toInt = z_11.toInt) (by omega) (by omega)) dL_law_1645 ?_
  refine lv_topi (fun x_12 ex_12 => ?_)
  obtain rfl : x_4 = x_12 := by rw [ex_4, ex_12, ez_3, ez_11]
  obtain ⟨fso_13, hgo_13, -⟩ := hw_8W.obj (i := 197) (by decide) (sh_197 ad _)
  refine s_calli (q := (RX12, TX12, 40)) (As := [.int x_2, .int x_4]) (rest := []) X Z (s_X12_door l D cs ad kS K hKO hj g_6 hw_8W x_2 x_4) (cwV 2 X.2.2.2.2.1 gL_X12_door rfl rfl rfl (by decide +kernel) ⟨Nat.le_of_ble_eq_true rfl, Nat.le_of_ble_eq_true rfl⟩) (by decide) hgo_13 rfl hP hA (fun a h _ => hS.2.1 a h (Nat.not_le.mpr h)) hS rfl hl.1 rfl (Nat.le_of_ble_eq_true rfl) dL_law_1646 ⟨Nat.le_of_ble_eq_true rfl, Nat.le_of_ble_eq_true rfl⟩ (fun r_15 g_14 H locs hw_16 hP hS => ?_)
  obtain ⟨hw_16W, hw_16f⟩ := hw_16
  refine lv_pop hx hb dL_law_1649 rfl ?_
  refine lv_goto (tgt := 2069) hx hb dL_law_1650 (by decide) ?_
  exact kk K g_14 _ _ ls hKO hR hw_16W hP hS hl

theorem dL_law_1653 : decode cL_law 1653 = .ok (.aload_n 1, 1) := by decide +kernel
theorem dL_law_1654 : decode cL_law 1654 = .ok (.aload_n 0, 1) := by decide +kernel
theorem dL_law_1655 : decode cL_law 1655 = .ok (.iload_n 3, 1) := by decide +kernel
theorem dL_law_1656 : decode cL_law 1656 = .ok (.iconst 1, 1) := by decide +kernel
theorem dL_law_1657 : decode cL_law 1657 = .ok (.iadd, 1) := by decide +kernel
theorem dL_law_1658 : decode cL_law 1658 = .ok (.iaload, 1) := by decide +kernel
theorem dL_law_1659 : decode cL_law 1659 = .ok (.invokevirtual 223, 3) := by decide +kernel
theorem dL_law_1662 : decode cL_law 1662 = .ok (.pop, 1) := by decide +kernel
theorem dL_law_1663 : decode cL_law 1663 = .ok (.aload_n 2, 1) := by decide +kernel
theorem dL_law_1664 : decode cL_law 1664 = .ok (.aload_n 0, 1) := by decide +kernel
theorem dL_law_1665 : decode cL_law 1665 = .ok (.iload_n 3, 1) := by decide +kernel
theorem dL_law_1666 : decode cL_law 1666 = .ok (.iconst 1, 1) := by decide +kernel
theorem dL_law_1667 : decode cL_law 1667 = .ok (.iadd, 1) := by decide +kernel
theorem dL_law_1668 : decode cL_law 1668 = .ok (.iaload, 1) := by decide +kernel
theorem dL_law_1669 : decode cL_law 1669 = .ok (.invokevirtual 226, 3) := by decide +kernel
theorem dL_law_1672 : decode cL_law 1672 = .ok (.pop, 1) := by decide +kernel
theorem dL_law_1673 : decode cL_law 1673 = .ok (.goto 396, 3) := by decide +kernel
set_option maxRecDepth 20000 in
theorem mT_X11_ring : wIn lw_tbl vX11_ring := wIn.cons (List.mem_of_getElem? (i := 1179) (by decide +kernel)) (wIn.app (wIn.r _ [725, 727, 13, 98, 486, 272, 1175, 694, 695, 101, 491, 697, 698, 699, 103, 789, 790, 791, 814, 815, 117] (by decide +kernel)) (wIn.app iT_11 (wIn.app iT_6 (wIn.app mT_X11_isDay (wIn.app mT_X0_add (wIn.app mT_X10_passOver (wIn.app mT_X10_fallenOn mT_J6_bitCount_0f7a4)))))))
theorem gL_X11_ring : GoodIn lw_tbl (wsV RL 223 RX11 yX11_ring vX11_ring) := goodIn_app (goodIn_r _ [1176, 1177, 1178, 98] (by decide +kernel) (by decide +kernel)) (fun w h => ⟨mT_X11_ring w h, gs_X11_ring w h⟩)
set_option maxRecDepth 20000 in
theorem mT_X12_ring : wIn lw_tbl vX12_ring := wIn.cons (List.mem_of_getElem? (i := 1870) (by decide +kernel)) (wIn.app (wIn.r _ [1489, 1491, 54, 110, 1863, 1865, 95, 1576, 1578, 66, 1600, 1601] (by decide +kernel)) (wIn.app mT_X12_isDay (wIn.app mT_X12_keepAct (wIn.app mT_X12_dropsOn mT_X12_bits))))
theorem gL_X12_ring : GoodIn lw_tbl (wsV RL 226 RX12 yX12_ring vX12_ring) := goodIn_app (goodIn_r _ [1867, 1868, 1869, 110] (by decide +kernel) (by decide +kernel)) (fun w h => ⟨mT_X12_ring w h, gs_X12_ring w h⟩)
set_option maxHeartbeats 8000000 in
set_option maxRecDepth 100000 in
theorem law_c51 {p : Program} {e : Env} {s : State} {m : MethodId} {below : List Frame} {meth : Method} {c : Code} (l : Launch) {b L : Nat} {xs : Nat → Int32} {D : va_G} {cs : Nat → ClassId} {ad : Nat → Nat} {kS : kSt} {K : sK} {g : Nat → va_E} {H : Heap} {locs : List Loc} (hL : L ≤ 3072) (C0 : lw_At p s m meth c b L xs) (X : CxL p s m b meth c D cs) (Z : SX ad kS s s.heap) (hj : wJ ad 218) (hA : ∀ i, i < 218 → AL s (ad i)) (hKO : KO K) (hR : KR K) (hW : WF (shp ad K) ad cs g) (hP : va_P D vwCl (wL ad g 218) H) (hS : va_S (AL s) s.heap H locs) (ls : Array Slot) (ii : Int32) (hi0 : 0 ≤ ii.toInt) (hi1 : ii.toInt + 6 ≤ L) (hl : lv_has ls 4 [(3, .int ii), (2, .ref (ad 197)), (1, .ref (ad 0)), (0, .ref b)]) (kk : ∀ (K : sK) (g : Nat → va_E) (H : Heap) (locs : List Loc) (ls : Array Slot), KO K → KR K → WF (shp ad K) ad cs g → va_P D vwCl (wL ad g 218) H → va_S (AL s) s.heap H locs → lv_has ls 4 [(3, .int ii), (2, .ref (ad 197)), (1, .ref (ad 0)), (0, .ref b)] → W p l e room_1 s m #[Value.ref b] below meth c H locs 218 6259 (lw_Z below #[Value.ref b] s) (F0 m 2069 ls [])) : W p l e room_1 s m #[Value.ref b] below meth c H locs 218 6259 (lw_Z below #[Value.ref b] s) (F0 m 1653 ls []) := by
  have hx := X.1
  have hb : c.code = cL_law := X.2.1
  obtain ⟨-, -, -, -, -, -, hX, hbl, -, -⟩ := id C0
  have hbA : ¬ AL s b := Nat.not_le.mpr hbl
  refine lv_aload_n hx hb dL_law_1653 rfl (lv_at hl 2 rfl) ?_
  refine lv_aload_n hx hb dL_law_1654 rfl (lv_at hl 3 rfl) ?_
  refine lv_iload_n hx hb dL_law_1655 rfl (lv_at hl 0 rfl) ?_
  refine lv_iconst (v := 1) hx hb dL_law_1656 (by decide) ?_
  refine lv_iadd hx hb dL_law_1657 ?_
  refine lv_topi (fun z_1 ez_1 => ?_)
  have hz_1 : z_1.toInt = ii.toInt + 1 := n_add rfl (by decide : (1 : Int32).toInt = 1) ez_1 (by omega) (by omega)
  refine va_sld hx hb hX hbl hbA hS (i := z_1) (n_in (rfl : z_1.toInt = z_1.toInt) (by omega) (by omega)) dL_law_1658 ?_
  refine lv_topi (fun x_2 ex_2 => ?_)
  obtain ⟨fso_3, hgo_3, -⟩ := hW.obj (i := 0) (by decide) (sh_0 ad _)
  refine s_calli (q := (RX11, TX11, 14)) (As := [.int x_2]) (rest := []) X Z (s_X11_ring l D cs ad kS K hKO hj g hW x_2) (cwV 1 X.2.2.2.2.1 gL_X11_ring rfl rfl rfl (by decide +kernel) ⟨Nat.le_of_ble_eq_true rfl, Nat.le_of_ble_eq_true rfl⟩) (by decide) hgo_3 rfl hP hA (fun a h _ => hS.2.1 a h (Nat.not_le.mpr h)) hS rfl hl.1 rfl (Nat.le_of_ble_eq_true rfl) dL_law_1659 ⟨Nat.le_of_ble_eq_true rfl, Nat.le_of_ble_eq_true rfl⟩ (fun r_5 g_4 H locs hw_6 hP hS => ?_)
  obtain ⟨hw_6W, hw_6f⟩ := hw_6
  refine lv_pop hx hb dL_law_1662 rfl ?_
  refine lv_aload_n hx hb dL_law_1663 rfl (lv_at hl 1 rfl) ?_
  refine lv_aload_n hx hb dL_law_1664 rfl (lv_at hl 3 rfl) ?_
  refine lv_iload_n hx hb dL_law_1665 rfl (lv_at hl 0 rfl) ?_
  refine lv_iconst (v := 1) hx hb dL_law_1666 (by decide) ?_
  refine lv_iadd hx hb dL_law_1667 ?_
  refine lv_topi (fun z_7 ez_7 => ?_)
  have hz_7 : z_7.toInt = ii.toInt + 1 := n_add rfl (by decide : (1 : Int32).toInt = 1) ez_7 (by omega) (by omega)
  refine va_sld hx hb hX hbl hbA hS (i := z_7) (n_in (rfl : z_7.toInt = z_7.toInt) (by omega) (by omega)) dL_law_1668 ?_
  refine lv_topi (fun x_8 ex_8 => ?_)
  obtain rfl : x_2 = x_8 := by rw [ex_2, ex_8, ez_1, ez_7]
  obtain ⟨fso_9, hgo_9, -⟩ := hw_6W.obj (i := 197) (by decide) (sh_197 ad _)
  refine s_calli (q := (RX12, TX12, 40)) (As := [.int x_2]) (rest := []) X Z (s_X12_ring l D cs ad kS K hKO hj g_4 hw_6W x_2) (cwV 1 X.2.2.2.2.1 gL_X12_ring rfl rfl rfl (by decide +kernel) ⟨Nat.le_of_ble_eq_true rfl, Nat.le_of_ble_eq_true rfl⟩) (by decide) hgo_9 rfl hP hA (fun a h _ => hS.2.1 a h (Nat.not_le.mpr h)) hS rfl hl.1 rfl (Nat.le_of_ble_eq_true rfl) dL_law_1669 ⟨Nat.le_of_ble_eq_true rfl, Nat.le_of_ble_eq_true rfl⟩ (fun r_11 g_10 H locs hw_12 hP hS => ?_)
  obtain ⟨hw_12W, hw_12f⟩ := hw_12
  refine lv_pop hx hb dL_law_1672 rfl ?_
  refine lv_goto (tgt := 2069) hx hb dL_law_1673 (by decide) ?_
  exact kk K g_10 _ _ ls hKO hR hw_12W hP hS hl

theorem dL_law_1676 : decode cL_law 1676 = .ok (.aload_n 1, 1) := by decide +kernel
theorem dL_law_1677 : decode cL_law 1677 = .ok (.invokevirtual 227, 3) := by decide +kernel
theorem dL_law_1680 : decode cL_law 1680 = .ok (.pop, 1) := by decide +kernel
theorem dL_law_1681 : decode cL_law 1681 = .ok (.aload_n 2, 1) := by decide +kernel
theorem dL_law_1682 : decode cL_law 1682 = .ok (.invokevirtual 230, 3) := by decide +kernel
theorem dL_law_1685 : decode cL_law 1685 = .ok (.pop, 1) := by decide +kernel
theorem dL_law_1686 : decode cL_law 1686 = .ok (.goto 383, 3) := by decide +kernel
set_option maxRecDepth 20000 in
theorem mT_X11_undo : wIn lw_tbl vX11_undo := wIn.cons (List.mem_of_getElem? (i := 1183) (by decide +kernel)) (wIn.app (wIn.r _ [810, 812, 17, 98, 486, 272, 1184, 557, 558, 101, 491, 697, 698, 699, 103, 174] (by decide +kernel)) (wIn.app iT_11 (wIn.app iT_6 (wIn.app iT_0 (wIn.app mT_X11_isTold (wIn.app mT_X0_takeBack mT_X10_passOver))))))
theorem gL_X11_undo : GoodIn lw_tbl (wsV RL 227 RX11 yX11_undo vX11_undo) := goodIn_app (goodIn_r _ [1180, 1181, 1182, 98] (by decide +kernel) (by decide +kernel)) (fun w h => ⟨mT_X11_undo w h, gs_X11_undo w h⟩)
set_option maxRecDepth 20000 in
theorem mT_X12_undo : wIn lw_tbl vX12_undo := wIn.cons (List.mem_of_getElem? (i := 1874) (by decide +kernel)) (wIn.app (wIn.r _ [1596, 1598, 68, 110, 1262] (by decide +kernel)) (wIn.app iT_12 mT_X12_isStreet))
theorem gL_X12_undo : GoodIn lw_tbl (wsV RL 230 RX12 yX12_undo vX12_undo) := goodIn_app (goodIn_r _ [1871, 1872, 1873, 110] (by decide +kernel) (by decide +kernel)) (fun w h => ⟨mT_X12_undo w h, gs_X12_undo w h⟩)
set_option maxHeartbeats 8000000 in
set_option maxRecDepth 100000 in
theorem law_c52 {p : Program} {e : Env} {s : State} {m : MethodId} {below : List Frame} {meth : Method} {c : Code} (l : Launch) {b L : Nat} {xs : Nat → Int32} {D : va_G} {cs : Nat → ClassId} {ad : Nat → Nat} {kS : kSt} {K : sK} {g : Nat → va_E} {H : Heap} {locs : List Loc} (hL : L ≤ 3072) (C0 : lw_At p s m meth c b L xs) (X : CxL p s m b meth c D cs) (Z : SX ad kS s s.heap) (hj : wJ ad 218) (hA : ∀ i, i < 218 → AL s (ad i)) (hKO : KO K) (hR : KR K) (hW : WF (shp ad K) ad cs g) (hP : va_P D vwCl (wL ad g 218) H) (hS : va_S (AL s) s.heap H locs) (ls : Array Slot) (ii : Int32) (hi0 : 0 ≤ ii.toInt) (hi1 : ii.toInt + 6 ≤ L) (hl : lv_has ls 4 [(3, .int ii), (2, .ref (ad 197)), (1, .ref (ad 0)), (0, .ref b)]) (kk : ∀ (K : sK) (g : Nat → va_E) (H : Heap) (locs : List Loc) (ls : Array Slot), KO K → KR K → WF (shp ad K) ad cs g → va_P D vwCl (wL ad g 218) H → va_S (AL s) s.heap H locs → lv_has ls 4 [(3, .int ii), (2, .ref (ad 197)), (1, .ref (ad 0)), (0, .ref b)] → W p l e room_1 s m #[Value.ref b] below meth c H locs 218 6259 (lw_Z below #[Value.ref b] s) (F0 m 2069 ls [])) : W p l e room_1 s m #[Value.ref b] below meth c H locs 218 6259 (lw_Z below #[Value.ref b] s) (F0 m 1676 ls []) := by
  have hx := X.1
  have hb : c.code = cL_law := X.2.1
  obtain ⟨-, -, -, -, -, -, hX, hbl, -, -⟩ := id C0
  have hbA : ¬ AL s b := Nat.not_le.mpr hbl
  refine lv_aload_n hx hb dL_law_1676 rfl (lv_at hl 2 rfl) ?_
  obtain ⟨fso_1, hgo_1, -⟩ := hW.obj (i := 0) (by decide) (sh_0 ad _)
  refine s_calli (q := (RX11, TX11, 14)) (As := []) (rest := []) X Z (s_X11_undo l D cs ad kS K hKO hj g hW ) (cwV 0 X.2.2.2.2.1 gL_X11_undo rfl rfl rfl (by decide +kernel) ⟨Nat.le_of_ble_eq_true rfl, Nat.le_of_ble_eq_true rfl⟩) (by decide) hgo_1 rfl hP hA (fun a h _ => hS.2.1 a h (Nat.not_le.mpr h)) hS rfl hl.1 rfl (Nat.le_of_ble_eq_true rfl) dL_law_1677 ⟨Nat.le_of_ble_eq_true rfl, Nat.le_of_ble_eq_true rfl⟩ (fun r_3 g_2 H locs hw_4 hP hS => ?_)
  obtain ⟨hw_4W, hw_4f⟩ := hw_4
  refine lv_pop hx hb dL_law_1680 rfl ?_
  refine lv_aload_n hx hb dL_law_1681 rfl (lv_at hl 1 rfl) ?_
  obtain ⟨fso_5, hgo_5, -⟩ := hw_4W.obj (i := 197) (by decide) (sh_197 ad _)
  refine s_calli (q := (RX12, TX12, 40)) (As := []) (rest := []) X Z (s_X12_undo l D cs ad kS K hKO hj g_2 hw_4W ) (cwV 0 X.2.2.2.2.1 gL_X12_undo rfl rfl rfl (by decide +kernel) ⟨Nat.le_of_ble_eq_true rfl, Nat.le_of_ble_eq_true rfl⟩) (by decide) hgo_5 rfl hP hA (fun a h _ => hS.2.1 a h (Nat.not_le.mpr h)) hS rfl hl.1 rfl (Nat.le_of_ble_eq_true rfl) dL_law_1682 ⟨Nat.le_of_ble_eq_true rfl, Nat.le_of_ble_eq_true rfl⟩ (fun r_7 g_6 H locs hw_8 hP hS => ?_)
  obtain ⟨hw_8W, hw_8f⟩ := hw_8
  refine lv_pop hx hb dL_law_1685 rfl ?_
  refine lv_goto (tgt := 2069) hx hb dL_law_1686 (by decide) ?_
  exact kk K g_6 _ _ ls hKO hR hw_8W hP hS hl

theorem dL_law_1689 : decode cL_law 1689 = .ok (.aload_n 1, 1) := by decide +kernel
theorem dL_law_1690 : decode cL_law 1690 = .ok (.invokevirtual 231, 3) := by decide +kernel
theorem dL_law_1693 : decode cL_law 1693 = .ok (.pop, 1) := by decide +kernel
theorem dL_law_1694 : decode cL_law 1694 = .ok (.aload_n 2, 1) := by decide +kernel
theorem dL_law_1695 : decode cL_law 1695 = .ok (.invokevirtual 234, 3) := by decide +kernel
theorem dL_law_1698 : decode cL_law 1698 = .ok (.pop, 1) := by decide +kernel
theorem dL_law_1699 : decode cL_law 1699 = .ok (.goto 370, 3) := by decide +kernel
set_option maxRecDepth 20000 in
theorem mT_X11_anew : wIn lw_tbl vX11_anew := wIn.cons (List.mem_of_getElem? (i := 1188) (by decide +kernel)) (wIn.app (wIn.r _ [810, 812, 17, 98, 486, 272, 174, 1189, 553, 554, 101, 491, 697, 698, 699, 103] (by decide +kernel)) (wIn.app iT_11 (wIn.app iT_6 (wIn.app iT_0 (wIn.app mT_X11_isTold (wIn.app mT_X0_clear mT_X10_passOver))))))
theorem gL_X11_anew : GoodIn lw_tbl (wsV RL 231 RX11 yX11_anew vX11_anew) := goodIn_app (goodIn_r _ [1185, 1186, 1187, 98] (by decide +kernel) (by decide +kernel)) (fun w h => ⟨mT_X11_anew w h, gs_X11_anew w h⟩)
set_option maxRecDepth 20000 in
theorem mT_X12_anew : wIn lw_tbl vX12_anew := wIn.cons (List.mem_of_getElem? (i := 1878) (by decide +kernel)) (wIn.app (wIn.r _ [1596, 1598, 68, 110, 1262] (by decide +kernel)) (wIn.app iT_12 mT_X12_isStreet))
theorem gL_X12_anew : GoodIn lw_tbl (wsV RL 234 RX12 yX12_anew vX12_anew) := goodIn_app (goodIn_r _ [1875, 1876, 1877, 110] (by decide +kernel) (by decide +kernel)) (fun w h => ⟨mT_X12_anew w h, gs_X12_anew w h⟩)
set_option maxHeartbeats 8000000 in
set_option maxRecDepth 100000 in
theorem law_c53 {p : Program} {e : Env} {s : State} {m : MethodId} {below : List Frame} {meth : Method} {c : Code} (l : Launch) {b L : Nat} {xs : Nat → Int32} {D : va_G} {cs : Nat → ClassId} {ad : Nat → Nat} {kS : kSt} {K : sK} {g : Nat → va_E} {H : Heap} {locs : List Loc} (hL : L ≤ 3072) (C0 : lw_At p s m meth c b L xs) (X : CxL p s m b meth c D cs) (Z : SX ad kS s s.heap) (hj : wJ ad 218) (hA : ∀ i, i < 218 → AL s (ad i)) (hKO : KO K) (hR : KR K) (hW : WF (shp ad K) ad cs g) (hP : va_P D vwCl (wL ad g 218) H) (hS : va_S (AL s) s.heap H locs) (ls : Array Slot) (ii : Int32) (hi0 : 0 ≤ ii.toInt) (hi1 : ii.toInt + 6 ≤ L) (hl : lv_has ls 4 [(3, .int ii), (2, .ref (ad 197)), (1, .ref (ad 0)), (0, .ref b)]) (kk : ∀ (K : sK) (g : Nat → va_E) (H : Heap) (locs : List Loc) (ls : Array Slot), KO K → KR K → WF (shp ad K) ad cs g → va_P D vwCl (wL ad g 218) H → va_S (AL s) s.heap H locs → lv_has ls 4 [(3, .int ii), (2, .ref (ad 197)), (1, .ref (ad 0)), (0, .ref b)] → W p l e room_1 s m #[Value.ref b] below meth c H locs 218 6259 (lw_Z below #[Value.ref b] s) (F0 m 2069 ls [])) : W p l e room_1 s m #[Value.ref b] below meth c H locs 218 6259 (lw_Z below #[Value.ref b] s) (F0 m 1689 ls []) := by
  have hx := X.1
  have hb : c.code = cL_law := X.2.1
  obtain ⟨-, -, -, -, -, -, hX, hbl, -, -⟩ := id C0
  have hbA : ¬ AL s b := Nat.not_le.mpr hbl
  refine lv_aload_n hx hb dL_law_1689 rfl (lv_at hl 2 rfl) ?_
  obtain ⟨fso_1, hgo_1, -⟩ := hW.obj (i := 0) (by decide) (sh_0 ad _)
  refine s_calli (q := (RX11, TX11, 14)) (As := []) (rest := []) X Z (s_X11_anew l D cs ad kS K hKO hj g hW ) (cwV 0 X.2.2.2.2.1 gL_X11_anew rfl rfl rfl (by decide +kernel) ⟨Nat.le_of_ble_eq_true rfl, Nat.le_of_ble_eq_true rfl⟩) (by decide) hgo_1 rfl hP hA (fun a h _ => hS.2.1 a h (Nat.not_le.mpr h)) hS rfl hl.1 rfl (Nat.le_of_ble_eq_true rfl) dL_law_1690 ⟨Nat.le_of_ble_eq_true rfl, Nat.le_of_ble_eq_true rfl⟩ (fun r_3 g_2 H locs hw_4 hP hS => ?_)
  obtain ⟨hw_4W, hw_4f⟩ := hw_4
  refine lv_pop hx hb dL_law_1693 rfl ?_
  refine lv_aload_n hx hb dL_law_1694 rfl (lv_at hl 1 rfl) ?_
  obtain ⟨fso_5, hgo_5, -⟩ := hw_4W.obj (i := 197) (by decide) (sh_197 ad _)
  refine s_calli (q := (RX12, TX12, 40)) (As := []) (rest := []) X Z (s_X12_anew l D cs ad kS K hKO hj g_2 hw_4W ) (cwV 0 X.2.2.2.2.1 gL_X12_anew rfl rfl rfl (by decide +kernel) ⟨Nat.le_of_ble_eq_true rfl, Nat.le_of_ble_eq_true rfl⟩) (by decide) hgo_5 rfl hP hA (fun a h _ => hS.2.1 a h (Nat.not_le.mpr h)) hS rfl hl.1 rfl (Nat.le_of_ble_eq_true rfl) dL_law_1695 ⟨Nat.le_of_ble_eq_true rfl, Nat.le_of_ble_eq_true rfl⟩ (fun r_7 g_6 H locs hw_8 hP hS => ?_)
  obtain ⟨hw_8W, hw_8f⟩ := hw_8
  refine lv_pop hx hb dL_law_1698 rfl ?_
  refine lv_goto (tgt := 2069) hx hb dL_law_1699 (by decide) ?_
  exact kk K g_6 _ _ ls hKO hR hw_8W hP hS hl

theorem dL_law_1702 : decode cL_law 1702 = .ok (.aload_n 1, 1) := by decide +kernel
theorem dL_law_1703 : decode cL_law 1703 = .ok (.aload_n 0, 1) := by decide +kernel
theorem dL_law_1704 : decode cL_law 1704 = .ok (.iload_n 3, 1) := by decide +kernel
theorem dL_law_1705 : decode cL_law 1705 = .ok (.iconst 1, 1) := by decide +kernel
theorem dL_law_1706 : decode cL_law 1706 = .ok (.iadd, 1) := by decide +kernel
theorem dL_law_1707 : decode cL_law 1707 = .ok (.iaload, 1) := by decide +kernel
theorem dL_law_1708 : decode cL_law 1708 = .ok (.aload_n 0, 1) := by decide +kernel
theorem dL_law_1709 : decode cL_law 1709 = .ok (.iload_n 3, 1) := by decide +kernel
theorem dL_law_1710 : decode cL_law 1710 = .ok (.iconst 2, 1) := by decide +kernel
theorem dL_law_1711 : decode cL_law 1711 = .ok (.iadd, 1) := by decide +kernel
theorem dL_law_1712 : decode cL_law 1712 = .ok (.iaload, 1) := by decide +kernel
theorem dL_law_1713 : decode cL_law 1713 = .ok (.invokevirtual 235, 3) := by decide +kernel
theorem dL_law_1716 : decode cL_law 1716 = .ok (.pop, 1) := by decide +kernel
theorem dL_law_1717 : decode cL_law 1717 = .ok (.aload_n 2, 1) := by decide +kernel
theorem dL_law_1718 : decode cL_law 1718 = .ok (.aload_n 0, 1) := by decide +kernel
theorem dL_law_1719 : decode cL_law 1719 = .ok (.iload_n 3, 1) := by decide +kernel
theorem dL_law_1720 : decode cL_law 1720 = .ok (.iconst 1, 1) := by decide +kernel
theorem dL_law_1721 : decode cL_law 1721 = .ok (.iadd, 1) := by decide +kernel
theorem dL_law_1722 : decode cL_law 1722 = .ok (.iaload, 1) := by decide +kernel
theorem dL_law_1723 : decode cL_law 1723 = .ok (.aload_n 0, 1) := by decide +kernel
theorem dL_law_1724 : decode cL_law 1724 = .ok (.iload_n 3, 1) := by decide +kernel
theorem dL_law_1725 : decode cL_law 1725 = .ok (.iconst 2, 1) := by decide +kernel
theorem dL_law_1726 : decode cL_law 1726 = .ok (.iadd, 1) := by decide +kernel
theorem dL_law_1727 : decode cL_law 1727 = .ok (.iaload, 1) := by decide +kernel
theorem dL_law_1728 : decode cL_law 1728 = .ok (.invokevirtual 238, 3) := by decide +kernel
theorem dL_law_1731 : decode cL_law 1731 = .ok (.pop, 1) := by decide +kernel
theorem dL_law_1732 : decode cL_law 1732 = .ok (.goto 337, 3) := by decide +kernel
set_option maxRecDepth 20000 in
theorem mT_X11_isSeed : wIn lw_tbl vX11_isSeed := wIn.cons (List.mem_of_getElem? (i := 1196) (by decide +kernel)) (wIn.r _ [1197] (by decide +kernel))
set_option maxRecDepth 20000 in
theorem mT_X11_drawWinter : wIn lw_tbl vX11_drawWinter := wIn.cons (List.mem_of_getElem? (i := 1201) (by decide +kernel)) (wIn.app (wIn.r _ [492, 346, 486, 212, 239, 1202, 1203, 1204, 1205, 1206, 204, 697, 698, 699, 103] (by decide +kernel)) (wIn.app iT_11 (wIn.app iT_10 (wIn.app iT_6 mT_X10_passOver))))
set_option maxRecDepth 20000 in
theorem mT_X11_drawn : wIn lw_tbl vX11_drawn := wIn.cons (List.mem_of_getElem? (i := 1193) (by decide +kernel)) (wIn.app (wIn.r _ [810, 812, 17, 98, 1194, 1195, 1198, 1200, 39, 492, 346, 486, 212, 797, 798, 799, 103, 836, 837, 838] (by decide +kernel)) (wIn.app iT_11 (wIn.app iT_10 (wIn.app iT_6 (wIn.app mT_X11_isTold (wIn.app mT_X11_isSeed (wIn.app mT_X11_drawWinter (wIn.app mT_X10_fallenBy mT_X10_timeAt))))))))
theorem gL_X11_drawn : GoodIn lw_tbl (wsV RL 235 RX11 yX11_drawn vX11_drawn) := goodIn_app (goodIn_r _ [1190, 1191, 1192, 98] (by decide +kernel) (by decide +kernel)) (fun w h => ⟨mT_X11_drawn w h, gs_X11_drawn w h⟩)
set_option maxRecDepth 20000 in
theorem mT_X12_isSeed : wIn lw_tbl vX12_isSeed := wIn.cons (List.mem_of_getElem? (i := 1885) (by decide +kernel)) (wIn.app (wIn.r _ [1886, 1387, 1388, 110] (by decide +kernel)) mT_X12_in)
set_option maxRecDepth 20000 in
theorem mT_X12_goDrawn : wIn lw_tbl vX12_goDrawn := wIn.cons (List.mem_of_getElem? (i := 1890) (by decide +kernel)) (wIn.app (wIn.r _ [1296, 1262, 1792, 1794, 86, 110, 1891, 1892, 1893, 1894, 1895, 1544, 1546, 62, 1551, 1553, 63] (by decide +kernel)) (wIn.app iT_12 (wIn.app mT_X12_isThaw (wIn.app mT_X12_layOff mT_X12_layFalls))))
set_option maxRecDepth 20000 in
theorem mT_X12_drawn : wIn lw_tbl vX12_drawn := wIn.cons (List.mem_of_getElem? (i := 1882) (by decide +kernel)) (wIn.app (wIn.r _ [1596, 1598, 68, 110, 1883, 1884, 1386, 1387, 1388, 1887, 1889, 96, 1296, 1278, 1607, 1609, 69, 1262, 1277] (by decide +kernel)) (wIn.app iT_12 (wIn.app mT_X12_isStreet (wIn.app mT_X12_isSeed (wIn.app mT_X12_in (wIn.app mT_X12_goDrawn mT_X12_timeOf))))))
theorem gL_X12_drawn : GoodIn lw_tbl (wsV RL 238 RX12 yX12_drawn vX12_drawn) := goodIn_app (goodIn_r _ [1879, 1880, 1881, 110] (by decide +kernel) (by decide +kernel)) (fun w h => ⟨mT_X12_drawn w h, gs_X12_drawn w h⟩)
set_option maxHeartbeats 8000000 in
set_option maxRecDepth 100000 in
theorem law_c54 {p : Program} {e : Env} {s : State} {m : MethodId} {below : List Frame} {meth : Method} {c : Code} (l : Launch) {b L : Nat} {xs : Nat → Int32} {D : va_G} {cs : Nat → ClassId} {ad : Nat → Nat} {kS : kSt} {K : sK} {g : Nat → va_E} {H : Heap} {locs : List Loc} (hL : L ≤ 3072) (C0 : lw_At p s m meth c b L xs) (X : CxL p s m b meth c D cs) (Z : SX ad kS s s.heap) (hj : wJ ad 218) (hA : ∀ i, i < 218 → AL s (ad i)) (hKO : KO K) (hR : KR K) (hW : WF (shp ad K) ad cs g) (hP : va_P D vwCl (wL ad g 218) H) (hS : va_S (AL s) s.heap H locs) (ls : Array Slot) (ii : Int32) (hi0 : 0 ≤ ii.toInt) (hi1 : ii.toInt + 6 ≤ L) (hl : lv_has ls 4 [(3, .int ii), (2, .ref (ad 197)), (1, .ref (ad 0)), (0, .ref b)]) (kk : ∀ (K : sK) (g : Nat → va_E) (H : Heap) (locs : List Loc) (ls : Array Slot), KO K → KR K → WF (shp ad K) ad cs g → va_P D vwCl (wL ad g 218) H → va_S (AL s) s.heap H locs → lv_has ls 4 [(3, .int ii), (2, .ref (ad 197)), (1, .ref (ad 0)), (0, .ref b)] → W p l e room_1 s m #[Value.ref b] below meth c H locs 218 6259 (lw_Z below #[Value.ref b] s) (F0 m 2069 ls [])) : W p l e room_1 s m #[Value.ref b] below meth c H locs 218 6259 (lw_Z below #[Value.ref b] s) (F0 m 1702 ls []) := by
  have hx := X.1
  have hb : c.code = cL_law := X.2.1
  obtain ⟨-, -, -, -, -, -, hX, hbl, -, -⟩ := id C0
  have hbA : ¬ AL s b := Nat.not_le.mpr hbl
  refine lv_aload_n hx hb dL_law_1702 rfl (lv_at hl 2 rfl) ?_
  refine lv_aload_n hx hb dL_law_1703 rfl (lv_at hl 3 rfl) ?_
  refine lv_iload_n hx hb dL_law_1704 rfl (lv_at hl 0 rfl) ?_
  refine lv_iconst (v := 1) hx hb dL_law_1705 (by decide) ?_
  refine lv_iadd hx hb dL_law_1706 ?_
  refine lv_topi (fun z_1 ez_1 => ?_)
  have hz_1 : z_1.toInt = ii.toInt + 1 := n_add rfl (by decide : (1 : Int32).toInt = 1) ez_1 (by omega) (by omega)
  refine va_sld hx hb hX hbl hbA hS (i := z_1) (n_in (rfl : z_1.toInt = z_1.toInt) (by omega) (by omega)) dL_law_1707 ?_
  refine lv_topi (fun x_2 ex_2 => ?_)
  refine lv_aload_n hx hb dL_law_1708 rfl (lv_at hl 3 rfl) ?_
  refine lv_iload_n hx hb dL_law_1709 rfl (lv_at hl 0 rfl) ?_
  refine lv_iconst (v := 2) hx hb dL_law_1710 (by decide) ?_
  refine lv_iadd hx hb dL_law_1711 ?_
  refine lv_topi (fun z_3 ez_3 => ?_)
  have hz_3 : z_3.toInt = ii.toInt + 2 := n_add rfl (by decide : (2 : Int32).toInt = 2) ez_3 (by omega) (by omega)
  refine va_sld hx hb hX hbl hbA hS (i := z_3) (n_in (rfl : z_3.toInt = z_3.toInt) (by omega) (by omega)) dL_law_1712 ?_
  refine lv_topi (fun x_4 ex_4 => ?_)
  obtain ⟨fso_5, hgo_5, -⟩ := hW.obj (i := 0) (by decide) (sh_0 ad _)
  refine s_calli (q := (RX11, TX11, 14)) (As := [.int x_2, .int x_4]) (rest := []) X Z (s_X11_drawn l D cs ad kS K hKO hj g hW x_2 x_4) (cwV 2 X.2.2.2.2.1 gL_X11_drawn rfl rfl rfl (by decide +kernel) ⟨Nat.le_of_ble_eq_true rfl, Nat.le_of_ble_eq_true rfl⟩) (by decide) hgo_5 rfl hP hA (fun a h _ => hS.2.1 a h (Nat.not_le.mpr h)) hS rfl hl.1 rfl (Nat.le_of_ble_eq_true rfl) dL_law_1713 ⟨Nat.le_of_ble_eq_true rfl, Nat.le_of_ble_eq_true rfl⟩ (fun r_7 g_6 H locs hw_8 hP hS => ?_)
  obtain ⟨hw_8W, hw_8f⟩ := hw_8
  refine lv_pop hx hb dL_law_1716 rfl ?_
  refine lv_aload_n hx hb dL_law_1717 rfl (lv_at hl 1 rfl) ?_
  refine lv_aload_n hx hb dL_law_1718 rfl (lv_at hl 3 rfl) ?_
  refine lv_iload_n hx hb dL_law_1719 rfl (lv_at hl 0 rfl) ?_
  refine lv_iconst (v := 1) hx hb dL_law_1720 (by decide) ?_
  refine lv_iadd hx hb dL_law_1721 ?_
  refine lv_topi (fun z_9 ez_9 => ?_)
  have hz_9 : z_9.toInt = ii.toInt + 1 := n_add rfl (by decide : (1 : Int32).toInt = 1) ez_9 (by omega) (by omega)
  refine va_sld hx hb hX hbl hbA hS (i := z_9) (n_in (rfl : z_9.toInt = z_9.toInt) (by omega) (by omega)) dL_law_1722 ?_
  refine lv_topi (fun x_10 ex_10 => ?_)
  obtain rfl : x_2 = x_10 := by rw [ex_2, ex_10, ez_1, ez_9]
  refine lv_aload_n hx hb dL_law_1723 rfl (lv_at hl 3 rfl) ?_
  refine lv_iload_n hx hb dL_law_1724 rfl (lv_at hl 0 rfl) ?_
  refine lv_iconst (v := 2) hx hb dL_law_1725 (by decide) ?_
  refine lv_iadd hx hb dL_law_1726 ?_
  refine lv_topi (fun z_11 ez_11 => ?_)
  have hz_11 : z_11.toInt = ii.toInt + 2 := n_add rfl (by decide : (2 : Int32).toInt = 2) ez_11 (by omega) (by omega)
  refine va_sld hx hb hX hbl hbA hS (i := z_11) (n_in (rfl : z_11.toInt = z_11.toInt) (by omega) (by omega)) dL_law_1727 ?_
  refine lv_topi (fun x_12 ex_12 => ?_)
  obtain rfl : x_4 = x_12 := by rw [ex_4, ex_12, ez_3, ez_11]
  obtain ⟨fso_13, hgo_13, -⟩ := hw_8W.obj (i := 197) (by decide) (sh_197 ad _)
  refine s_calli (q := (RX12, TX12, 40)) (As := [.int x_2, .int x_4]) (rest := []) X Z (s_X12_drawn l D cs ad kS K hKO hj g_6 hw_8W x_2 x_4) (cwV 2 X.2.2.2.2.1 gL_X12_drawn rfl rfl rfl (by decide +kernel) ⟨Nat.le_of_ble_eq_true rfl, Nat.le_of_ble_eq_true rfl⟩) (by decide) hgo_13 rfl hP hA (fun a h _ => hS.2.1 a h (Nat.not_le.mpr h)) hS rfl hl.1 rfl (Nat.le_of_ble_eq_true rfl) dL_law_1728 ⟨Nat.le_of_ble_eq_true rfl, Nat.le_of_ble_eq_true rfl⟩ (fun r_15 g_14 H locs hw_16 hP hS => ?_)
  obtain ⟨hw_16W, hw_16f⟩ := hw_16
  refine lv_pop hx hb dL_law_1731 rfl ?_
  refine lv_goto (tgt := 2069) hx hb dL_law_1732 (by decide) ?_
  exact kk K g_14 _ _ ls hKO hR hw_16W hP hS hl

theorem dL_law_1735 : decode cL_law 1735 = .ok (.aload_n 1, 1) := by decide +kernel
theorem dL_law_1736 : decode cL_law 1736 = .ok (.aload_n 0, 1) := by decide +kernel
theorem dL_law_1737 : decode cL_law 1737 = .ok (.iload_n 3, 1) := by decide +kernel
theorem dL_law_1738 : decode cL_law 1738 = .ok (.iconst 1, 1) := by decide +kernel
theorem dL_law_1739 : decode cL_law 1739 = .ok (.iadd, 1) := by decide +kernel
theorem dL_law_1740 : decode cL_law 1740 = .ok (.iaload, 1) := by decide +kernel
theorem dL_law_1741 : decode cL_law 1741 = .ok (.aload_n 0, 1) := by decide +kernel
theorem dL_law_1742 : decode cL_law 1742 = .ok (.iload_n 3, 1) := by decide +kernel
theorem dL_law_1743 : decode cL_law 1743 = .ok (.iconst 2, 1) := by decide +kernel
theorem dL_law_1744 : decode cL_law 1744 = .ok (.iadd, 1) := by decide +kernel
theorem dL_law_1745 : decode cL_law 1745 = .ok (.iaload, 1) := by decide +kernel
theorem dL_law_1746 : decode cL_law 1746 = .ok (.aload_n 0, 1) := by decide +kernel
theorem dL_law_1747 : decode cL_law 1747 = .ok (.iload_n 3, 1) := by decide +kernel
theorem dL_law_1748 : decode cL_law 1748 = .ok (.iconst 3, 1) := by decide +kernel
theorem dL_law_1749 : decode cL_law 1749 = .ok (.iadd, 1) := by decide +kernel
theorem dL_law_1750 : decode cL_law 1750 = .ok (.iaload, 1) := by decide +kernel
theorem dL_law_1751 : decode cL_law 1751 = .ok (.aload_n 0, 1) := by decide +kernel
theorem dL_law_1752 : decode cL_law 1752 = .ok (.iload_n 3, 1) := by decide +kernel
theorem dL_law_1753 : decode cL_law 1753 = .ok (.iconst 4, 1) := by decide +kernel
theorem dL_law_1754 : decode cL_law 1754 = .ok (.iadd, 1) := by decide +kernel
theorem dL_law_1755 : decode cL_law 1755 = .ok (.iaload, 1) := by decide +kernel
theorem dL_law_1756 : decode cL_law 1756 = .ok (.invokevirtual 239, 3) := by decide +kernel
theorem dL_law_1759 : decode cL_law 1759 = .ok (.pop, 1) := by decide +kernel
theorem dL_law_1760 : decode cL_law 1760 = .ok (.aload_n 2, 1) := by decide +kernel
theorem dL_law_1761 : decode cL_law 1761 = .ok (.aload_n 0, 1) := by decide +kernel
theorem dL_law_1762 : decode cL_law 1762 = .ok (.iload_n 3, 1) := by decide +kernel
theorem dL_law_1763 : decode cL_law 1763 = .ok (.iconst 1, 1) := by decide +kernel
theorem dL_law_1764 : decode cL_law 1764 = .ok (.iadd, 1) := by decide +kernel
theorem dL_law_1765 : decode cL_law 1765 = .ok (.iaload, 1) := by decide +kernel
theorem dL_law_1766 : decode cL_law 1766 = .ok (.aload_n 0, 1) := by decide +kernel
theorem dL_law_1767 : decode cL_law 1767 = .ok (.iload_n 3, 1) := by decide +kernel
theorem dL_law_1768 : decode cL_law 1768 = .ok (.iconst 2, 1) := by decide +kernel
theorem dL_law_1769 : decode cL_law 1769 = .ok (.iadd, 1) := by decide +kernel
theorem dL_law_1770 : decode cL_law 1770 = .ok (.iaload, 1) := by decide +kernel
theorem dL_law_1771 : decode cL_law 1771 = .ok (.aload_n 0, 1) := by decide +kernel
theorem dL_law_1772 : decode cL_law 1772 = .ok (.iload_n 3, 1) := by decide +kernel
theorem dL_law_1773 : decode cL_law 1773 = .ok (.iconst 3, 1) := by decide +kernel
theorem dL_law_1774 : decode cL_law 1774 = .ok (.iadd, 1) := by decide +kernel
theorem dL_law_1775 : decode cL_law 1775 = .ok (.iaload, 1) := by decide +kernel
theorem dL_law_1776 : decode cL_law 1776 = .ok (.aload_n 0, 1) := by decide +kernel
theorem dL_law_1777 : decode cL_law 1777 = .ok (.iload_n 3, 1) := by decide +kernel
theorem dL_law_1778 : decode cL_law 1778 = .ok (.iconst 4, 1) := by decide +kernel
theorem dL_law_1779 : decode cL_law 1779 = .ok (.iadd, 1) := by decide +kernel
theorem dL_law_1780 : decode cL_law 1780 = .ok (.iaload, 1) := by decide +kernel
theorem dL_law_1781 : decode cL_law 1781 = .ok (.invokevirtual 243, 3) := by decide +kernel
theorem dL_law_1784 : decode cL_law 1784 = .ok (.pop, 1) := by decide +kernel
theorem dL_law_1785 : decode cL_law 1785 = .ok (.goto 284, 3) := by decide +kernel
set_option maxRecDepth 20000 in
theorem mT_X11_luck : wIn lw_tbl vX11_luck := wIn.cons (List.mem_of_getElem? (i := 1210) (by decide +kernel)) (wIn.app (wIn.r _ [742, 744, 15, 98, 725, 727, 13, 1194, 1195, 1198, 1200, 39, 492, 769, 770, 771, 103] (by decide +kernel)) (wIn.app iT_11 (wIn.app mT_X11_isIcicle (wIn.app mT_X11_isDay (wIn.app mT_X11_isSeed (wIn.app mT_X11_drawWinter mT_X10_fellBy))))))
theorem gL_X11_luck : GoodIn lw_tbl (wsV RL 239 RX11 yX11_luck vX11_luck) := goodIn_app (goodIn_r _ [1207, 1208, 1209, 98] (by decide +kernel) (by decide +kernel)) (fun w h => ⟨mT_X11_luck w h, gs_X11_luck w h⟩)
set_option maxRecDepth 20000 in
theorem mT_X12_luck : wIn lw_tbl vX12_luck := wIn.cons (List.mem_of_getElem? (i := 1899) (by decide +kernel)) (wIn.app (wIn.r _ [1883, 1884, 110, 1900, 1387, 1388, 1516, 1518, 58, 1489, 1491, 54, 1887, 1889, 96, 1584, 1586, 67] (by decide +kernel)) (wIn.app mT_X12_isSeed (wIn.app mT_X12_in (wIn.app mT_X12_isIcicle (wIn.app mT_X12_isDay (wIn.app mT_X12_goDrawn mT_X12_fellBy))))))
theorem gL_X12_luck : GoodIn lw_tbl (wsV RL 243 RX12 yX12_luck vX12_luck) := goodIn_app (goodIn_r _ [1896, 1897, 1898, 110] (by decide +kernel) (by decide +kernel)) (fun w h => ⟨mT_X12_luck w h, gs_X12_luck w h⟩)
set_option maxHeartbeats 8000000 in
set_option maxRecDepth 100000 in
theorem law_c55 {p : Program} {e : Env} {s : State} {m : MethodId} {below : List Frame} {meth : Method} {c : Code} (l : Launch) {b L : Nat} {xs : Nat → Int32} {D : va_G} {cs : Nat → ClassId} {ad : Nat → Nat} {kS : kSt} {K : sK} {g : Nat → va_E} {H : Heap} {locs : List Loc} (hL : L ≤ 3072) (C0 : lw_At p s m meth c b L xs) (X : CxL p s m b meth c D cs) (Z : SX ad kS s s.heap) (hj : wJ ad 218) (hA : ∀ i, i < 218 → AL s (ad i)) (hKO : KO K) (hR : KR K) (hW : WF (shp ad K) ad cs g) (hP : va_P D vwCl (wL ad g 218) H) (hS : va_S (AL s) s.heap H locs) (ls : Array Slot) (ii : Int32) (hi0 : 0 ≤ ii.toInt) (hi1 : ii.toInt + 6 ≤ L) (hl : lv_has ls 4 [(3, .int ii), (2, .ref (ad 197)), (1, .ref (ad 0)), (0, .ref b)]) (kk : ∀ (K : sK) (g : Nat → va_E) (H : Heap) (locs : List Loc) (ls : Array Slot), KO K → KR K → WF (shp ad K) ad cs g → va_P D vwCl (wL ad g 218) H → va_S (AL s) s.heap H locs → lv_has ls 4 [(3, .int ii), (2, .ref (ad 197)), (1, .ref (ad 0)), (0, .ref b)] → W p l e room_1 s m #[Value.ref b] below meth c H locs 218 6259 (lw_Z below #[Value.ref b] s) (F0 m 2069 ls [])) : W p l e room_1 s m #[Value.ref b] below meth c H locs 218 6259 (lw_Z below #[Value.ref b] s) (F0 m 1735 ls []) := by
  have hx := X.1
  have hb : c.code = cL_law := X.2.1
  obtain ⟨-, -, -, -, -, -, hX, hbl, -, -⟩ := id C0
  have hbA : ¬ AL s b := Nat.not_le.mpr hbl
  refine lv_aload_n hx hb dL_law_1735 rfl (lv_at hl 2 rfl) ?_
  refine lv_aload_n hx hb dL_law_1736 rfl (lv_at hl 3 rfl) ?_
  refine lv_iload_n hx hb dL_law_1737 rfl (lv_at hl 0 rfl) ?_
  refine lv_iconst (v := 1) hx hb dL_law_1738 (by decide) ?_
  refine lv_iadd hx hb dL_law_1739 ?_
  refine lv_topi (fun z_1 ez_1 => ?_)
  have hz_1 : z_1.toInt = ii.toInt + 1 := n_add rfl (by decide : (1 : Int32).toInt = 1) ez_1 (by omega) (by omega)
  refine va_sld hx hb hX hbl hbA hS (i := z_1) (n_in (rfl : z_1.toInt = z_1.toInt) (by omega) (by omega)) dL_law_1740 ?_
  refine lv_topi (fun x_2 ex_2 => ?_)
  refine lv_aload_n hx hb dL_law_1741 rfl (lv_at hl 3 rfl) ?_
  refine lv_iload_n hx hb dL_law_1742 rfl (lv_at hl 0 rfl) ?_
  refine lv_iconst (v := 2) hx hb dL_law_1743 (by decide) ?_
  refine lv_iadd hx hb dL_law_1744 ?_
  refine lv_topi (fun z_3 ez_3 => ?_)
  have hz_3 : z_3.toInt = ii.toInt + 2 := n_add rfl (by decide : (2 : Int32).toInt = 2) ez_3 (by omega) (by omega)
  refine va_sld hx hb hX hbl hbA hS (i := z_3) (n_in (rfl : z_3.toInt = z_3.toInt) (by omega) (by omega)) dL_law_1745 ?_
  refine lv_topi (fun x_4 ex_4 => ?_)
  refine lv_aload_n hx hb dL_law_1746 rfl (lv_at hl 3 rfl) ?_
  refine lv_iload_n hx hb dL_law_1747 rfl (lv_at hl 0 rfl) ?_
  refine lv_iconst (v := 3) hx hb dL_law_1748 (by decide) ?_
  refine lv_iadd hx hb dL_law_1749 ?_
  refine lv_topi (fun z_5 ez_5 => ?_)
  have hz_5 : z_5.toInt = ii.toInt + 3 := n_add rfl (by decide : (3 : Int32).toInt = 3) ez_5 (by omega) (by omega)
  refine va_sld hx hb hX hbl hbA hS (i := z_5) (n_in (rfl : z_5.toInt = z_5.toInt) (by omega) (by omega)) dL_law_1750 ?_
  refine lv_topi (fun x_6 ex_6 => ?_)
  refine lv_aload_n hx hb dL_law_1751 rfl (lv_at hl 3 rfl) ?_
  refine lv_iload_n hx hb dL_law_1752 rfl (lv_at hl 0 rfl) ?_
  refine lv_iconst (v := 4) hx hb dL_law_1753 (by decide) ?_
  refine lv_iadd hx hb dL_law_1754 ?_
  refine lv_topi (fun z_7 ez_7 => ?_)
  have hz_7 : z_7.toInt = ii.toInt + 4 := n_add rfl (by decide : (4 : Int32).toInt = 4) ez_7 (by omega) (by omega)
  refine va_sld hx hb hX hbl hbA hS (i := z_7) (n_in (rfl : z_7.toInt = z_7.toInt) (by omega) (by omega)) dL_law_1755 ?_
  refine lv_topi (fun x_8 ex_8 => ?_)
  obtain ⟨fso_9, hgo_9, -⟩ := hW.obj (i := 0) (by decide) (sh_0 ad _)
  refine s_calli (q := (RX11, TX11, 14)) (As := [.int x_2, .int x_4, .int x_6, .int x_8]) (rest := []) X Z (s_X11_luck l D cs ad kS K hKO hj g hW x_2 x_4 x_6 x_8) (cwV 4 X.2.2.2.2.1 gL_X11_luck rfl rfl rfl (by decide +kernel) ⟨Nat.le_of_ble_eq_true rfl, Nat.le_of_ble_eq_true rfl⟩) (by decide) hgo_9 rfl hP hA (fun a h _ => hS.2.1 a h (Nat.not_le.mpr h)) hS rfl hl.1 rfl (Nat.le_of_ble_eq_true rfl) dL_law_1756 ⟨Nat.le_of_ble_eq_true rfl, Nat.le_of_ble_eq_true rfl⟩ (fun r_11 g_10 H locs hw_12 hP hS => ?_)
  obtain ⟨hw_12W, hw_12f⟩ := hw_12
  refine lv_pop hx hb dL_law_1759 rfl ?_
  refine lv_aload_n hx hb dL_law_1760 rfl (lv_at hl 1 rfl) ?_
  refine lv_aload_n hx hb dL_law_1761 rfl (lv_at hl 3 rfl) ?_
  refine lv_iload_n hx hb dL_law_1762 rfl (lv_at hl 0 rfl) ?_
  refine lv_iconst (v := 1) hx hb dL_law_1763 (by decide) ?_
  refine lv_iadd hx hb dL_law_1764 ?_
  refine lv_topi (fun z_13 ez_13 => ?_)
  have hz_13 : z_13.toInt = ii.toInt + 1 := n_add rfl (by decide : (1 : Int32).toInt = 1) ez_13 (by omega) (by omega)
  refine va_sld hx hb hX hbl hbA hS (i := z_13) (n_in (rfl : z_13.toInt = z_13.toInt) (by omega) (by omega)) dL_law_1765 ?_
  refine lv_topi (fun x_14 ex_14 => ?_)
  obtain rfl : x_2 = x_14 := by rw [ex_2, ex_14, ez_1, ez_13]
  refine lv_aload_n hx hb dL_law_1766 rfl (lv_at hl 3 rfl) ?_
  refine lv_iload_n hx hb dL_law_1767 rfl (lv_at hl 0 rfl) ?_
  refine lv_iconst (v := 2) hx hb dL_law_1768 (by decide) ?_
  refine lv_iadd hx hb dL_law_1769 ?_
  refine lv_topi (fun z_15 ez_15 => ?_)
  have hz_15 : z_15.toInt = ii.toInt + 2 := n_add rfl (by decide : (2 : Int32).toInt = 2) ez_15 (by omega) (by omega)
  refine va_sld hx hb hX hbl hbA hS (i := z_15) (n_in (rfl : z_15.toInt = z_15.toInt) (by omega) (by omega)) dL_law_1770 ?_
  refine lv_topi (fun x_16 ex_16 => ?_)
  obtain rfl : x_4 = x_16 := by rw [ex_4, ex_16, ez_3, ez_15]
  refine lv_aload_n hx hb dL_law_1771 rfl (lv_at hl 3 rfl) ?_
  refine lv_iload_n hx hb dL_law_1772 rfl (lv_at hl 0 rfl) ?_
  refine lv_iconst (v := 3) hx hb dL_law_1773 (by decide) ?_
  refine lv_iadd hx hb dL_law_1774 ?_
  refine lv_topi (fun z_17 ez_17 => ?_)
  have hz_17 : z_17.toInt = ii.toInt + 3 := n_add rfl (by decide : (3 : Int32).toInt = 3) ez_17 (by omega) (by omega)
  refine va_sld hx hb hX hbl hbA hS (i := z_17) (n_in (rfl : z_17.toInt = z_17.toInt) (by omega) (by omega)) dL_law_1775 ?_
  refine lv_topi (fun x_18 ex_18 => ?_)
  obtain rfl : x_6 = x_18 := by rw [ex_6, ex_18, ez_5, ez_17]
  refine lv_aload_n hx hb dL_law_1776 rfl (lv_at hl 3 rfl) ?_
  refine lv_iload_n hx hb dL_law_1777 rfl (lv_at hl 0 rfl) ?_
  refine lv_iconst (v := 4) hx hb dL_law_1778 (by decide) ?_
  refine lv_iadd hx hb dL_law_1779 ?_
  refine lv_topi (fun z_19 ez_19 => ?_)
  have hz_19 : z_19.toInt = ii.toInt + 4 := n_add rfl (by decide : (4 : Int32).toInt = 4) ez_19 (by omega) (by omega)
  refine va_sld hx hb hX hbl hbA hS (i := z_19) (n_in (rfl : z_19.toInt = z_19.toInt) (by omega) (by omega)) dL_law_1780 ?_
  refine lv_topi (fun x_20 ex_20 => ?_)
  obtain rfl : x_8 = x_20 := by rw [ex_8, ex_20, ez_7, ez_19]
  obtain ⟨fso_21, hgo_21, -⟩ := hw_12W.obj (i := 197) (by decide) (sh_197 ad _)
  refine s_calli (q := (RX12, TX12, 40)) (As := [.int x_2, .int x_4, .int x_6, .int x_8]) (rest := []) X Z (s_X12_luck l D cs ad kS K hKO hj g_10 hw_12W x_2 x_4 x_6 x_8) (cwV 4 X.2.2.2.2.1 gL_X12_luck rfl rfl rfl (by decide +kernel) ⟨Nat.le_of_ble_eq_true rfl, Nat.le_of_ble_eq_true rfl⟩) (by decide) hgo_21 rfl hP hA (fun a h _ => hS.2.1 a h (Nat.not_le.mpr h)) hS rfl hl.1 rfl (Nat.le_of_ble_eq_true rfl) dL_law_1781 ⟨Nat.le_of_ble_eq_true rfl, Nat.le_of_ble_eq_true rfl⟩ (fun r_23 g_22 H locs hw_24 hP hS => ?_)
  obtain ⟨hw_24W, hw_24f⟩ := hw_24
  refine lv_pop hx hb dL_law_1784 rfl ?_
  refine lv_goto (tgt := 2069) hx hb dL_law_1785 (by decide) ?_
  exact kk K g_22 _ _ ls hKO hR hw_24W hP hS hl

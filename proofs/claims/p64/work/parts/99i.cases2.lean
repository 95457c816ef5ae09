theorem dL_law_728 : decode cL_law 728 = .ok (.aload_n 1, 1) := by decide +kernel
theorem dL_law_729 : decode cL_law 729 = .ok (.aload_n 0, 1) := by decide +kernel
theorem dL_law_730 : decode cL_law 730 = .ok (.iload_n 3, 1) := by decide +kernel
theorem dL_law_731 : decode cL_law 731 = .ok (.iconst 1, 1) := by decide +kernel
theorem dL_law_732 : decode cL_law 732 = .ok (.iadd, 1) := by decide +kernel
theorem dL_law_733 : decode cL_law 733 = .ok (.iaload, 1) := by decide +kernel
theorem dL_law_734 : decode cL_law 734 = .ok (.aload_n 0, 1) := by decide +kernel
theorem dL_law_735 : decode cL_law 735 = .ok (.iload_n 3, 1) := by decide +kernel
theorem dL_law_736 : decode cL_law 736 = .ok (.iconst 2, 1) := by decide +kernel
theorem dL_law_737 : decode cL_law 737 = .ok (.iadd, 1) := by decide +kernel
theorem dL_law_738 : decode cL_law 738 = .ok (.iaload, 1) := by decide +kernel
theorem dL_law_739 : decode cL_law 739 = .ok (.invokevirtual 81, 3) := by decide +kernel
theorem dL_law_742 : decode cL_law 742 = .ok (.pop, 1) := by decide +kernel
theorem dL_law_743 : decode cL_law 743 = .ok (.aload_n 2, 1) := by decide +kernel
theorem dL_law_744 : decode cL_law 744 = .ok (.aload_n 0, 1) := by decide +kernel
theorem dL_law_745 : decode cL_law 745 = .ok (.iload_n 3, 1) := by decide +kernel
theorem dL_law_746 : decode cL_law 746 = .ok (.iconst 1, 1) := by decide +kernel
theorem dL_law_747 : decode cL_law 747 = .ok (.iadd, 1) := by decide +kernel
theorem dL_law_748 : decode cL_law 748 = .ok (.iaload, 1) := by decide +kernel
theorem dL_law_749 : decode cL_law 749 = .ok (.aload_n 0, 1) := by decide +kernel
theorem dL_law_750 : decode cL_law 750 = .ok (.iload_n 3, 1) := by decide +kernel
theorem dL_law_751 : decode cL_law 751 = .ok (.iconst 2, 1) := by decide +kernel
theorem dL_law_752 : decode cL_law 752 = .ok (.iadd, 1) := by decide +kernel
theorem dL_law_753 : decode cL_law 753 = .ok (.iaload, 1) := by decide +kernel
theorem dL_law_754 : decode cL_law 754 = .ok (.invokevirtual 84, 3) := by decide +kernel
theorem dL_law_757 : decode cL_law 757 = .ok (.pop, 1) := by decide +kernel
theorem dL_law_758 : decode cL_law 758 = .ok (.goto 1311, 3) := by decide +kernel
set_option maxRecDepth 20000 in
theorem mT_X10_timeAt : wIn lw_tbl vX10_timeAt := wIn.cons (List.mem_of_getElem? (i := 839) (by decide +kernel)) (wIn.app (wIn.r _ [219, 247, 801, 770, 771, 103, 351, 262] (by decide +kernel)) (wIn.app iT_6 (wIn.app iT_10 mT_X10_fellBy)))
set_option maxRecDepth 20000 in
theorem mT_X11_time : wIn lw_tbl vX11_time := wIn.cons (List.mem_of_getElem? (i := 835) (by decide +kernel)) (wIn.app (wIn.r _ [733, 735, 14, 98, 725, 727, 13, 491, 486, 836, 837, 838, 103] (by decide +kernel)) (wIn.app iT_11 (wIn.app mT_X11_isEave (wIn.app mT_X11_isDay mT_X10_timeAt))))
theorem gL_X11_time : GoodIn lw_tbl (wsV RL 81 RX11 yX11_time vX11_time) := goodIn_app (goodIn_r _ [832, 833, 834, 98] (by decide +kernel) (by decide +kernel)) (fun w h => ⟨mT_X11_time w h, gs_X11_time w h⟩)
set_option maxRecDepth 20000 in
theorem mT_X12_timeOf : wIn lw_tbl vX12_timeOf := wIn.cons (List.mem_of_getElem? (i := 1610) (by decide +kernel)) (wIn.app (wIn.r _ [1262, 1520, 1522, 59, 110, 1584, 1586, 67, 1277] (by decide +kernel)) (wIn.app iT_12 (wIn.app mT_X12_of mT_X12_fellBy)))
set_option maxRecDepth 20000 in
theorem mT_X12_time : wIn lw_tbl vX12_time := wIn.cons (List.mem_of_getElem? (i := 1606) (by decide +kernel)) (wIn.app (wIn.r _ [1501, 1503, 56, 110, 1489, 1491, 54, 1540, 1542, 61, 1607, 1609, 69] (by decide +kernel)) (wIn.app mT_X12_isEave (wIn.app mT_X12_isDay (wIn.app mT_X12_layAll mT_X12_timeOf))))
theorem gL_X12_time : GoodIn lw_tbl (wsV RL 84 RX12 yX12_time vX12_time) := goodIn_app (goodIn_r _ [1603, 1604, 1605, 110] (by decide +kernel) (by decide +kernel)) (fun w h => ⟨mT_X12_time w h, gs_X12_time w h⟩)
set_option maxHeartbeats 8000000 in
set_option maxRecDepth 100000 in
theorem law_c16 {p : Program} {e : Env} {s : State} {m : MethodId} {below : List Frame} {meth : Method} {c : Code} (l : Launch) {b L : Nat} {xs : Nat → Int32} {D : va_G} {cs : Nat → ClassId} {ad : Nat → Nat} {kS : kSt} {K : sK} {g : Nat → va_E} {H : Heap} {locs : List Loc} (hL : L ≤ 3072) (C0 : lw_At p s m meth c b L xs) (X : CxL p s m b meth c D cs) (Z : SX ad kS s s.heap) (hj : wJ ad 218) (hA : ∀ i, i < 218 → AL s (ad i)) (hKO : KO K) (hR : KR K) (hW : WF (shp ad K) ad cs g) (hP : va_P D vwCl (wL ad g 218) H) (hS : va_S (AL s) s.heap H locs) (ls : Array Slot) (ii : Int32) (hi0 : 0 ≤ ii.toInt) (hi1 : ii.toInt + 6 ≤ L) (hl : lv_has ls 4 [(3, .int ii), (2, .ref (ad 197)), (1, .ref (ad 0)), (0, .ref b)]) (kk : ∀ (K : sK) (g : Nat → va_E) (H : Heap) (locs : List Loc) (ls : Array Slot), KO K → KR K → WF (shp ad K) ad cs g → va_P D vwCl (wL ad g 218) H → va_S (AL s) s.heap H locs → lv_has ls 4 [(3, .int ii), (2, .ref (ad 197)), (1, .ref (ad 0)), (0, .ref b)] → W p l e room_1 s m #[Value.ref b] below meth c H locs 218 6259 (lw_Z below #[Value.ref b] s) (F0 m 2069 ls [])) : W p l e room_1 s m #[Value.ref b] below meth c H locs 218 6259 (lw_Z below #[Value.ref b] s) (F0 m 728 ls []) := by
  have hx := X.1
  have hb : c.code = cL_law := X.2.1
  obtain ⟨-, -, -, -, -, -, hX, hbl, -, -⟩ := id C0
  have hbA : ¬ AL s b := Nat.not_le.mpr hbl
  refine lv_aload_n hx hb dL_law_728 rfl (lv_at hl 2 rfl) ?_
  refine lv_aload_n hx hb dL_law_729 rfl (lv_at hl 3 rfl) ?_
  refine lv_iload_n hx hb dL_law_730 rfl (lv_at hl 0 rfl) ?_
  refine lv_iconst (v := 1) hx hb dL_law_731 (by decide) ?_
  refine lv_iadd hx hb dL_law_732 ?_
  refine lv_topi (fun z_1 ez_1 => ?_)
  have hz_1 : z_1.toInt = ii.toInt + 1 := n_add rfl (by decide : (1 : Int32).toInt = 1) ez_1 (by omega) (by omega)
  refine va_sld hx hb hX hbl hbA hS (i := z_1) (n_in (rfl : z_1.toInt = z_1.toInt) (by omega) (by omega)) dL_law_733 ?_
  refine lv_topi (fun x_2 ex_2 => ?_)
  refine lv_aload_n hx hb dL_law_734 rfl (lv_at hl 3 rfl) ?_
  refine lv_iload_n hx hb dL_law_735 rfl (lv_at hl 0 rfl) ?_
  refine lv_iconst (v := 2) hx hb dL_law_736 (by decide) ?_
  refine lv_iadd hx hb dL_law_737 ?_
  refine lv_topi (fun z_3 ez_3 => ?_)
  have hz_3 : z_3.toInt = ii.toInt + 2 := n_add rfl (by decide : (2 : Int32).toInt = 2) ez_3 (by omega) (by omega)
  refine va_sld hx hb hX hbl hbA hS (i := z_3) (n_in (rfl : z_3.toInt = z_3.toInt) (by omega) (by omega)) dL_law_738 ?_
  refine lv_topi (fun x_4 ex_4 => ?_)
  obtain ⟨fso_5, hgo_5, -⟩ := hW.obj (i := 0) (by decide) (sh_0 ad _)
  refine s_calli (q := (RX11, TX11, 14)) (As := [.int x_2, .int x_4]) (rest := []) X Z (s_X11_time l D cs ad kS K hKO hj g hW x_2 x_4) (cwV 2 X.2.2.2.2.1 gL_X11_time rfl rfl rfl (by decide +kernel) ⟨Nat.le_of_ble_eq_true rfl, Nat.le_of_ble_eq_true rfl⟩) (by decide) hgo_5 rfl hP hA (fun a h _ => hS.2.1 a h (Nat.not_le.mpr h)) hS rfl hl.1 rfl (Nat.le_of_ble_eq_true rfl) dL_law_739 ⟨Nat.le_of_ble_eq_true rfl, Nat.le_of_ble_eq_true rfl⟩ (fun r_7 g_6 H locs hw_8 hP hS => ?_)
  rw [hw_8] at hP
  refine lv_pop hx hb dL_law_742 rfl ?_
  refine lv_aload_n hx hb dL_law_743 rfl (lv_at hl 1 rfl) ?_
  refine lv_aload_n hx hb dL_law_744 rfl (lv_at hl 3 rfl) ?_
  refine lv_iload_n hx hb dL_law_745 rfl (lv_at hl 0 rfl) ?_
  refine lv_iconst (v := 1) hx hb dL_law_746 (by decide) ?_
  refine lv_iadd hx hb dL_law_747 ?_
  refine lv_topi (fun z_9 ez_9 => ?_)
  have hz_9 : z_9.toInt = ii.toInt + 1 := n_add rfl (by decide : (1 : Int32).toInt = 1) ez_9 (by omega) (by omega)
  refine va_sld hx hb hX hbl hbA hS (i := z_9) (n_in (rfl : z_9.toInt = z_9.toInt) (by omega) (by omega)) dL_law_748 ?_
  refine lv_topi (fun x_10 ex_10 => ?_)
  obtain rfl : x_2 = x_10 := by rw [ex_2, ex_10, ez_1, ez_9]
  refine lv_aload_n hx hb dL_law_749 rfl (lv_at hl 3 rfl) ?_
  refine lv_iload_n hx hb dL_law_750 rfl (lv_at hl 0 rfl) ?_
  refine lv_iconst (v := 2) hx hb dL_law_751 (by decide) ?_
  refine lv_iadd hx hb dL_law_752 ?_
  refine lv_topi (fun z_11 ez_11 => ?_)
  have hz_11 : z_11.toInt = ii.toInt + 2 := n_add rfl (by decide : (2 : Int32).toInt = 2) ez_11 (by omega) (by omega)
  refine va_sld hx hb hX hbl hbA hS (i := z_11) (n_in (rfl : z_11.toInt = z_11.toInt) (by omega) (by omega)) dL_law_753 ?_
  refine lv_topi (fun x_12 ex_12 => ?_)
  obtain rfl : x_4 = x_12 := by rw [ex_4, ex_12, ez_3, ez_11]
  obtain ⟨fso_13, hgo_13, -⟩ := hW.obj (i := 197) (by decide) (sh_197 ad _)
  refine s_calli (q := (RX12, TX12, 40)) (As := [.int x_2, .int x_4]) (rest := []) X Z (s_X12_time l D cs ad kS K hKO hj g hW x_2 x_4) (cwV 2 X.2.2.2.2.1 gL_X12_time rfl rfl rfl (by decide +kernel) ⟨Nat.le_of_ble_eq_true rfl, Nat.le_of_ble_eq_true rfl⟩) (by decide) hgo_13 rfl hP hA (fun a h _ => hS.2.1 a h (Nat.not_le.mpr h)) hS rfl hl.1 rfl (Nat.le_of_ble_eq_true rfl) dL_law_754 ⟨Nat.le_of_ble_eq_true rfl, Nat.le_of_ble_eq_true rfl⟩ (fun r_15 g_14 H locs hw_16 hP hS => ?_)
  obtain ⟨hw_16W, hw_16f⟩ := hw_16
  refine lv_pop hx hb dL_law_757 rfl ?_
  refine lv_goto (tgt := 2069) hx hb dL_law_758 (by decide) ?_
  exact kk K g_14 _ _ ls hKO hR hw_16W hP hS hl

theorem dL_law_761 : decode cL_law 761 = .ok (.aload_n 1, 1) := by decide +kernel
theorem dL_law_762 : decode cL_law 762 = .ok (.aload_n 0, 1) := by decide +kernel
theorem dL_law_763 : decode cL_law 763 = .ok (.iload_n 3, 1) := by decide +kernel
theorem dL_law_764 : decode cL_law 764 = .ok (.iconst 1, 1) := by decide +kernel
theorem dL_law_765 : decode cL_law 765 = .ok (.iadd, 1) := by decide +kernel
theorem dL_law_766 : decode cL_law 766 = .ok (.iaload, 1) := by decide +kernel
theorem dL_law_767 : decode cL_law 767 = .ok (.invokevirtual 85, 3) := by decide +kernel
theorem dL_law_770 : decode cL_law 770 = .ok (.pop, 1) := by decide +kernel
theorem dL_law_771 : decode cL_law 771 = .ok (.aload_n 2, 1) := by decide +kernel
theorem dL_law_772 : decode cL_law 772 = .ok (.aload_n 0, 1) := by decide +kernel
theorem dL_law_773 : decode cL_law 773 = .ok (.iload_n 3, 1) := by decide +kernel
theorem dL_law_774 : decode cL_law 774 = .ok (.iconst 1, 1) := by decide +kernel
theorem dL_law_775 : decode cL_law 775 = .ok (.iadd, 1) := by decide +kernel
theorem dL_law_776 : decode cL_law 776 = .ok (.iaload, 1) := by decide +kernel
theorem dL_law_777 : decode cL_law 777 = .ok (.invokevirtual 88, 3) := by decide +kernel
theorem dL_law_780 : decode cL_law 780 = .ok (.pop, 1) := by decide +kernel
theorem dL_law_781 : decode cL_law 781 = .ok (.goto 1288, 3) := by decide +kernel
set_option maxRecDepth 20000 in
theorem mT_X11_hour : wIn lw_tbl vX11_hour := wIn.cons (List.mem_of_getElem? (i := 843) (by decide +kernel)) (wIn.app (wIn.r _ [725, 727, 13, 98, 491, 486, 836, 837, 838, 103] (by decide +kernel)) (wIn.app iT_11 (wIn.app mT_X11_isDay mT_X10_timeAt)))
theorem gL_X11_hour : GoodIn lw_tbl (wsV RL 85 RX11 yX11_hour vX11_hour) := goodIn_app (goodIn_r _ [840, 841, 842, 98] (by decide +kernel) (by decide +kernel)) (fun w h => ⟨mT_X11_hour w h, gs_X11_hour w h⟩)
set_option maxRecDepth 20000 in
theorem mT_X12_hour : wIn lw_tbl vX12_hour := wIn.cons (List.mem_of_getElem? (i := 1614) (by decide +kernel)) (wIn.app (wIn.r _ [1489, 1491, 54, 110, 1540, 1542, 61, 1607, 1609, 69] (by decide +kernel)) (wIn.app mT_X12_isDay (wIn.app mT_X12_layAll mT_X12_timeOf)))
theorem gL_X12_hour : GoodIn lw_tbl (wsV RL 88 RX12 yX12_hour vX12_hour) := goodIn_app (goodIn_r _ [1611, 1612, 1613, 110] (by decide +kernel) (by decide +kernel)) (fun w h => ⟨mT_X12_hour w h, gs_X12_hour w h⟩)
set_option maxHeartbeats 8000000 in
set_option maxRecDepth 100000 in
theorem law_c17 {p : Program} {e : Env} {s : State} {m : MethodId} {below : List Frame} {meth : Method} {c : Code} (l : Launch) {b L : Nat} {xs : Nat → Int32} {D : va_G} {cs : Nat → ClassId} {ad : Nat → Nat} {kS : kSt} {K : sK} {g : Nat → va_E} {H : Heap} {locs : List Loc} (hL : L ≤ 3072) (C0 : lw_At p s m meth c b L xs) (X : CxL p s m b meth c D cs) (Z : SX ad kS s s.heap) (hj : wJ ad 218) (hA : ∀ i, i < 218 → AL s (ad i)) (hKO : KO K) (hR : KR K) (hW : WF (shp ad K) ad cs g) (hP : va_P D vwCl (wL ad g 218) H) (hS : va_S (AL s) s.heap H locs) (ls : Array Slot) (ii : Int32) (hi0 : 0 ≤ ii.toInt) (hi1 : ii.toInt + 6 ≤ L) (hl : lv_has ls 4 [(3, .int ii), (2, .ref (ad 197)), (1, .ref (ad 0)), (0, .ref b)]) (kk : ∀ (K : sK) (g : Nat → va_E) (H : Heap) (locs : List Loc) (ls : Array Slot), KO K → KR K → WF (shp ad K) ad cs g → va_P D vwCl (wL ad g 218) H → va_S (AL s) s.heap H locs → lv_has ls 4 [(3, .int ii), (2, .ref (ad 197)), (1, .ref (ad 0)), (0, .ref b)] → W p l e room_1 s m #[Value.ref b] below meth c H locs 218 6259 (lw_Z below #[Value.ref b] s) (F0 m 2069 ls [])) : W p l e room_1 s m #[Value.ref b] below meth c H locs 218 6259 (lw_Z below #[Value.ref b] s) (F0 m 761 ls []) := by
  have hx := X.1
  have hb : c.code = cL_law := X.2.1
  obtain ⟨-, -, -, -, -, -, hX, hbl, -, -⟩ := id C0
  have hbA : ¬ AL s b := Nat.not_le.mpr hbl
  refine lv_aload_n hx hb dL_law_761 rfl (lv_at hl 2 rfl) ?_
  refine lv_aload_n hx hb dL_law_762 rfl (lv_at hl 3 rfl) ?_
  refine lv_iload_n hx hb dL_law_763 rfl (lv_at hl 0 rfl) ?_
  refine lv_iconst (v := 1) hx hb dL_law_764 (by decide) ?_
  refine lv_iadd hx hb dL_law_765 ?_
  refine lv_topi (fun z_1 ez_1 => ?_)
  have hz_1 : z_1.toInt = ii.toInt + 1 := n_add rfl (by decide : (1 : Int32).toInt = 1) ez_1 (by omega) (by omega)
  refine va_sld hx hb hX hbl hbA hS (i := z_1) (n_in (rfl : z_1.toInt = z_1.toInt) (by omega) (by omega)) dL_law_766 ?_
  refine lv_topi (fun x_2 ex_2 => ?_)
  obtain ⟨fso_3, hgo_3, -⟩ := hW.obj (i := 0) (by decide) (sh_0 ad _)
  refine s_calli (q := (RX11, TX11, 14)) (As := [.int x_2]) (rest := []) X Z (s_X11_hour l D cs ad kS K hKO hj g hW x_2) (cwV 1 X.2.2.2.2.1 gL_X11_hour rfl rfl rfl (by decide +kernel) ⟨Nat.le_of_ble_eq_true rfl, Nat.le_of_ble_eq_true rfl⟩) (by decide) hgo_3 rfl hP hA (fun a h _ => hS.2.1 a h (Nat.not_le.mpr h)) hS rfl hl.1 rfl (Nat.le_of_ble_eq_true rfl) dL_law_767 ⟨Nat.le_of_ble_eq_true rfl, Nat.le_of_ble_eq_true rfl⟩ (fun r_5 g_4 H locs hw_6 hP hS => ?_)
  rw [hw_6] at hP
  refine lv_pop hx hb dL_law_770 rfl ?_
  refine lv_aload_n hx hb dL_law_771 rfl (lv_at hl 1 rfl) ?_
  refine lv_aload_n hx hb dL_law_772 rfl (lv_at hl 3 rfl) ?_
  refine lv_iload_n hx hb dL_law_773 rfl (lv_at hl 0 rfl) ?_
  refine lv_iconst (v := 1) hx hb dL_law_774 (by decide) ?_
  refine lv_iadd hx hb dL_law_775 ?_
  refine lv_topi (fun z_7 ez_7 => ?_)
  have hz_7 : z_7.toInt = ii.toInt + 1 := n_add rfl (by decide : (1 : Int32).toInt = 1) ez_7 (by omega) (by omega)
  refine va_sld hx hb hX hbl hbA hS (i := z_7) (n_in (rfl : z_7.toInt = z_7.toInt) (by omega) (by omega)) dL_law_776 ?_
  refine lv_topi (fun x_8 ex_8 => ?_)
  obtain rfl : x_2 = x_8 := by rw [ex_2, ex_8, ez_1, ez_7]
  obtain ⟨fso_9, hgo_9, -⟩ := hW.obj (i := 197) (by decide) (sh_197 ad _)
  refine s_calli (q := (RX12, TX12, 40)) (As := [.int x_2]) (rest := []) X Z (s_X12_hour l D cs ad kS K hKO hj g hW x_2) (cwV 1 X.2.2.2.2.1 gL_X12_hour rfl rfl rfl (by decide +kernel) ⟨Nat.le_of_ble_eq_true rfl, Nat.le_of_ble_eq_true rfl⟩) (by decide) hgo_9 rfl hP hA (fun a h _ => hS.2.1 a h (Nat.not_le.mpr h)) hS rfl hl.1 rfl (Nat.le_of_ble_eq_true rfl) dL_law_777 ⟨Nat.le_of_ble_eq_true rfl, Nat.le_of_ble_eq_true rfl⟩ (fun r_11 g_10 H locs hw_12 hP hS => ?_)
  obtain ⟨hw_12W, hw_12f⟩ := hw_12
  refine lv_pop hx hb dL_law_780 rfl ?_
  refine lv_goto (tgt := 2069) hx hb dL_law_781 (by decide) ?_
  exact kk K g_10 _ _ ls hKO hR hw_12W hP hS hl

theorem dL_law_784 : decode cL_law 784 = .ok (.aload_n 1, 1) := by decide +kernel
theorem dL_law_785 : decode cL_law 785 = .ok (.aload_n 0, 1) := by decide +kernel
theorem dL_law_786 : decode cL_law 786 = .ok (.iload_n 3, 1) := by decide +kernel
theorem dL_law_787 : decode cL_law 787 = .ok (.iconst 1, 1) := by decide +kernel
theorem dL_law_788 : decode cL_law 788 = .ok (.iadd, 1) := by decide +kernel
theorem dL_law_789 : decode cL_law 789 = .ok (.iaload, 1) := by decide +kernel
theorem dL_law_790 : decode cL_law 790 = .ok (.aload_n 0, 1) := by decide +kernel
theorem dL_law_791 : decode cL_law 791 = .ok (.iload_n 3, 1) := by decide +kernel
theorem dL_law_792 : decode cL_law 792 = .ok (.iconst 2, 1) := by decide +kernel
theorem dL_law_793 : decode cL_law 793 = .ok (.iadd, 1) := by decide +kernel
theorem dL_law_794 : decode cL_law 794 = .ok (.iaload, 1) := by decide +kernel
theorem dL_law_795 : decode cL_law 795 = .ok (.invokevirtual 89, 3) := by decide +kernel
theorem dL_law_798 : decode cL_law 798 = .ok (.pop, 1) := by decide +kernel
theorem dL_law_799 : decode cL_law 799 = .ok (.aload_n 2, 1) := by decide +kernel
theorem dL_law_800 : decode cL_law 800 = .ok (.aload_n 0, 1) := by decide +kernel
theorem dL_law_801 : decode cL_law 801 = .ok (.iload_n 3, 1) := by decide +kernel
theorem dL_law_802 : decode cL_law 802 = .ok (.iconst 1, 1) := by decide +kernel
theorem dL_law_803 : decode cL_law 803 = .ok (.iadd, 1) := by decide +kernel
theorem dL_law_804 : decode cL_law 804 = .ok (.iaload, 1) := by decide +kernel
theorem dL_law_805 : decode cL_law 805 = .ok (.aload_n 0, 1) := by decide +kernel
theorem dL_law_806 : decode cL_law 806 = .ok (.iload_n 3, 1) := by decide +kernel
theorem dL_law_807 : decode cL_law 807 = .ok (.iconst 2, 1) := by decide +kernel
theorem dL_law_808 : decode cL_law 808 = .ok (.iadd, 1) := by decide +kernel
theorem dL_law_809 : decode cL_law 809 = .ok (.iaload, 1) := by decide +kernel
theorem dL_law_810 : decode cL_law 810 = .ok (.invokevirtual 92, 3) := by decide +kernel
theorem dL_law_813 : decode cL_law 813 = .ok (.pop, 1) := by decide +kernel
theorem dL_law_814 : decode cL_law 814 = .ok (.goto 1255, 3) := by decide +kernel
set_option maxRecDepth 20000 in
theorem mT_X10_daysOfOneTime : wIn lw_tbl vX10_daysOfOneTime := wIn.cons (List.mem_of_getElem? (i := 851) (by decide +kernel)) (wIn.app (wIn.r _ [209, 852, 837, 838, 103] (by decide +kernel)) (wIn.app iT_6 mT_X10_timeAt))
set_option maxRecDepth 20000 in
theorem mT_X11_meet : wIn lw_tbl vX11_meet := wIn.cons (List.mem_of_getElem? (i := 847) (by decide +kernel)) (wIn.app (wIn.r _ [733, 735, 14, 98, 491, 486, 848, 849, 850, 103] (by decide +kernel)) (wIn.app iT_11 (wIn.app mT_X11_isEave mT_X10_daysOfOneTime)))
theorem gL_X11_meet : GoodIn lw_tbl (wsV RL 89 RX11 yX11_meet vX11_meet) := goodIn_app (goodIn_r _ [844, 845, 846, 98] (by decide +kernel) (by decide +kernel)) (fun w h => ⟨mT_X11_meet w h, gs_X11_meet w h⟩)
set_option maxRecDepth 20000 in
theorem mT_X12_meetOf : wIn lw_tbl vX12_meetOf := wIn.cons (List.mem_of_getElem? (i := 1622) (by decide +kernel)) (wIn.app (wIn.r _ [1278, 1607, 1609, 69, 110] (by decide +kernel)) (wIn.app iT_12 mT_X12_timeOf))
set_option maxRecDepth 20000 in
theorem mT_X12_meet : wIn lw_tbl vX12_meet := wIn.cons (List.mem_of_getElem? (i := 1618) (by decide +kernel)) (wIn.app (wIn.r _ [1501, 1503, 56, 110, 1540, 1542, 61, 1619, 1621, 70] (by decide +kernel)) (wIn.app mT_X12_isEave (wIn.app mT_X12_layAll mT_X12_meetOf)))
theorem gL_X12_meet : GoodIn lw_tbl (wsV RL 92 RX12 yX12_meet vX12_meet) := goodIn_app (goodIn_r _ [1615, 1616, 1617, 110] (by decide +kernel) (by decide +kernel)) (fun w h => ⟨mT_X12_meet w h, gs_X12_meet w h⟩)
set_option maxHeartbeats 8000000 in
set_option maxRecDepth 100000 in
theorem law_c18 {p : Program} {e : Env} {s : State} {m : MethodId} {below : List Frame} {meth : Method} {c : Code} (l : Launch) {b L : Nat} {xs : Nat → Int32} {D : va_G} {cs : Nat → ClassId} {ad : Nat → Nat} {kS : kSt} {K : sK} {g : Nat → va_E} {H : Heap} {locs : List Loc} (hL : L ≤ 3072) (C0 : lw_At p s m meth c b L xs) (X : CxL p s m b meth c D cs) (Z : SX ad kS s s.heap) (hj : wJ ad 218) (hA : ∀ i, i < 218 → AL s (ad i)) (hKO : KO K) (hR : KR K) (hW : WF (shp ad K) ad cs g) (hP : va_P D vwCl (wL ad g 218) H) (hS : va_S (AL s) s.heap H locs) (ls : Array Slot) (ii : Int32) (hi0 : 0 ≤ ii.toInt) (hi1 : ii.toInt + 6 ≤ L) (hl : lv_has ls 4 [(3, .int ii), (2, .ref (ad 197)), (1, .ref (ad 0)), (0, .ref b)]) (kk : ∀ (K : sK) (g : Nat → va_E) (H : Heap) (locs : List Loc) (ls : Array Slot), KO K → KR K → WF (shp ad K) ad cs g → va_P D vwCl (wL ad g 218) H → va_S (AL s) s.heap H locs → lv_has ls 4 [(3, .int ii), (2, .ref (ad 197)), (1, .ref (ad 0)), (0, .ref b)] → W p l e room_1 s m #[Value.ref b] below meth c H locs 218 6259 (lw_Z below #[Value.ref b] s) (F0 m 2069 ls [])) : W p l e room_1 s m #[Value.ref b] below meth c H locs 218 6259 (lw_Z below #[Value.ref b] s) (F0 m 784 ls []) := by
  have hx := X.1
  have hb : c.code = cL_law := X.2.1
  obtain ⟨-, -, -, -, -, -, hX, hbl, -, -⟩ := id C0
  have hbA : ¬ AL s b := Nat.not_le.mpr hbl
  refine lv_aload_n hx hb dL_law_784 rfl (lv_at hl 2 rfl) ?_
  refine lv_aload_n hx hb dL_law_785 rfl (lv_at hl 3 rfl) ?_
  refine lv_iload_n hx hb dL_law_786 rfl (lv_at hl 0 rfl) ?_
  refine lv_iconst (v := 1) hx hb dL_law_787 (by decide) ?_
  refine lv_iadd hx hb dL_law_788 ?_
  refine lv_topi (fun z_1 ez_1 => ?_)
  have hz_1 : z_1.toInt = ii.toInt + 1 := n_add rfl (by decide : (1 : Int32).toInt = 1) ez_1 (by omega) (by omega)
  refine va_sld hx hb hX hbl hbA hS (i := z_1) (n_in (rfl : z_1.toInt = z_1.toInt) (by omega) (by omega)) dL_law_789 ?_
  refine lv_topi (fun x_2 ex_2 => ?_)
  refine lv_aload_n hx hb dL_law_790 rfl (lv_at hl 3 rfl) ?_
  refine lv_iload_n hx hb dL_law_791 rfl (lv_at hl 0 rfl) ?_
  refine lv_iconst (v := 2) hx hb dL_law_792 (by decide) ?_
  refine lv_iadd hx hb dL_law_793 ?_
  refine lv_topi (fun z_3 ez_3 => ?_)
  have hz_3 : z_3.toInt = ii.toInt + 2 := n_add rfl (by decide : (2 : Int32).toInt = 2) ez_3 (by omega) (by omega)
  refine va_sld hx hb hX hbl hbA hS (i := z_3) (n_in (rfl : z_3.toInt = z_3.toInt) (by omega) (by omega)) dL_law_794 ?_
  refine lv_topi (fun x_4 ex_4 => ?_)
  obtain ⟨fso_5, hgo_5, -⟩ := hW.obj (i := 0) (by decide) (sh_0 ad _)
  refine s_calli (q := (RX11, TX11, 14)) (As := [.int x_2, .int x_4]) (rest := []) X Z (s_X11_meet l D cs ad kS K hKO hj g hW x_2 x_4) (cwV 2 X.2.2.2.2.1 gL_X11_meet rfl rfl rfl (by decide +kernel) ⟨Nat.le_of_ble_eq_true rfl, Nat.le_of_ble_eq_true rfl⟩) (by decide) hgo_5 rfl hP hA (fun a h _ => hS.2.1 a h (Nat.not_le.mpr h)) hS rfl hl.1 rfl (Nat.le_of_ble_eq_true rfl) dL_law_795 ⟨Nat.le_of_ble_eq_true rfl, Nat.le_of_ble_eq_true rfl⟩ (fun r_7 g_6 H locs hw_8 hP hS => ?_)
  rw [hw_8] at hP
  refine lv_pop hx hb dL_law_798 rfl ?_
  refine lv_aload_n hx hb dL_law_799 rfl (lv_at hl 1 rfl) ?_
  refine lv_aload_n hx hb dL_law_800 rfl (lv_at hl 3 rfl) ?_
  refine lv_iload_n hx hb dL_law_801 rfl (lv_at hl 0 rfl) ?_
  refine lv_iconst (v := 1) hx hb dL_law_802 (by decide) ?_
  refine lv_iadd hx hb dL_law_803 ?_
  refine lv_topi (fun z_9 ez_9 => ?_)
  have hz_9 : z_9.toInt = ii.toInt + 1 := n_add rfl (by decide : (1 : Int32).toInt = 1) ez_9 (by omega) (by omega)
  refine va_sld hx hb hX hbl hbA hS (i := z_9) (n_in (rfl : z_9.toInt = z_9.toInt) (by omega) (by omega)) dL_law_804 ?_
  refine lv_topi (fun x_10 ex_10 => ?_)
  obtain rfl : x_2 = x_10 := by rw [ex_2, ex_10, ez_1, ez_9]
  refine lv_aload_n hx hb dL_law_805 rfl (lv_at hl 3 rfl) ?_
  refine lv_iload_n hx hb dL_law_806 rfl (lv_at hl 0 rfl) ?_
  refine lv_iconst (v := 2) hx hb dL_law_807 (by decide) ?_
  refine lv_iadd hx hb dL_law_808 ?_
  refine lv_topi (fun z_11 ez_11 => ?_)
  have hz_11 : z_11.toInt = ii.toInt + 2 := n_add rfl (by decide : (2 : Int32).toInt = 2) ez_11 (by omega) (by omega)
  refine va_sld hx hb hX hbl hbA hS (i := z_11) (n_in (rfl : z_11.toInt = z_11.toInt) (by omega) (by omega)) dL_law_809 ?_
  refine lv_topi (fun x_12 ex_12 => ?_)
  obtain rfl : x_4 = x_12 := by rw [ex_4, ex_12, ez_3, ez_11]
  obtain ⟨fso_13, hgo_13, -⟩ := hW.obj (i := 197) (by decide) (sh_197 ad _)
  refine s_calli (q := (RX12, TX12, 40)) (As := [.int x_2, .int x_4]) (rest := []) X Z (s_X12_meet l D cs ad kS K hKO hj g hW x_2 x_4) (cwV 2 X.2.2.2.2.1 gL_X12_meet rfl rfl rfl (by decide +kernel) ⟨Nat.le_of_ble_eq_true rfl, Nat.le_of_ble_eq_true rfl⟩) (by decide) hgo_13 rfl hP hA (fun a h _ => hS.2.1 a h (Nat.not_le.mpr h)) hS rfl hl.1 rfl (Nat.le_of_ble_eq_true rfl) dL_law_810 ⟨Nat.le_of_ble_eq_true rfl, Nat.le_of_ble_eq_true rfl⟩ (fun r_15 g_14 H locs hw_16 hP hS => ?_)
  obtain ⟨hw_16W, hw_16f⟩ := hw_16
  refine lv_pop hx hb dL_law_813 rfl ?_
  refine lv_goto (tgt := 2069) hx hb dL_law_814 (by decide) ?_
  exact kk K g_14 _ _ ls hKO hR hw_16W hP hS hl

theorem dL_law_817 : decode cL_law 817 = .ok (.aload_n 1, 1) := by decide +kernel
theorem dL_law_818 : decode cL_law 818 = .ok (.aload_n 0, 1) := by decide +kernel
theorem dL_law_819 : decode cL_law 819 = .ok (.iload_n 3, 1) := by decide +kernel
theorem dL_law_820 : decode cL_law 820 = .ok (.iconst 1, 1) := by decide +kernel
theorem dL_law_821 : decode cL_law 821 = .ok (.iadd, 1) := by decide +kernel
theorem dL_law_822 : decode cL_law 822 = .ok (.iaload, 1) := by decide +kernel
theorem dL_law_823 : decode cL_law 823 = .ok (.aload_n 0, 1) := by decide +kernel
theorem dL_law_824 : decode cL_law 824 = .ok (.iload_n 3, 1) := by decide +kernel
theorem dL_law_825 : decode cL_law 825 = .ok (.iconst 2, 1) := by decide +kernel
theorem dL_law_826 : decode cL_law 826 = .ok (.iadd, 1) := by decide +kernel
theorem dL_law_827 : decode cL_law 827 = .ok (.iaload, 1) := by decide +kernel
theorem dL_law_828 : decode cL_law 828 = .ok (.invokevirtual 93, 3) := by decide +kernel
theorem dL_law_831 : decode cL_law 831 = .ok (.pop, 1) := by decide +kernel
theorem dL_law_832 : decode cL_law 832 = .ok (.aload_n 2, 1) := by decide +kernel
theorem dL_law_833 : decode cL_law 833 = .ok (.aload_n 0, 1) := by decide +kernel
theorem dL_law_834 : decode cL_law 834 = .ok (.iload_n 3, 1) := by decide +kernel
theorem dL_law_835 : decode cL_law 835 = .ok (.iconst 1, 1) := by decide +kernel
theorem dL_law_836 : decode cL_law 836 = .ok (.iadd, 1) := by decide +kernel
theorem dL_law_837 : decode cL_law 837 = .ok (.iaload, 1) := by decide +kernel
theorem dL_law_838 : decode cL_law 838 = .ok (.aload_n 0, 1) := by decide +kernel
theorem dL_law_839 : decode cL_law 839 = .ok (.iload_n 3, 1) := by decide +kernel
theorem dL_law_840 : decode cL_law 840 = .ok (.iconst 2, 1) := by decide +kernel
theorem dL_law_841 : decode cL_law 841 = .ok (.iadd, 1) := by decide +kernel
theorem dL_law_842 : decode cL_law 842 = .ok (.iaload, 1) := by decide +kernel
theorem dL_law_843 : decode cL_law 843 = .ok (.invokevirtual 96, 3) := by decide +kernel
theorem dL_law_846 : decode cL_law 846 = .ok (.pop, 1) := by decide +kernel
theorem dL_law_847 : decode cL_law 847 = .ok (.goto 1222, 3) := by decide +kernel
set_option maxRecDepth 20000 in
theorem mT_X11_apart : wIn lw_tbl vX11_apart := wIn.cons (List.mem_of_getElem? (i := 856) (by decide +kernel)) (wIn.app (wIn.r _ [733, 735, 14, 98, 486, 212, 491, 836, 837, 838, 103, 857, 858, 115, 859, 860, 650, 651, 782, 783, 784] (by decide +kernel)) (wIn.app iT_11 (wIn.app iT_6 (wIn.app mT_X11_isEave mT_X10_timeAt))))
theorem gL_X11_apart : GoodIn lw_tbl (wsV RL 93 RX11 yX11_apart vX11_apart) := goodIn_app (goodIn_r _ [853, 854, 855, 98] (by decide +kernel) (by decide +kernel)) (fun w h => ⟨mT_X11_apart w h, gs_X11_apart w h⟩)
set_option maxRecDepth 20000 in
theorem mT_X12_apart : wIn lw_tbl vX12_apart := wIn.cons (List.mem_of_getElem? (i := 1626) (by decide +kernel)) (wIn.app (wIn.r _ [1501, 1503, 56, 110, 1540, 1542, 61, 1278, 1607, 1609, 69, 1627, 858, 115, 859, 1423, 650, 651, 1571, 783, 784] (by decide +kernel)) (wIn.app iT_12 (wIn.app mT_X12_isEave (wIn.app mT_X12_layAll mT_X12_timeOf))))
theorem gL_X12_apart : GoodIn lw_tbl (wsV RL 96 RX12 yX12_apart vX12_apart) := goodIn_app (goodIn_r _ [1623, 1624, 1625, 110] (by decide +kernel) (by decide +kernel)) (fun w h => ⟨mT_X12_apart w h, gs_X12_apart w h⟩)
set_option maxHeartbeats 8000000 in
set_option maxRecDepth 100000 in
theorem law_c19 {p : Program} {e : Env} {s : State} {m : MethodId} {below : List Frame} {meth : Method} {c : Code} (l : Launch) {b L : Nat} {xs : Nat → Int32} {D : va_G} {cs : Nat → ClassId} {ad : Nat → Nat} {kS : kSt} {K : sK} {g : Nat → va_E} {H : Heap} {locs : List Loc} (hL : L ≤ 3072) (C0 : lw_At p s m meth c b L xs) (X : CxL p s m b meth c D cs) (Z : SX ad kS s s.heap) (hj : wJ ad 218) (hA : ∀ i, i < 218 → AL s (ad i)) (hKO : KO K) (hR : KR K) (hW : WF (shp ad K) ad cs g) (hP : va_P D vwCl (wL ad g 218) H) (hS : va_S (AL s) s.heap H locs) (ls : Array Slot) (ii : Int32) (hi0 : 0 ≤ ii.toInt) (hi1 : ii.toInt + 6 ≤ L) (hl : lv_has ls 4 [(3, .int ii), (2, .ref (ad 197)), (1, .ref (ad 0)), (0, .ref b)]) (kk : ∀ (K : sK) (g : Nat → va_E) (H : Heap) (locs : List Loc) (ls : Array Slot), KO K → KR K → WF (shp ad K) ad cs g → va_P D vwCl (wL ad g 218) H → va_S (AL s) s.heap H locs → lv_has ls 4 [(3, .int ii), (2, .ref (ad 197)), (1, .ref (ad 0)), (0, .ref b)] → W p l e room_1 s m #[Value.ref b] below meth c H locs 218 6259 (lw_Z below #[Value.ref b] s) (F0 m 2069 ls [])) : W p l e room_1 s m #[Value.ref b] below meth c H locs 218 6259 (lw_Z below #[Value.ref b] s) (F0 m 817 ls []) := by
  have hx := X.1
  have hb : c.code = cL_law := X.2.1
  obtain ⟨-, -, -, -, -, -, hX, hbl, -, -⟩ := id C0
  have hbA : ¬ AL s b := Nat.not_le.mpr hbl
  refine lv_aload_n hx hb dL_law_817 rfl (lv_at hl 2 rfl) ?_
  refine lv_aload_n hx hb dL_law_818 rfl (lv_at hl 3 rfl) ?_
  refine lv_iload_n hx hb dL_law_819 rfl (lv_at hl 0 rfl) ?_
  refine lv_iconst (v := 1) hx hb dL_law_820 (by decide) ?_
  refine lv_iadd hx hb dL_law_821 ?_
  refine lv_topi (fun z_1 ez_1 => ?_)
  have hz_1 : z_1.toInt = ii.toInt + 1 := n_add rfl (by decide : (1 : Int32).toInt = 1) ez_1 (by omega) (by omega)
  refine va_sld hx hb hX hbl hbA hS (i := z_1) (n_in (rfl : z_1.toInt = z_1.toInt) (by omega) (by omega)) dL_law_822 ?_
  refine lv_topi (fun x_2 ex_2 => ?_)
  refine lv_aload_n hx hb dL_law_823 rfl (lv_at hl 3 rfl) ?_
  refine lv_iload_n hx hb dL_law_824 rfl (lv_at hl 0 rfl) ?_
  refine lv_iconst (v := 2) hx hb dL_law_825 (by decide) ?_
  refine lv_iadd hx hb dL_law_826 ?_
  refine lv_topi (fun z_3 ez_3 => ?_)
  have hz_3 : z_3.toInt = ii.toInt + 2 := n_add rfl (by decide : (2 : Int32).toInt = 2) ez_3 (by omega) (by omega)
  refine va_sld hx hb hX hbl hbA hS (i := z_3) (n_in (rfl : z_3.toInt = z_3.toInt) (by omega) (by omega)) dL_law_827 ?_
  refine lv_topi (fun x_4 ex_4 => ?_)
  obtain ⟨fso_5, hgo_5, -⟩ := hW.obj (i := 0) (by decide) (sh_0 ad _)
  refine s_calli (q := (RX11, TX11, 14)) (As := [.int x_2, .int x_4]) (rest := []) X Z (s_X11_apart l D cs ad kS K hKO hj g hW x_2 x_4) (cwV 2 X.2.2.2.2.1 gL_X11_apart rfl rfl rfl (by decide +kernel) ⟨Nat.le_of_ble_eq_true rfl, Nat.le_of_ble_eq_true rfl⟩) (by decide) hgo_5 rfl hP hA (fun a h _ => hS.2.1 a h (Nat.not_le.mpr h)) hS rfl hl.1 rfl (Nat.le_of_ble_eq_true rfl) dL_law_828 ⟨Nat.le_of_ble_eq_true rfl, Nat.le_of_ble_eq_true rfl⟩ (fun r_7 g_6 H locs hw_8 hP hS => ?_)
  rw [hw_8] at hP
  refine lv_pop hx hb dL_law_831 rfl ?_
  refine lv_aload_n hx hb dL_law_832 rfl (lv_at hl 1 rfl) ?_
  refine lv_aload_n hx hb dL_law_833 rfl (lv_at hl 3 rfl) ?_
  refine lv_iload_n hx hb dL_law_834 rfl (lv_at hl 0 rfl) ?_
  refine lv_iconst (v := 1) hx hb dL_law_835 (by decide) ?_
  refine lv_iadd hx hb dL_law_836 ?_
  refine lv_topi (fun z_9 ez_9 => ?_)
  have hz_9 : z_9.toInt = ii.toInt + 1 := n_add rfl (by decide : (1 : Int32).toInt = 1) ez_9 (by omega) (by omega)
  refine va_sld hx hb hX hbl hbA hS (i := z_9) (n_in (rfl : z_9.toInt = z_9.toInt) (by omega) (by omega)) dL_law_837 ?_
  refine lv_topi (fun x_10 ex_10 => ?_)
  obtain rfl : x_2 = x_10 := by rw [ex_2, ex_10, ez_1, ez_9]
  refine lv_aload_n hx hb dL_law_838 rfl (lv_at hl 3 rfl) ?_
  refine lv_iload_n hx hb dL_law_839 rfl (lv_at hl 0 rfl) ?_
  refine lv_iconst (v := 2) hx hb dL_law_840 (by decide) ?_
  refine lv_iadd hx hb dL_law_841 ?_
  refine lv_topi (fun z_11 ez_11 => ?_)
  have hz_11 : z_11.toInt = ii.toInt + 2 := n_add rfl (by decide : (2 : Int32).toInt = 2) ez_11 (by omega) (by omega)
  refine va_sld hx hb hX hbl hbA hS (i := z_11) (n_in (rfl : z_11.toInt = z_11.toInt) (by omega) (by omega)) dL_law_842 ?_
  refine lv_topi (fun x_12 ex_12 => ?_)
  obtain rfl : x_4 = x_12 := by rw [ex_4, ex_12, ez_3, ez_11]
  obtain ⟨fso_13, hgo_13, -⟩ := hW.obj (i := 197) (by decide) (sh_197 ad _)
  refine s_calli (q := (RX12, TX12, 40)) (As := [.int x_2, .int x_4]) (rest := []) X Z (s_X12_apart l D cs ad kS K hKO hj g hW x_2 x_4) (cwV 2 X.2.2.2.2.1 gL_X12_apart rfl rfl rfl (by decide +kernel) ⟨Nat.le_of_ble_eq_true rfl, Nat.le_of_ble_eq_true rfl⟩) (by decide) hgo_13 rfl hP hA (fun a h _ => hS.2.1 a h (Nat.not_le.mpr h)) hS rfl hl.1 rfl (Nat.le_of_ble_eq_true rfl) dL_law_843 ⟨Nat.le_of_ble_eq_true rfl, Nat.le_of_ble_eq_true rfl⟩ (fun r_15 g_14 H locs hw_16 hP hS => ?_)
  obtain ⟨hw_16W, hw_16f⟩ := hw_16
  refine lv_pop hx hb dL_law_846 rfl ?_
  refine lv_goto (tgt := 2069) hx hb dL_law_847 (by decide) ?_
  exact kk K g_14 _ _ ls hKO hR hw_16W hP hS hl

theorem dL_law_850 : decode cL_law 850 = .ok (.aload_n 1, 1) := by decide +kernel
theorem dL_law_851 : decode cL_law 851 = .ok (.aload_n 0, 1) := by decide +kernel
theorem dL_law_852 : decode cL_law 852 = .ok (.iload_n 3, 1) := by decide +kernel
theorem dL_law_853 : decode cL_law 853 = .ok (.iconst 1, 1) := by decide +kernel
theorem dL_law_854 : decode cL_law 854 = .ok (.iadd, 1) := by decide +kernel
theorem dL_law_855 : decode cL_law 855 = .ok (.iaload, 1) := by decide +kernel
theorem dL_law_856 : decode cL_law 856 = .ok (.invokevirtual 97, 3) := by decide +kernel
theorem dL_law_859 : decode cL_law 859 = .ok (.pop, 1) := by decide +kernel
theorem dL_law_860 : decode cL_law 860 = .ok (.aload_n 2, 1) := by decide +kernel
theorem dL_law_861 : decode cL_law 861 = .ok (.aload_n 0, 1) := by decide +kernel
theorem dL_law_862 : decode cL_law 862 = .ok (.iload_n 3, 1) := by decide +kernel
theorem dL_law_863 : decode cL_law 863 = .ok (.iconst 1, 1) := by decide +kernel
theorem dL_law_864 : decode cL_law 864 = .ok (.iadd, 1) := by decide +kernel
theorem dL_law_865 : decode cL_law 865 = .ok (.iaload, 1) := by decide +kernel
theorem dL_law_866 : decode cL_law 866 = .ok (.invokevirtual 100, 3) := by decide +kernel
theorem dL_law_869 : decode cL_law 869 = .ok (.pop, 1) := by decide +kernel
theorem dL_law_870 : decode cL_law 870 = .ok (.goto 1199, 3) := by decide +kernel
set_option maxRecDepth 20000 in
theorem mT_X10_lateness : wIn lw_tbl vX10_lateness := wIn.cons (List.mem_of_getElem? (i := 872) (by decide +kernel)) (wIn.app (wIn.r _ [219, 262, 266, 351, 270] (by decide +kernel)) (wIn.app iT_6 iT_10))
set_option maxRecDepth 20000 in
theorem mT_X11_late : wIn lw_tbl vX11_late := wIn.cons (List.mem_of_getElem? (i := 868) (by decide +kernel)) (wIn.app (wIn.r _ [750, 752, 16, 98, 491, 486, 869, 870, 871, 103] (by decide +kernel)) (wIn.app iT_11 (wIn.app mT_X11_isWork mT_X10_lateness)))
theorem gL_X11_late : GoodIn lw_tbl (wsV RL 97 RX11 yX11_late vX11_late) := goodIn_app (goodIn_r _ [865, 866, 867, 98] (by decide +kernel) (by decide +kernel)) (fun w h => ⟨mT_X11_late w h, gs_X11_late w h⟩)
set_option maxRecDepth 20000 in
theorem mT_X12_lateOf : wIn lw_tbl vX12_lateOf := wIn.cons (List.mem_of_getElem? (i := 1635) (by decide +kernel)) (wIn.app (wIn.r _ [1262, 1520, 1522, 59, 110, 1277] (by decide +kernel)) (wIn.app iT_12 mT_X12_of))
set_option maxRecDepth 20000 in
theorem mT_X12_late : wIn lw_tbl vX12_late := wIn.cons (List.mem_of_getElem? (i := 1631) (by decide +kernel)) (wIn.app (wIn.r _ [1528, 1530, 60, 110, 1540, 1542, 61, 1632, 1634, 71] (by decide +kernel)) (wIn.app mT_X12_isWork (wIn.app mT_X12_layAll mT_X12_lateOf)))
theorem gL_X12_late : GoodIn lw_tbl (wsV RL 100 RX12 yX12_late vX12_late) := goodIn_app (goodIn_r _ [1628, 1629, 1630, 110] (by decide +kernel) (by decide +kernel)) (fun w h => ⟨mT_X12_late w h, gs_X12_late w h⟩)
set_option maxHeartbeats 8000000 in
set_option maxRecDepth 100000 in
theorem law_c20 {p : Program} {e : Env} {s : State} {m : MethodId} {below : List Frame} {meth : Method} {c : Code} (l : Launch) {b L : Nat} {xs : Nat → Int32} {D : va_G} {cs : Nat → ClassId} {ad : Nat → Nat} {kS : kSt} {K : sK} {g : Nat → va_E} {H : Heap} {locs : List Loc} (hL : L ≤ 3072) (C0 : lw_At p s m meth c b L xs) (X : CxL p s m b meth c D cs) (Z : SX ad kS s s.heap) (hj : wJ ad 218) (hA : ∀ i, i < 218 → AL s (ad i)) (hKO : KO K) (hR : KR K) (hW : WF (shp ad K) ad cs g) (hP : va_P D vwCl (wL ad g 218) H) (hS : va_S (AL s) s.heap H locs) (ls : Array Slot) (ii : Int32) (hi0 : 0 ≤ ii.toInt) (hi1 : ii.toInt + 6 ≤ L) (hl : lv_has ls 4 [(3, .int ii), (2, .ref (ad 197)), (1, .ref (ad 0)), (0, .ref b)]) (kk : ∀ (K : sK) (g : Nat → va_E) (H : Heap) (locs : List Loc) (ls : Array Slot), KO K → KR K → WF (shp ad K) ad cs g → va_P D vwCl (wL ad g 218) H → va_S (AL s) s.heap H locs → lv_has ls 4 [(3, .int ii), (2, .ref (ad 197)), (1, .ref (ad 0)), (0, .ref b)] → W p l e room_1 s m #[Value.ref b] below meth c H locs 218 6259 (lw_Z below #[Value.ref b] s) (F0 m 2069 ls [])) : W p l e room_1 s m #[Value.ref b] below meth c H locs 218 6259 (lw_Z below #[Value.ref b] s) (F0 m 850 ls []) := by
  have hx := X.1
  have hb : c.code = cL_law := X.2.1
  obtain ⟨-, -, -, -, -, -, hX, hbl, -, -⟩ := id C0
  have hbA : ¬ AL s b := Nat.not_le.mpr hbl
  refine lv_aload_n hx hb dL_law_850 rfl (lv_at hl 2 rfl) ?_
  refine lv_aload_n hx hb dL_law_851 rfl (lv_at hl 3 rfl) ?_
  refine lv_iload_n hx hb dL_law_852 rfl (lv_at hl 0 rfl) ?_
  refine lv_iconst (v := 1) hx hb dL_law_853 (by decide) ?_
  refine lv_iadd hx hb dL_law_854 ?_
  refine lv_topi (fun z_1 ez_1 => ?_)
  have hz_1 : z_1.toInt = ii.toInt + 1 := n_add rfl (by decide : (1 : Int32).toInt = 1) ez_1 (by omega) (by omega)
  refine va_sld hx hb hX hbl hbA hS (i := z_1) (n_in (rfl : z_1.toInt = z_1.toInt) (by omega) (by omega)) dL_law_855 ?_
  refine lv_topi (fun x_2 ex_2 => ?_)
  obtain ⟨fso_3, hgo_3, -⟩ := hW.obj (i := 0) (by decide) (sh_0 ad _)
  refine s_calli (q := (RX11, TX11, 14)) (As := [.int x_2]) (rest := []) X Z (s_X11_late l D cs ad kS K hKO hj g hW x_2) (cwV 1 X.2.2.2.2.1 gL_X11_late rfl rfl rfl (by decide +kernel) ⟨Nat.le_of_ble_eq_true rfl, Nat.le_of_ble_eq_true rfl⟩) (by decide) hgo_3 rfl hP hA (fun a h _ => hS.2.1 a h (Nat.not_le.mpr h)) hS rfl hl.1 rfl (Nat.le_of_ble_eq_true rfl) dL_law_856 ⟨Nat.le_of_ble_eq_true rfl, Nat.le_of_ble_eq_true rfl⟩ (fun r_5 g_4 H locs hw_6 hP hS => ?_)
  rw [hw_6] at hP
  refine lv_pop hx hb dL_law_859 rfl ?_
  refine lv_aload_n hx hb dL_law_860 rfl (lv_at hl 1 rfl) ?_
  refine lv_aload_n hx hb dL_law_861 rfl (lv_at hl 3 rfl) ?_
  refine lv_iload_n hx hb dL_law_862 rfl (lv_at hl 0 rfl) ?_
  refine lv_iconst (v := 1) hx hb dL_law_863 (by decide) ?_
  refine lv_iadd hx hb dL_law_864 ?_
  refine lv_topi (fun z_7 ez_7 => ?_)
  have hz_7 : z_7.toInt = ii.toInt + 1 := n_add rfl (by decide : (1 : Int32).toInt = 1) ez_7 (by omega) (by omega)
  refine va_sld hx hb hX hbl hbA hS (i := z_7) (n_in (rfl : z_7.toInt = z_7.toInt) (by omega) (by omega)) dL_law_865 ?_
  refine lv_topi (fun x_8 ex_8 => ?_)
  obtain rfl : x_2 = x_8 := by rw [ex_2, ex_8, ez_1, ez_7]
  obtain ⟨fso_9, hgo_9, -⟩ := hW.obj (i := 197) (by decide) (sh_197 ad _)
  refine s_calli (q := (RX12, TX12, 40)) (As := [.int x_2]) (rest := []) X Z (s_X12_late l D cs ad kS K hKO hj g hW x_2) (cwV 1 X.2.2.2.2.1 gL_X12_late rfl rfl rfl (by decide +kernel) ⟨Nat.le_of_ble_eq_true rfl, Nat.le_of_ble_eq_true rfl⟩) (by decide) hgo_9 rfl hP hA (fun a h _ => hS.2.1 a h (Nat.not_le.mpr h)) hS rfl hl.1 rfl (Nat.le_of_ble_eq_true rfl) dL_law_866 ⟨Nat.le_of_ble_eq_true rfl, Nat.le_of_ble_eq_true rfl⟩ (fun r_11 g_10 H locs hw_12 hP hS => ?_)
  obtain ⟨hw_12W, hw_12f⟩ := hw_12
  refine lv_pop hx hb dL_law_869 rfl ?_
  refine lv_goto (tgt := 2069) hx hb dL_law_870 (by decide) ?_
  exact kk K g_10 _ _ ls hKO hR hw_12W hP hS hl

theorem dL_law_873 : decode cL_law 873 = .ok (.aload_n 1, 1) := by decide +kernel
theorem dL_law_874 : decode cL_law 874 = .ok (.invokevirtual 101, 3) := by decide +kernel
theorem dL_law_877 : decode cL_law 877 = .ok (.pop, 1) := by decide +kernel
theorem dL_law_878 : decode cL_law 878 = .ok (.aload_n 2, 1) := by decide +kernel
theorem dL_law_879 : decode cL_law 879 = .ok (.invokevirtual 104, 3) := by decide +kernel
theorem dL_law_882 : decode cL_law 882 = .ok (.pop, 1) := by decide +kernel
theorem dL_law_883 : decode cL_law 883 = .ok (.goto 1186, 3) := by decide +kernel
set_option maxRecDepth 20000 in
theorem mT_X11_lates : wIn lw_tbl vX11_lates := wIn.cons (List.mem_of_getElem? (i := 876) (by decide +kernel)) (wIn.app (wIn.r _ [810, 812, 17, 98, 486, 229, 491, 869, 870, 871, 103] (by decide +kernel)) (wIn.app iT_11 (wIn.app iT_6 (wIn.app mT_X11_isTold mT_X10_lateness))))
theorem gL_X11_lates : GoodIn lw_tbl (wsV RL 101 RX11 yX11_lates vX11_lates) := goodIn_app (goodIn_r _ [873, 874, 875, 98] (by decide +kernel) (by decide +kernel)) (fun w h => ⟨mT_X11_lates w h, gs_X11_lates w h⟩)
set_option maxRecDepth 20000 in
theorem mT_X12_lates : wIn lw_tbl vX12_lates := wIn.cons (List.mem_of_getElem? (i := 1639) (by decide +kernel)) (wIn.app (wIn.r _ [1596, 1598, 68, 110, 1540, 1542, 61, 1262, 1632, 1634, 71] (by decide +kernel)) (wIn.app iT_12 (wIn.app mT_X12_isStreet (wIn.app mT_X12_layAll mT_X12_lateOf))))
theorem gL_X12_lates : GoodIn lw_tbl (wsV RL 104 RX12 yX12_lates vX12_lates) := goodIn_app (goodIn_r _ [1636, 1637, 1638, 110] (by decide +kernel) (by decide +kernel)) (fun w h => ⟨mT_X12_lates w h, gs_X12_lates w h⟩)
set_option maxHeartbeats 8000000 in
set_option maxRecDepth 100000 in
theorem law_c21 {p : Program} {e : Env} {s : State} {m : MethodId} {below : List Frame} {meth : Method} {c : Code} (l : Launch) {b L : Nat} {xs : Nat → Int32} {D : va_G} {cs : Nat → ClassId} {ad : Nat → Nat} {kS : kSt} {K : sK} {g : Nat → va_E} {H : Heap} {locs : List Loc} (hL : L ≤ 3072) (C0 : lw_At p s m meth c b L xs) (X : CxL p s m b meth c D cs) (Z : SX ad kS s s.heap) (hj : wJ ad 218) (hA : ∀ i, i < 218 → AL s (ad i)) (hKO : KO K) (hR : KR K) (hW : WF (shp ad K) ad cs g) (hP : va_P D vwCl (wL ad g 218) H) (hS : va_S (AL s) s.heap H locs) (ls : Array Slot) (ii : Int32) (hi0 : 0 ≤ ii.toInt) (hi1 : ii.toInt + 6 ≤ L) (hl : lv_has ls 4 [(3, .int ii), (2, .ref (ad 197)), (1, .ref (ad 0)), (0, .ref b)]) (kk : ∀ (K : sK) (g : Nat → va_E) (H : Heap) (locs : List Loc) (ls : Array Slot), KO K → KR K → WF (shp ad K) ad cs g → va_P D vwCl (wL ad g 218) H → va_S (AL s) s.heap H locs → lv_has ls 4 [(3, .int ii), (2, .ref (ad 197)), (1, .ref (ad 0)), (0, .ref b)] → W p l e room_1 s m #[Value.ref b] below meth c H locs 218 6259 (lw_Z below #[Value.ref b] s) (F0 m 2069 ls [])) : W p l e room_1 s m #[Value.ref b] below meth c H locs 218 6259 (lw_Z below #[Value.ref b] s) (F0 m 873 ls []) := by
  have hx := X.1
  have hb : c.code = cL_law := X.2.1
  obtain ⟨-, -, -, -, -, -, hX, hbl, -, -⟩ := id C0
  have hbA : ¬ AL s b := Nat.not_le.mpr hbl
  refine lv_aload_n hx hb dL_law_873 rfl (lv_at hl 2 rfl) ?_
  obtain ⟨fso_1, hgo_1, -⟩ := hW.obj (i := 0) (by decide) (sh_0 ad _)
  refine s_calli (q := (RX11, TX11, 14)) (As := []) (rest := []) X Z (s_X11_lates l D cs ad kS K hKO hj g hW ) (cwV 0 X.2.2.2.2.1 gL_X11_lates rfl rfl rfl (by decide +kernel) ⟨Nat.le_of_ble_eq_true rfl, Nat.le_of_ble_eq_true rfl⟩) (by decide) hgo_1 rfl hP hA (fun a h _ => hS.2.1 a h (Nat.not_le.mpr h)) hS rfl hl.1 rfl (Nat.le_of_ble_eq_true rfl) dL_law_874 ⟨Nat.le_of_ble_eq_true rfl, Nat.le_of_ble_eq_true rfl⟩ (fun r_3 g_2 H locs hw_4 hP hS => ?_)
  rw [hw_4] at hP
  refine lv_pop hx hb dL_law_877 rfl ?_
  refine lv_aload_n hx hb dL_law_878 rfl (lv_at hl 1 rfl) ?_
  obtain ⟨fso_5, hgo_5, -⟩ := hW.obj (i := 197) (by decide) (sh_197 ad _)
  refine s_calli (q := (RX12, TX12, 40)) (As := []) (rest := []) X Z (s_X12_lates l D cs ad kS K hKO hj g hW ) (cwV 0 X.2.2.2.2.1 gL_X12_lates rfl rfl rfl (by decide +kernel) ⟨Nat.le_of_ble_eq_true rfl, Nat.le_of_ble_eq_true rfl⟩) (by decide) hgo_5 rfl hP hA (fun a h _ => hS.2.1 a h (Nat.not_le.mpr h)) hS rfl hl.1 rfl (Nat.le_of_ble_eq_true rfl) dL_law_879 ⟨Nat.le_of_ble_eq_true rfl, Nat.le_of_ble_eq_true rfl⟩ (fun r_7 g_6 H locs hw_8 hP hS => ?_)
  obtain ⟨hw_8W, hw_8f⟩ := hw_8
  refine lv_pop hx hb dL_law_882 rfl ?_
  refine lv_goto (tgt := 2069) hx hb dL_law_883 (by decide) ?_
  exact kk K g_6 _ _ ls hKO hR hw_8W hP hS hl

theorem dL_law_886 : decode cL_law 886 = .ok (.aload_n 1, 1) := by decide +kernel
theorem dL_law_887 : decode cL_law 887 = .ok (.invokevirtual 105, 3) := by decide +kernel
theorem dL_law_890 : decode cL_law 890 = .ok (.pop, 1) := by decide +kernel
theorem dL_law_891 : decode cL_law 891 = .ok (.aload_n 2, 1) := by decide +kernel
theorem dL_law_892 : decode cL_law 892 = .ok (.invokevirtual 108, 3) := by decide +kernel
theorem dL_law_895 : decode cL_law 895 = .ok (.pop, 1) := by decide +kernel
theorem dL_law_896 : decode cL_law 896 = .ok (.goto 1173, 3) := by decide +kernel
set_option maxRecDepth 20000 in
theorem mT_X10_offTogether : wIn lw_tbl vX10_offTogether := wIn.cons (List.mem_of_getElem? (i := 884) (by decide +kernel)) (wIn.app (wIn.r _ [228, 885, 870, 871, 103, 886, 858, 115, 859] (by decide +kernel)) (wIn.app iT_6 mT_X10_lateness))
set_option maxRecDepth 20000 in
theorem mT_X11_off : wIn lw_tbl vX11_off := wIn.cons (List.mem_of_getElem? (i := 880) (by decide +kernel)) (wIn.app (wIn.r _ [810, 812, 17, 98, 491, 486, 881, 882, 883, 103] (by decide +kernel)) (wIn.app iT_11 (wIn.app mT_X11_isTold mT_X10_offTogether)))
theorem gL_X11_off : GoodIn lw_tbl (wsV RL 105 RX11 yX11_off vX11_off) := goodIn_app (goodIn_r _ [877, 878, 879, 98] (by decide +kernel) (by decide +kernel)) (fun w h => ⟨mT_X11_off w h, gs_X11_off w h⟩)
set_option maxRecDepth 20000 in
theorem mT_X12_offAll : wIn lw_tbl vX12_offAll := wIn.cons (List.mem_of_getElem? (i := 1647) (by decide +kernel)) (wIn.app (wIn.r _ [1262, 1632, 1634, 71, 110, 1627, 858, 115, 859] (by decide +kernel)) (wIn.app iT_12 mT_X12_lateOf))
set_option maxRecDepth 20000 in
theorem mT_X12_off : wIn lw_tbl vX12_off := wIn.cons (List.mem_of_getElem? (i := 1643) (by decide +kernel)) (wIn.app (wIn.r _ [1596, 1598, 68, 110, 1540, 1542, 61, 1644, 1646, 72] (by decide +kernel)) (wIn.app mT_X12_isStreet (wIn.app mT_X12_layAll mT_X12_offAll)))
theorem gL_X12_off : GoodIn lw_tbl (wsV RL 108 RX12 yX12_off vX12_off) := goodIn_app (goodIn_r _ [1640, 1641, 1642, 110] (by decide +kernel) (by decide +kernel)) (fun w h => ⟨mT_X12_off w h, gs_X12_off w h⟩)
set_option maxHeartbeats 8000000 in
set_option maxRecDepth 100000 in
theorem law_c22 {p : Program} {e : Env} {s : State} {m : MethodId} {below : List Frame} {meth : Method} {c : Code} (l : Launch) {b L : Nat} {xs : Nat → Int32} {D : va_G} {cs : Nat → ClassId} {ad : Nat → Nat} {kS : kSt} {K : sK} {g : Nat → va_E} {H : Heap} {locs : List Loc} (hL : L ≤ 3072) (C0 : lw_At p s m meth c b L xs) (X : CxL p s m b meth c D cs) (Z : SX ad kS s s.heap) (hj : wJ ad 218) (hA : ∀ i, i < 218 → AL s (ad i)) (hKO : KO K) (hR : KR K) (hW : WF (shp ad K) ad cs g) (hP : va_P D vwCl (wL ad g 218) H) (hS : va_S (AL s) s.heap H locs) (ls : Array Slot) (ii : Int32) (hi0 : 0 ≤ ii.toInt) (hi1 : ii.toInt + 6 ≤ L) (hl : lv_has ls 4 [(3, .int ii), (2, .ref (ad 197)), (1, .ref (ad 0)), (0, .ref b)]) (kk : ∀ (K : sK) (g : Nat → va_E) (H : Heap) (locs : List Loc) (ls : Array Slot), KO K → KR K → WF (shp ad K) ad cs g → va_P D vwCl (wL ad g 218) H → va_S (AL s) s.heap H locs → lv_has ls 4 [(3, .int ii), (2, .ref (ad 197)), (1, .ref (ad 0)), (0, .ref b)] → W p l e room_1 s m #[Value.ref b] below meth c H locs 218 6259 (lw_Z below #[Value.ref b] s) (F0 m 2069 ls [])) : W p l e room_1 s m #[Value.ref b] below meth c H locs 218 6259 (lw_Z below #[Value.ref b] s) (F0 m 886 ls []) := by
  have hx := X.1
  have hb : c.code = cL_law := X.2.1
  obtain ⟨-, -, -, -, -, -, hX, hbl, -, -⟩ := id C0
  have hbA : ¬ AL s b := Nat.not_le.mpr hbl
  refine lv_aload_n hx hb dL_law_886 rfl (lv_at hl 2 rfl) ?_
  obtain ⟨fso_1, hgo_1, -⟩ := hW.obj (i := 0) (by decide) (sh_0 ad _)
  refine s_calli (q := (RX11, TX11, 14)) (As := []) (rest := []) X Z (s_X11_off l D cs ad kS K hKO hj g hW ) (cwV 0 X.2.2.2.2.1 gL_X11_off rfl rfl rfl (by decide +kernel) ⟨Nat.le_of_ble_eq_true rfl, Nat.le_of_ble_eq_true rfl⟩) (by decide) hgo_1 rfl hP hA (fun a h _ => hS.2.1 a h (Nat.not_le.mpr h)) hS rfl hl.1 rfl (Nat.le_of_ble_eq_true rfl) dL_law_887 ⟨Nat.le_of_ble_eq_true rfl, Nat.le_of_ble_eq_true rfl⟩ (fun r_3 g_2 H locs hw_4 hP hS => ?_)
  rw [hw_4] at hP
  refine lv_pop hx hb dL_law_890 rfl ?_
  refine lv_aload_n hx hb dL_law_891 rfl (lv_at hl 1 rfl) ?_
  obtain ⟨fso_5, hgo_5, -⟩ := hW.obj (i := 197) (by decide) (sh_197 ad _)
  refine s_calli (q := (RX12, TX12, 40)) (As := []) (rest := []) X Z (s_X12_off l D cs ad kS K hKO hj g hW ) (cwV 0 X.2.2.2.2.1 gL_X12_off rfl rfl rfl (by decide +kernel) ⟨Nat.le_of_ble_eq_true rfl, Nat.le_of_ble_eq_true rfl⟩) (by decide) hgo_5 rfl hP hA (fun a h _ => hS.2.1 a h (Nat.not_le.mpr h)) hS rfl hl.1 rfl (Nat.le_of_ble_eq_true rfl) dL_law_892 ⟨Nat.le_of_ble_eq_true rfl, Nat.le_of_ble_eq_true rfl⟩ (fun r_7 g_6 H locs hw_8 hP hS => ?_)
  obtain ⟨hw_8W, hw_8f⟩ := hw_8
  refine lv_pop hx hb dL_law_895 rfl ?_
  refine lv_goto (tgt := 2069) hx hb dL_law_896 (by decide) ?_
  exact kk K g_6 _ _ ls hKO hR hw_8W hP hS hl

theorem dL_law_899 : decode cL_law 899 = .ok (.aload_n 1, 1) := by decide +kernel
theorem dL_law_900 : decode cL_law 900 = .ok (.invokevirtual 109, 3) := by decide +kernel
theorem dL_law_903 : decode cL_law 903 = .ok (.pop, 1) := by decide +kernel
theorem dL_law_904 : decode cL_law 904 = .ok (.aload_n 2, 1) := by decide +kernel
theorem dL_law_905 : decode cL_law 905 = .ok (.invokevirtual 112, 3) := by decide +kernel
theorem dL_law_908 : decode cL_law 908 = .ok (.pop, 1) := by decide +kernel
theorem dL_law_909 : decode cL_law 909 = .ok (.goto 1160, 3) := by decide +kernel
set_option maxRecDepth 20000 in
theorem mT_X11_worst : wIn lw_tbl vX11_worst := wIn.cons (List.mem_of_getElem? (i := 890) (by decide +kernel)) (wIn.app (wIn.r _ [810, 812, 17, 98, 486, 229, 491, 869, 870, 871, 103, 857, 858, 115, 859] (by decide +kernel)) (wIn.app iT_11 (wIn.app iT_6 (wIn.app mT_X11_isTold mT_X10_lateness))))
theorem gL_X11_worst : GoodIn lw_tbl (wsV RL 109 RX11 yX11_worst vX11_worst) := goodIn_app (goodIn_r _ [887, 888, 889, 98] (by decide +kernel) (by decide +kernel)) (fun w h => ⟨mT_X11_worst w h, gs_X11_worst w h⟩)
set_option maxRecDepth 20000 in
theorem mT_X12_worst : wIn lw_tbl vX12_worst := wIn.cons (List.mem_of_getElem? (i := 1651) (by decide +kernel)) (wIn.app (wIn.r _ [1596, 1598, 68, 110, 1540, 1542, 61, 1262, 1632, 1634, 71, 1627, 858, 115, 859] (by decide +kernel)) (wIn.app iT_12 (wIn.app mT_X12_isStreet (wIn.app mT_X12_layAll mT_X12_lateOf))))
theorem gL_X12_worst : GoodIn lw_tbl (wsV RL 112 RX12 yX12_worst vX12_worst) := goodIn_app (goodIn_r _ [1648, 1649, 1650, 110] (by decide +kernel) (by decide +kernel)) (fun w h => ⟨mT_X12_worst w h, gs_X12_worst w h⟩)
set_option maxHeartbeats 8000000 in
set_option maxRecDepth 100000 in
theorem law_c23 {p : Program} {e : Env} {s : State} {m : MethodId} {below : List Frame} {meth : Method} {c : Code} (l : Launch) {b L : Nat} {xs : Nat → Int32} {D : va_G} {cs : Nat → ClassId} {ad : Nat → Nat} {kS : kSt} {K : sK} {g : Nat → va_E} {H : Heap} {locs : List Loc} (hL : L ≤ 3072) (C0 : lw_At p s m meth c b L xs) (X : CxL p s m b meth c D cs) (Z : SX ad kS s s.heap) (hj : wJ ad 218) (hA : ∀ i, i < 218 → AL s (ad i)) (hKO : KO K) (hR : KR K) (hW : WF (shp ad K) ad cs g) (hP : va_P D vwCl (wL ad g 218) H) (hS : va_S (AL s) s.heap H locs) (ls : Array Slot) (ii : Int32) (hi0 : 0 ≤ ii.toInt) (hi1 : ii.toInt + 6 ≤ L) (hl : lv_has ls 4 [(3, .int ii), (2, .ref (ad 197)), (1, .ref (ad 0)), (0, .ref b)]) (kk : ∀ (K : sK) (g : Nat → va_E) (H : Heap) (locs : List Loc) (ls : Array Slot), KO K → KR K → WF (shp ad K) ad cs g → va_P D vwCl (wL ad g 218) H → va_S (AL s) s.heap H locs → lv_has ls 4 [(3, .int ii), (2, .ref (ad 197)), (1, .ref (ad 0)), (0, .ref b)] → W p l e room_1 s m #[Value.ref b] below meth c H locs 218 6259 (lw_Z below #[Value.ref b] s) (F0 m 2069 ls [])) : W p l e room_1 s m #[Value.ref b] below meth c H locs 218 6259 (lw_Z below #[Value.ref b] s) (F0 m 899 ls []) := by
  have hx := X.1
  have hb : c.code = cL_law := X.2.1
  obtain ⟨-, -, -, -, -, -, hX, hbl, -, -⟩ := id C0
  have hbA : ¬ AL s b := Nat.not_le.mpr hbl
  refine lv_aload_n hx hb dL_law_899 rfl (lv_at hl 2 rfl) ?_
  obtain ⟨fso_1, hgo_1, -⟩ := hW.obj (i := 0) (by decide) (sh_0 ad _)
  refine s_calli (q := (RX11, TX11, 14)) (As := []) (rest := []) X Z (s_X11_worst l D cs ad kS K hKO hj g hW ) (cwV 0 X.2.2.2.2.1 gL_X11_worst rfl rfl rfl (by decide +kernel) ⟨Nat.le_of_ble_eq_true rfl, Nat.le_of_ble_eq_true rfl⟩) (by decide) hgo_1 rfl hP hA (fun a h _ => hS.2.1 a h (Nat.not_le.mpr h)) hS rfl hl.1 rfl (Nat.le_of_ble_eq_true rfl) dL_law_900 ⟨Nat.le_of_ble_eq_true rfl, Nat.le_of_ble_eq_true rfl⟩ (fun r_3 g_2 H locs hw_4 hP hS => ?_)
  rw [hw_4] at hP
  refine lv_pop hx hb dL_law_903 rfl ?_
  refine lv_aload_n hx hb dL_law_904 rfl (lv_at hl 1 rfl) ?_
  obtain ⟨fso_5, hgo_5, -⟩ := hW.obj (i := 197) (by decide) (sh_197 ad _)
  refine s_calli (q := (RX12, TX12, 40)) (As := []) (rest := []) X Z (s_X12_worst l D cs ad kS K hKO hj g hW ) (cwV 0 X.2.2.2.2.1 gL_X12_worst rfl rfl rfl (by decide +kernel) ⟨Nat.le_of_ble_eq_true rfl, Nat.le_of_ble_eq_true rfl⟩) (by decide) hgo_5 rfl hP hA (fun a h _ => hS.2.1 a h (Nat.not_le.mpr h)) hS rfl hl.1 rfl (Nat.le_of_ble_eq_true rfl) dL_law_905 ⟨Nat.le_of_ble_eq_true rfl, Nat.le_of_ble_eq_true rfl⟩ (fun r_7 g_6 H locs hw_8 hP hS => ?_)
  obtain ⟨hw_8W, hw_8f⟩ := hw_8
  refine lv_pop hx hb dL_law_908 rfl ?_
  refine lv_goto (tgt := 2069) hx hb dL_law_909 (by decide) ?_
  exact kk K g_6 _ _ ls hKO hR hw_8W hP hS hl

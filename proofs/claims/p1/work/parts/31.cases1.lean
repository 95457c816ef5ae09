theorem dL_law_728 : decode cL_law 728 = .ok (.aload_n 1, 1) := by decide +kernel
theorem dL_law_729 : decode cL_law 729 = .ok (.aload_n 0, 1) := by decide +kernel
theorem dL_law_730 : decode cL_law 730 = .ok (.iload_n 3, 1) := by decide +kernel
theorem dL_law_731 : decode cL_law 731 = .ok (.iconst 1, 1) := by decide +kernel
theorem dL_law_732 : decode cL_law 732 = .ok (.iadd, 1) := by decide +kernel
theorem dL_law_733 : decode cL_law 733 = .ok (.iaload, 1) := by decide +kernel
theorem dL_law_734 : decode cL_law 734 = .ok (.aload_n 0, 1) := by decide +kernel
theorem dL_law_735 : decode cL_law 735 = .ok (.iload_n 3, 1) := by decide +kernel
theorem dL_law_736 : decode cL_law 736 = .ok (.iconst 2, 1) := by decide +kernel
theorem dL_law_737 : decode cL_law 737 = .ok (.iadd, 1) := by decide +kernel
theorem dL_law_738 : decode cL_law 738 = .ok (.iaload, 1) := by decide +kernel
theorem dL_law_739 : decode cL_law 739 = .ok (.invokevirtual 81, 3) := by decide +kernel
theorem dL_law_742 : decode cL_law 742 = .ok (.aload_n 2, 1) := by decide +kernel
theorem dL_law_743 : decode cL_law 743 = .ok (.aload_n 0, 1) := by decide +kernel
theorem dL_law_744 : decode cL_law 744 = .ok (.iload_n 3, 1) := by decide +kernel
theorem dL_law_745 : decode cL_law 745 = .ok (.iconst 1, 1) := by decide +kernel
theorem dL_law_746 : decode cL_law 746 = .ok (.iadd, 1) := by decide +kernel
theorem dL_law_747 : decode cL_law 747 = .ok (.iaload, 1) := by decide +kernel
theorem dL_law_748 : decode cL_law 748 = .ok (.aload_n 0, 1) := by decide +kernel
theorem dL_law_749 : decode cL_law 749 = .ok (.iload_n 3, 1) := by decide +kernel
theorem dL_law_750 : decode cL_law 750 = .ok (.iconst 2, 1) := by decide +kernel
theorem dL_law_751 : decode cL_law 751 = .ok (.iadd, 1) := by decide +kernel
theorem dL_law_752 : decode cL_law 752 = .ok (.iaload, 1) := by decide +kernel
theorem dL_law_753 : decode cL_law 753 = .ok (.invokevirtual 84, 3) := by decide +kernel
theorem dL_law_756 : decode cL_law 756 = .ok (.if_icmp .eq 1314, 3) := by decide +kernel
set_option maxRecDepth 20000 in
theorem gL_X11_time : GoodIn lw_tbl (wsV RL 81 RX11 yX11_time vX11_time) := goodIn_r _ [832, 833, 834, 98, 835, 733, 735, 14, 98, 736, 486, 218, 499, 501, 503, 505, 507, 509, 511, 513, 515, 517, 519, 521, 523, 525, 273, 275, 277, 279, 281, 283, 285, 287, 289, 291, 293, 295, 297, 299, 301, 303, 305, 307] (by decide +kernel) (by decide +kernel)
set_option maxRecDepth 20000 in
theorem gL_X12_time : GoodIn lw_tbl (wsV RL 84 RX12 yX12_time vX12_time) := goodIn_r _ [1603, 1604, 1605, 110, 1606, 1501, 1503, 56, 110, 1504, 1262, 1387, 1388, 1389, 1301, 1303, 1305, 1307, 1309, 1311, 1313, 1315, 1317, 1319, 1321, 1323, 1325, 1327, 1329, 1331, 1333, 1335, 1337, 1339, 1341, 1343, 1345, 1347, 1349, 1351, 1353, 1355, 1357, 1359, 1361, 1363, 1365, 1367, 1369, 1371, 1373, 1375, 1377, 1379] (by decide +kernel) (by decide +kernel)
set_option maxHeartbeats 8000000 in
set_option maxRecDepth 100000 in
theorem law_c16 {p : Program} {e : Env} {s : State} {m : MethodId} {below : List Frame} {meth : Method} {c : Code} (l : Launch) {b : Nat} {xs : Nat → Int32} {D : va_G} {cs : Nat → ClassId} {ad : Nat → Nat} {g : Nat → va_E} {H : Heap} {locs : List Loc} (C0 : lw_At p s m meth c b 6 xs) (X : CxL p s m b meth c D cs) (hj : wJ ad nW) (hA : ∀ i, i < nW → AL s (ad i)) (hFX : FrX cs ad g) (hFM : FrM cs ad g) (hP : va_P D vwCl (wL ad g nW) H) (hS : va_S (AL s) s.heap H locs) (ls : Array Slot) (hl : lv_has ls 4 [(3, .int 0), (2, .ref (ad 197)), (1, .ref (ad 0)), (0, .ref b)]) : W p l e room_1 s m #[Value.ref b] below meth c H locs 218 6259 (lw_Z below #[Value.ref b] s) (F0 m 728 ls []) := by
  have hx := X.1
  have hb : c.code = cL_law := X.2.1
  obtain ⟨-, -, -, -, -, -, hX, hbl, -, -⟩ := id C0
  have hbA : ¬ AL s b := Nat.not_le.mpr hbl
  refine lv_aload_n hx hb dL_law_728 rfl (lv_at hl 2 rfl) ?_
  refine lv_aload_n hx hb dL_law_729 rfl (lv_at hl 3 rfl) ?_
  refine lv_iload_n hx hb dL_law_730 rfl (lv_at hl 0 rfl) ?_
  refine lv_iconst (v := 1) hx hb dL_law_731 (by decide) ?_
  refine lv_iadd hx hb dL_law_732 ?_
  refine lv_topi (fun z_1 ez_1 => ?_)
  obtain rfl : z_1 = 1 := ez_1.trans (by decide)
  refine va_sld hx hb hX hbl hbA hS (i := 1) (by unfold vp_in; decide) dL_law_733 ?_
  refine lv_aload_n hx hb dL_law_734 rfl (lv_at hl 3 rfl) ?_
  refine lv_iload_n hx hb dL_law_735 rfl (lv_at hl 0 rfl) ?_
  refine lv_iconst (v := 2) hx hb dL_law_736 (by decide) ?_
  refine lv_iadd hx hb dL_law_737 ?_
  refine lv_topi (fun z_2 ez_2 => ?_)
  obtain rfl : z_2 = 2 := ez_2.trans (by decide)
  refine va_sld hx hb hX hbl hbA hS (i := 2) (by unfold vp_in; decide) dL_law_738 ?_
  refine q_calli (q := (RX11, TX11, 14)) (As := [.int (xs (Int32.toNatClampNeg 1)), .int (xs (Int32.toNatClampNeg 2))]) (rest := []) X (k_time l D cs ad hj g (xs (Int32.toNatClampNeg 1)) (xs (Int32.toNatClampNeg 2)) hFX.1 hFX.2.2.2.1) (cwV 2 X.2.2.2.2.1 gL_X11_time rfl rfl rfl (by decide +kernel) ⟨Nat.le_of_ble_eq_true rfl, Nat.le_of_ble_eq_true rfl⟩) (by decide) (hFX.1) rfl hP hA hS rfl hl.1 rfl (Nat.le_of_ble_eq_true rfl) dL_law_739 ⟨Nat.le_of_ble_eq_true rfl, Nat.le_of_ble_eq_true rfl⟩ (fun r_4 g_3 H locs hw_5 hP hS => ?_)
  obtain ⟨hw_5, hw_5f⟩ := hw_5
  subst hw_5
  rw [hw_5f] at hP
  refine lv_aload_n hx hb dL_law_742 rfl (lv_at hl 1 rfl) ?_
  refine lv_aload_n hx hb dL_law_743 rfl (lv_at hl 3 rfl) ?_
  refine lv_iload_n hx hb dL_law_744 rfl (lv_at hl 0 rfl) ?_
  refine lv_iconst (v := 1) hx hb dL_law_745 (by decide) ?_
  refine lv_iadd hx hb dL_law_746 ?_
  refine lv_topi (fun z_6 ez_6 => ?_)
  obtain rfl : z_6 = 1 := ez_6.trans (by decide)
  refine va_sld hx hb hX hbl hbA hS (i := 1) (by unfold vp_in; decide) dL_law_747 ?_
  refine lv_aload_n hx hb dL_law_748 rfl (lv_at hl 3 rfl) ?_
  refine lv_iload_n hx hb dL_law_749 rfl (lv_at hl 0 rfl) ?_
  refine lv_iconst (v := 2) hx hb dL_law_750 (by decide) ?_
  refine lv_iadd hx hb dL_law_751 ?_
  refine lv_topi (fun z_7 ez_7 => ?_)
  obtain rfl : z_7 = 2 := ez_7.trans (by decide)
  refine va_sld hx hb hX hbl hbA hS (i := 2) (by unfold vp_in; decide) dL_law_752 ?_
  refine q_calli (q := (RX12, TX12, 40)) (As := [.int (xs (Int32.toNatClampNeg 1)), .int (xs (Int32.toNatClampNeg 2))]) (rest := [.int (-2)]) X (m_time l D cs ad hj g (xs (Int32.toNatClampNeg 1)) (xs (Int32.toNatClampNeg 2)) hFM.1 hFM.2.1) (cwV 2 X.2.2.2.2.1 gL_X12_time rfl rfl rfl (by decide +kernel) ⟨Nat.le_of_ble_eq_true rfl, Nat.le_of_ble_eq_true rfl⟩) (by decide) (hFM.1) rfl hP hA hS rfl hl.1 rfl (Nat.le_of_ble_eq_true rfl) dL_law_753 ⟨Nat.le_of_ble_eq_true rfl, Nat.le_of_ble_eq_true rfl⟩ (fun r_9 g_8 H locs hw_10 hP hS => ?_)
  obtain ⟨hw_10, -⟩ := hw_10
  subst hw_10
  refine lv_icmp_eq (tgt := 2070) hx hb dL_law_756 (by decide) (fun _ => ?_) (fun h => absurd rfl h)
  exact law_tail l C0 X hS ls hl

theorem dL_law_761 : decode cL_law 761 = .ok (.aload_n 1, 1) := by decide +kernel
theorem dL_law_762 : decode cL_law 762 = .ok (.aload_n 0, 1) := by decide +kernel
theorem dL_law_763 : decode cL_law 763 = .ok (.iload_n 3, 1) := by decide +kernel
theorem dL_law_764 : decode cL_law 764 = .ok (.iconst 1, 1) := by decide +kernel
theorem dL_law_765 : decode cL_law 765 = .ok (.iadd, 1) := by decide +kernel
theorem dL_law_766 : decode cL_law 766 = .ok (.iaload, 1) := by decide +kernel
theorem dL_law_767 : decode cL_law 767 = .ok (.invokevirtual 85, 3) := by decide +kernel
theorem dL_law_770 : decode cL_law 770 = .ok (.aload_n 2, 1) := by decide +kernel
theorem dL_law_771 : decode cL_law 771 = .ok (.aload_n 0, 1) := by decide +kernel
theorem dL_law_772 : decode cL_law 772 = .ok (.iload_n 3, 1) := by decide +kernel
theorem dL_law_773 : decode cL_law 773 = .ok (.iconst 1, 1) := by decide +kernel
theorem dL_law_774 : decode cL_law 774 = .ok (.iadd, 1) := by decide +kernel
theorem dL_law_775 : decode cL_law 775 = .ok (.iaload, 1) := by decide +kernel
theorem dL_law_776 : decode cL_law 776 = .ok (.invokevirtual 88, 3) := by decide +kernel
theorem dL_law_779 : decode cL_law 779 = .ok (.if_icmp .eq 1291, 3) := by decide +kernel
set_option maxRecDepth 20000 in
theorem gL_X11_hour : GoodIn lw_tbl (wsV RL 85 RX11 yX11_hour vX11_hour) := goodIn_r _ [840, 841, 842, 98, 843, 725, 727, 13, 98, 728, 486, 212, 499, 501, 503, 505, 507, 509, 511, 513, 515, 517, 519, 521, 523, 525, 273, 275, 277, 279, 281, 283, 285, 287, 289, 291, 293, 295, 297, 299, 301, 303, 305, 307] (by decide +kernel) (by decide +kernel)
set_option maxRecDepth 20000 in
theorem gL_X12_hour : GoodIn lw_tbl (wsV RL 88 RX12 yX12_hour vX12_hour) := goodIn_r _ [1611, 1612, 1613, 110, 1614, 1489, 1491, 54, 110, 1492, 1262, 1387, 1388, 1389, 1301, 1303, 1305, 1307, 1309, 1311, 1313, 1315, 1317, 1319, 1321, 1323, 1325, 1327, 1329, 1331, 1333, 1335, 1337, 1339, 1341, 1343, 1345, 1347, 1349, 1351, 1353, 1355, 1357, 1359, 1361, 1363, 1365, 1367, 1369, 1371, 1373, 1375, 1377, 1379] (by decide +kernel) (by decide +kernel)
set_option maxHeartbeats 8000000 in
set_option maxRecDepth 100000 in
theorem law_c17 {p : Program} {e : Env} {s : State} {m : MethodId} {below : List Frame} {meth : Method} {c : Code} (l : Launch) {b : Nat} {xs : Nat → Int32} {D : va_G} {cs : Nat → ClassId} {ad : Nat → Nat} {g : Nat → va_E} {H : Heap} {locs : List Loc} (C0 : lw_At p s m meth c b 6 xs) (X : CxL p s m b meth c D cs) (hj : wJ ad nW) (hA : ∀ i, i < nW → AL s (ad i)) (hFX : FrX cs ad g) (hFM : FrM cs ad g) (hP : va_P D vwCl (wL ad g nW) H) (hS : va_S (AL s) s.heap H locs) (ls : Array Slot) (hl : lv_has ls 4 [(3, .int 0), (2, .ref (ad 197)), (1, .ref (ad 0)), (0, .ref b)]) : W p l e room_1 s m #[Value.ref b] below meth c H locs 218 6259 (lw_Z below #[Value.ref b] s) (F0 m 761 ls []) := by
  have hx := X.1
  have hb : c.code = cL_law := X.2.1
  obtain ⟨-, -, -, -, -, -, hX, hbl, -, -⟩ := id C0
  have hbA : ¬ AL s b := Nat.not_le.mpr hbl
  refine lv_aload_n hx hb dL_law_761 rfl (lv_at hl 2 rfl) ?_
  refine lv_aload_n hx hb dL_law_762 rfl (lv_at hl 3 rfl) ?_
  refine lv_iload_n hx hb dL_law_763 rfl (lv_at hl 0 rfl) ?_
  refine lv_iconst (v := 1) hx hb dL_law_764 (by decide) ?_
  refine lv_iadd hx hb dL_law_765 ?_
  refine lv_topi (fun z_1 ez_1 => ?_)
  obtain rfl : z_1 = 1 := ez_1.trans (by decide)
  refine va_sld hx hb hX hbl hbA hS (i := 1) (by unfold vp_in; decide) dL_law_766 ?_
  refine q_calli (q := (RX11, TX11, 14)) (As := [.int (xs (Int32.toNatClampNeg 1))]) (rest := []) X (k_hour l D cs ad hj g (xs (Int32.toNatClampNeg 1)) hFX.1 hFX.2.2.2.1) (cwV 1 X.2.2.2.2.1 gL_X11_hour rfl rfl rfl (by decide +kernel) ⟨Nat.le_of_ble_eq_true rfl, Nat.le_of_ble_eq_true rfl⟩) (by decide) (hFX.1) rfl hP hA hS rfl hl.1 rfl (Nat.le_of_ble_eq_true rfl) dL_law_767 ⟨Nat.le_of_ble_eq_true rfl, Nat.le_of_ble_eq_true rfl⟩ (fun r_3 g_2 H locs hw_4 hP hS => ?_)
  obtain ⟨hw_4, hw_4f⟩ := hw_4
  subst hw_4
  rw [hw_4f] at hP
  refine lv_aload_n hx hb dL_law_770 rfl (lv_at hl 1 rfl) ?_
  refine lv_aload_n hx hb dL_law_771 rfl (lv_at hl 3 rfl) ?_
  refine lv_iload_n hx hb dL_law_772 rfl (lv_at hl 0 rfl) ?_
  refine lv_iconst (v := 1) hx hb dL_law_773 (by decide) ?_
  refine lv_iadd hx hb dL_law_774 ?_
  refine lv_topi (fun z_5 ez_5 => ?_)
  obtain rfl : z_5 = 1 := ez_5.trans (by decide)
  refine va_sld hx hb hX hbl hbA hS (i := 1) (by unfold vp_in; decide) dL_law_775 ?_
  refine q_calli (q := (RX12, TX12, 40)) (As := [.int (xs (Int32.toNatClampNeg 1))]) (rest := [.int (-2)]) X (m_hour l D cs ad hj g (xs (Int32.toNatClampNeg 1)) hFM.1 hFM.2.1) (cwV 1 X.2.2.2.2.1 gL_X12_hour rfl rfl rfl (by decide +kernel) ⟨Nat.le_of_ble_eq_true rfl, Nat.le_of_ble_eq_true rfl⟩) (by decide) (hFM.1) rfl hP hA hS rfl hl.1 rfl (Nat.le_of_ble_eq_true rfl) dL_law_776 ⟨Nat.le_of_ble_eq_true rfl, Nat.le_of_ble_eq_true rfl⟩ (fun r_7 g_6 H locs hw_8 hP hS => ?_)
  obtain ⟨hw_8, -⟩ := hw_8
  subst hw_8
  refine lv_icmp_eq (tgt := 2070) hx hb dL_law_779 (by decide) (fun _ => ?_) (fun h => absurd rfl h)
  exact law_tail l C0 X hS ls hl

theorem dL_law_784 : decode cL_law 784 = .ok (.aload_n 1, 1) := by decide +kernel
theorem dL_law_785 : decode cL_law 785 = .ok (.aload_n 0, 1) := by decide +kernel
theorem dL_law_786 : decode cL_law 786 = .ok (.iload_n 3, 1) := by decide +kernel
theorem dL_law_787 : decode cL_law 787 = .ok (.iconst 1, 1) := by decide +kernel
theorem dL_law_788 : decode cL_law 788 = .ok (.iadd, 1) := by decide +kernel
theorem dL_law_789 : decode cL_law 789 = .ok (.iaload, 1) := by decide +kernel
theorem dL_law_790 : decode cL_law 790 = .ok (.aload_n 0, 1) := by decide +kernel
theorem dL_law_791 : decode cL_law 791 = .ok (.iload_n 3, 1) := by decide +kernel
theorem dL_law_792 : decode cL_law 792 = .ok (.iconst 2, 1) := by decide +kernel
theorem dL_law_793 : decode cL_law 793 = .ok (.iadd, 1) := by decide +kernel
theorem dL_law_794 : decode cL_law 794 = .ok (.iaload, 1) := by decide +kernel
theorem dL_law_795 : decode cL_law 795 = .ok (.invokevirtual 89, 3) := by decide +kernel
theorem dL_law_798 : decode cL_law 798 = .ok (.aload_n 2, 1) := by decide +kernel
theorem dL_law_799 : decode cL_law 799 = .ok (.aload_n 0, 1) := by decide +kernel
theorem dL_law_800 : decode cL_law 800 = .ok (.iload_n 3, 1) := by decide +kernel
theorem dL_law_801 : decode cL_law 801 = .ok (.iconst 1, 1) := by decide +kernel
theorem dL_law_802 : decode cL_law 802 = .ok (.iadd, 1) := by decide +kernel
theorem dL_law_803 : decode cL_law 803 = .ok (.iaload, 1) := by decide +kernel
theorem dL_law_804 : decode cL_law 804 = .ok (.aload_n 0, 1) := by decide +kernel
theorem dL_law_805 : decode cL_law 805 = .ok (.iload_n 3, 1) := by decide +kernel
theorem dL_law_806 : decode cL_law 806 = .ok (.iconst 2, 1) := by decide +kernel
theorem dL_law_807 : decode cL_law 807 = .ok (.iadd, 1) := by decide +kernel
theorem dL_law_808 : decode cL_law 808 = .ok (.iaload, 1) := by decide +kernel
theorem dL_law_809 : decode cL_law 809 = .ok (.invokevirtual 92, 3) := by decide +kernel
theorem dL_law_812 : decode cL_law 812 = .ok (.if_icmp .eq 1258, 3) := by decide +kernel
set_option maxRecDepth 20000 in
theorem gL_X11_meet : GoodIn lw_tbl (wsV RL 89 RX11 yX11_meet vX11_meet) := goodIn_r _ [844, 845, 846, 98, 847, 733, 735, 14, 98, 736, 486, 218, 499, 501, 503, 505, 507, 509, 511, 513, 515, 517, 519, 521, 523, 525, 273, 275, 277, 279, 281, 283, 285, 287, 289, 291, 293, 295, 297, 299, 301, 303, 305, 307] (by decide +kernel) (by decide +kernel)
set_option maxRecDepth 20000 in
theorem gL_X12_meet : GoodIn lw_tbl (wsV RL 92 RX12 yX12_meet vX12_meet) := goodIn_r _ [1615, 1616, 1617, 110, 1618, 1501, 1503, 56, 110, 1504, 1262, 1387, 1388, 1389, 1301, 1303, 1305, 1307, 1309, 1311, 1313, 1315, 1317, 1319, 1321, 1323, 1325, 1327, 1329, 1331, 1333, 1335, 1337, 1339, 1341, 1343, 1345, 1347, 1349, 1351, 1353, 1355, 1357, 1359, 1361, 1363, 1365, 1367, 1369, 1371, 1373, 1375, 1377, 1379] (by decide +kernel) (by decide +kernel)
set_option maxHeartbeats 8000000 in
set_option maxRecDepth 100000 in
theorem law_c18 {p : Program} {e : Env} {s : State} {m : MethodId} {below : List Frame} {meth : Method} {c : Code} (l : Launch) {b : Nat} {xs : Nat → Int32} {D : va_G} {cs : Nat → ClassId} {ad : Nat → Nat} {g : Nat → va_E} {H : Heap} {locs : List Loc} (C0 : lw_At p s m meth c b 6 xs) (X : CxL p s m b meth c D cs) (hj : wJ ad nW) (hA : ∀ i, i < nW → AL s (ad i)) (hFX : FrX cs ad g) (hFM : FrM cs ad g) (hP : va_P D vwCl (wL ad g nW) H) (hS : va_S (AL s) s.heap H locs) (ls : Array Slot) (hl : lv_has ls 4 [(3, .int 0), (2, .ref (ad 197)), (1, .ref (ad 0)), (0, .ref b)]) : W p l e room_1 s m #[Value.ref b] below meth c H locs 218 6259 (lw_Z below #[Value.ref b] s) (F0 m 784 ls []) := by
  have hx := X.1
  have hb : c.code = cL_law := X.2.1
  obtain ⟨-, -, -, -, -, -, hX, hbl, -, -⟩ := id C0
  have hbA : ¬ AL s b := Nat.not_le.mpr hbl
  refine lv_aload_n hx hb dL_law_784 rfl (lv_at hl 2 rfl) ?_
  refine lv_aload_n hx hb dL_law_785 rfl (lv_at hl 3 rfl) ?_
  refine lv_iload_n hx hb dL_law_786 rfl (lv_at hl 0 rfl) ?_
  refine lv_iconst (v := 1) hx hb dL_law_787 (by decide) ?_
  refine lv_iadd hx hb dL_law_788 ?_
  refine lv_topi (fun z_1 ez_1 => ?_)
  obtain rfl : z_1 = 1 := ez_1.trans (by decide)
  refine va_sld hx hb hX hbl hbA hS (i := 1) (by unfold vp_in; decide) dL_law_789 ?_
  refine lv_aload_n hx hb dL_law_790 rfl (lv_at hl 3 rfl) ?_
  refine lv_iload_n hx hb dL_law_791 rfl (lv_at hl 0 rfl) ?_
  refine lv_iconst (v := 2) hx hb dL_law_792 (by decide) ?_
  refine lv_iadd hx hb dL_law_793 ?_
  refine lv_topi (fun z_2 ez_2 => ?_)
  obtain rfl : z_2 = 2 := ez_2.trans (by decide)
  refine va_sld hx hb hX hbl hbA hS (i := 2) (by unfold vp_in; decide) dL_law_794 ?_
  refine q_calli (q := (RX11, TX11, 14)) (As := [.int (xs (Int32.toNatClampNeg 1)), .int (xs (Int32.toNatClampNeg 2))]) (rest := []) X (k_meet l D cs ad hj g (xs (Int32.toNatClampNeg 1)) (xs (Int32.toNatClampNeg 2)) hFX.1 hFX.2.2.2.1) (cwV 2 X.2.2.2.2.1 gL_X11_meet rfl rfl rfl (by decide +kernel) ⟨Nat.le_of_ble_eq_true rfl, Nat.le_of_ble_eq_true rfl⟩) (by decide) (hFX.1) rfl hP hA hS rfl hl.1 rfl (Nat.le_of_ble_eq_true rfl) dL_law_795 ⟨Nat.le_of_ble_eq_true rfl, Nat.le_of_ble_eq_true rfl⟩ (fun r_4 g_3 H locs hw_5 hP hS => ?_)
  obtain ⟨hw_5, hw_5f⟩ := hw_5
  subst hw_5
  rw [hw_5f] at hP
  refine lv_aload_n hx hb dL_law_798 rfl (lv_at hl 1 rfl) ?_
  refine lv_aload_n hx hb dL_law_799 rfl (lv_at hl 3 rfl) ?_
  refine lv_iload_n hx hb dL_law_800 rfl (lv_at hl 0 rfl) ?_
  refine lv_iconst (v := 1) hx hb dL_law_801 (by decide) ?_
  refine lv_iadd hx hb dL_law_802 ?_
  refine lv_topi (fun z_6 ez_6 => ?_)
  obtain rfl : z_6 = 1 := ez_6.trans (by decide)
  refine va_sld hx hb hX hbl hbA hS (i := 1) (by unfold vp_in; decide) dL_law_803 ?_
  refine lv_aload_n hx hb dL_law_804 rfl (lv_at hl 3 rfl) ?_
  refine lv_iload_n hx hb dL_law_805 rfl (lv_at hl 0 rfl) ?_
  refine lv_iconst (v := 2) hx hb dL_law_806 (by decide) ?_
  refine lv_iadd hx hb dL_law_807 ?_
  refine lv_topi (fun z_7 ez_7 => ?_)
  obtain rfl : z_7 = 2 := ez_7.trans (by decide)
  refine va_sld hx hb hX hbl hbA hS (i := 2) (by unfold vp_in; decide) dL_law_808 ?_
  refine q_calli (q := (RX12, TX12, 40)) (As := [.int (xs (Int32.toNatClampNeg 1)), .int (xs (Int32.toNatClampNeg 2))]) (rest := [.int (-2)]) X (m_meet l D cs ad hj g (xs (Int32.toNatClampNeg 1)) (xs (Int32.toNatClampNeg 2)) hFM.1 hFM.2.1) (cwV 2 X.2.2.2.2.1 gL_X12_meet rfl rfl rfl (by decide +kernel) ⟨Nat.le_of_ble_eq_true rfl, Nat.le_of_ble_eq_true rfl⟩) (by decide) (hFM.1) rfl hP hA hS rfl hl.1 rfl (Nat.le_of_ble_eq_true rfl) dL_law_809 ⟨Nat.le_of_ble_eq_true rfl, Nat.le_of_ble_eq_true rfl⟩ (fun r_9 g_8 H locs hw_10 hP hS => ?_)
  obtain ⟨hw_10, -⟩ := hw_10
  subst hw_10
  refine lv_icmp_eq (tgt := 2070) hx hb dL_law_812 (by decide) (fun _ => ?_) (fun h => absurd rfl h)
  exact law_tail l C0 X hS ls hl

theorem dL_law_817 : decode cL_law 817 = .ok (.aload_n 1, 1) := by decide +kernel
theorem dL_law_818 : decode cL_law 818 = .ok (.aload_n 0, 1) := by decide +kernel
theorem dL_law_819 : decode cL_law 819 = .ok (.iload_n 3, 1) := by decide +kernel
theorem dL_law_820 : decode cL_law 820 = .ok (.iconst 1, 1) := by decide +kernel
theorem dL_law_821 : decode cL_law 821 = .ok (.iadd, 1) := by decide +kernel
theorem dL_law_822 : decode cL_law 822 = .ok (.iaload, 1) := by decide +kernel
theorem dL_law_823 : decode cL_law 823 = .ok (.aload_n 0, 1) := by decide +kernel
theorem dL_law_824 : decode cL_law 824 = .ok (.iload_n 3, 1) := by decide +kernel
theorem dL_law_825 : decode cL_law 825 = .ok (.iconst 2, 1) := by decide +kernel
theorem dL_law_826 : decode cL_law 826 = .ok (.iadd, 1) := by decide +kernel
theorem dL_law_827 : decode cL_law 827 = .ok (.iaload, 1) := by decide +kernel
theorem dL_law_828 : decode cL_law 828 = .ok (.invokevirtual 93, 3) := by decide +kernel
theorem dL_law_831 : decode cL_law 831 = .ok (.aload_n 2, 1) := by decide +kernel
theorem dL_law_832 : decode cL_law 832 = .ok (.aload_n 0, 1) := by decide +kernel
theorem dL_law_833 : decode cL_law 833 = .ok (.iload_n 3, 1) := by decide +kernel
theorem dL_law_834 : decode cL_law 834 = .ok (.iconst 1, 1) := by decide +kernel
theorem dL_law_835 : decode cL_law 835 = .ok (.iadd, 1) := by decide +kernel
theorem dL_law_836 : decode cL_law 836 = .ok (.iaload, 1) := by decide +kernel
theorem dL_law_837 : decode cL_law 837 = .ok (.aload_n 0, 1) := by decide +kernel
theorem dL_law_838 : decode cL_law 838 = .ok (.iload_n 3, 1) := by decide +kernel
theorem dL_law_839 : decode cL_law 839 = .ok (.iconst 2, 1) := by decide +kernel
theorem dL_law_840 : decode cL_law 840 = .ok (.iadd, 1) := by decide +kernel
theorem dL_law_841 : decode cL_law 841 = .ok (.iaload, 1) := by decide +kernel
theorem dL_law_842 : decode cL_law 842 = .ok (.invokevirtual 96, 3) := by decide +kernel
theorem dL_law_845 : decode cL_law 845 = .ok (.if_icmp .eq 1225, 3) := by decide +kernel
set_option maxRecDepth 20000 in
theorem gL_X11_apart : GoodIn lw_tbl (wsV RL 93 RX11 yX11_apart vX11_apart) := goodIn_r _ [853, 854, 855, 98, 856, 733, 735, 14, 98, 736, 486, 218, 499, 501, 503, 505, 507, 509, 511, 513, 515, 517, 519, 521, 523, 525, 273, 275, 277, 279, 281, 283, 285, 287, 289, 291, 293, 295, 297, 299, 301, 303, 305, 307] (by decide +kernel) (by decide +kernel)
set_option maxRecDepth 20000 in
theorem gL_X12_apart : GoodIn lw_tbl (wsV RL 96 RX12 yX12_apart vX12_apart) := goodIn_r _ [1623, 1624, 1625, 110, 1626, 1501, 1503, 56, 110, 1504, 1262, 1387, 1388, 1389, 1301, 1303, 1305, 1307, 1309, 1311, 1313, 1315, 1317, 1319, 1321, 1323, 1325, 1327, 1329, 1331, 1333, 1335, 1337, 1339, 1341, 1343, 1345, 1347, 1349, 1351, 1353, 1355, 1357, 1359, 1361, 1363, 1365, 1367, 1369, 1371, 1373, 1375, 1377, 1379] (by decide +kernel) (by decide +kernel)
set_option maxHeartbeats 8000000 in
set_option maxRecDepth 100000 in
theorem law_c19 {p : Program} {e : Env} {s : State} {m : MethodId} {below : List Frame} {meth : Method} {c : Code} (l : Launch) {b : Nat} {xs : Nat → Int32} {D : va_G} {cs : Nat → ClassId} {ad : Nat → Nat} {g : Nat → va_E} {H : Heap} {locs : List Loc} (C0 : lw_At p s m meth c b 6 xs) (X : CxL p s m b meth c D cs) (hj : wJ ad nW) (hA : ∀ i, i < nW → AL s (ad i)) (hFX : FrX cs ad g) (hFM : FrM cs ad g) (hP : va_P D vwCl (wL ad g nW) H) (hS : va_S (AL s) s.heap H locs) (ls : Array Slot) (hl : lv_has ls 4 [(3, .int 0), (2, .ref (ad 197)), (1, .ref (ad 0)), (0, .ref b)]) : W p l e room_1 s m #[Value.ref b] below meth c H locs 218 6259 (lw_Z below #[Value.ref b] s) (F0 m 817 ls []) := by
  have hx := X.1
  have hb : c.code = cL_law := X.2.1
  obtain ⟨-, -, -, -, -, -, hX, hbl, -, -⟩ := id C0
  have hbA : ¬ AL s b := Nat.not_le.mpr hbl
  refine lv_aload_n hx hb dL_law_817 rfl (lv_at hl 2 rfl) ?_
  refine lv_aload_n hx hb dL_law_818 rfl (lv_at hl 3 rfl) ?_
  refine lv_iload_n hx hb dL_law_819 rfl (lv_at hl 0 rfl) ?_
  refine lv_iconst (v := 1) hx hb dL_law_820 (by decide) ?_
  refine lv_iadd hx hb dL_law_821 ?_
  refine lv_topi (fun z_1 ez_1 => ?_)
  obtain rfl : z_1 = 1 := ez_1.trans (by decide)
  refine va_sld hx hb hX hbl hbA hS (i := 1) (by unfold vp_in; decide) dL_law_822 ?_
  refine lv_aload_n hx hb dL_law_823 rfl (lv_at hl 3 rfl) ?_
  refine lv_iload_n hx hb dL_law_824 rfl (lv_at hl 0 rfl) ?_
  refine lv_iconst (v := 2) hx hb dL_law_825 (by decide) ?_
  refine lv_iadd hx hb dL_law_826 ?_
  refine lv_topi (fun z_2 ez_2 => ?_)
  obtain rfl : z_2 = 2 := ez_2.trans (by decide)
  refine va_sld hx hb hX hbl hbA hS (i := 2) (by unfold vp_in; decide) dL_law_827 ?_
  refine q_calli (q := (RX11, TX11, 14)) (As := [.int (xs (Int32.toNatClampNeg 1)), .int (xs (Int32.toNatClampNeg 2))]) (rest := []) X (k_apart l D cs ad hj g (xs (Int32.toNatClampNeg 1)) (xs (Int32.toNatClampNeg 2)) hFX.1 hFX.2.2.2.1) (cwV 2 X.2.2.2.2.1 gL_X11_apart rfl rfl rfl (by decide +kernel) ⟨Nat.le_of_ble_eq_true rfl, Nat.le_of_ble_eq_true rfl⟩) (by decide) (hFX.1) rfl hP hA hS rfl hl.1 rfl (Nat.le_of_ble_eq_true rfl) dL_law_828 ⟨Nat.le_of_ble_eq_true rfl, Nat.le_of_ble_eq_true rfl⟩ (fun r_4 g_3 H locs hw_5 hP hS => ?_)
  obtain ⟨hw_5, hw_5f⟩ := hw_5
  subst hw_5
  rw [hw_5f] at hP
  refine lv_aload_n hx hb dL_law_831 rfl (lv_at hl 1 rfl) ?_
  refine lv_aload_n hx hb dL_law_832 rfl (lv_at hl 3 rfl) ?_
  refine lv_iload_n hx hb dL_law_833 rfl (lv_at hl 0 rfl) ?_
  refine lv_iconst (v := 1) hx hb dL_law_834 (by decide) ?_
  refine lv_iadd hx hb dL_law_835 ?_
  refine lv_topi (fun z_6 ez_6 => ?_)
  obtain rfl : z_6 = 1 := ez_6.trans (by decide)
  refine va_sld hx hb hX hbl hbA hS (i := 1) (by unfold vp_in; decide) dL_law_836 ?_
  refine lv_aload_n hx hb dL_law_837 rfl (lv_at hl 3 rfl) ?_
  refine lv_iload_n hx hb dL_law_838 rfl (lv_at hl 0 rfl) ?_
  refine lv_iconst (v := 2) hx hb dL_law_839 (by decide) ?_
  refine lv_iadd hx hb dL_law_840 ?_
  refine lv_topi (fun z_7 ez_7 => ?_)
  obtain rfl : z_7 = 2 := ez_7.trans (by decide)
  refine va_sld hx hb hX hbl hbA hS (i := 2) (by unfold vp_in; decide) dL_law_841 ?_
  refine q_calli (q := (RX12, TX12, 40)) (As := [.int (xs (Int32.toNatClampNeg 1)), .int (xs (Int32.toNatClampNeg 2))]) (rest := [.int (-2)]) X (m_apart l D cs ad hj g (xs (Int32.toNatClampNeg 1)) (xs (Int32.toNatClampNeg 2)) hFM.1 hFM.2.1) (cwV 2 X.2.2.2.2.1 gL_X12_apart rfl rfl rfl (by decide +kernel) ⟨Nat.le_of_ble_eq_true rfl, Nat.le_of_ble_eq_true rfl⟩) (by decide) (hFM.1) rfl hP hA hS rfl hl.1 rfl (Nat.le_of_ble_eq_true rfl) dL_law_842 ⟨Nat.le_of_ble_eq_true rfl, Nat.le_of_ble_eq_true rfl⟩ (fun r_9 g_8 H locs hw_10 hP hS => ?_)
  obtain ⟨hw_10, -⟩ := hw_10
  subst hw_10
  refine lv_icmp_eq (tgt := 2070) hx hb dL_law_845 (by decide) (fun _ => ?_) (fun h => absurd rfl h)
  exact law_tail l C0 X hS ls hl

theorem dL_law_850 : decode cL_law 850 = .ok (.aload_n 1, 1) := by decide +kernel
theorem dL_law_851 : decode cL_law 851 = .ok (.aload_n 0, 1) := by decide +kernel
theorem dL_law_852 : decode cL_law 852 = .ok (.iload_n 3, 1) := by decide +kernel
theorem dL_law_853 : decode cL_law 853 = .ok (.iconst 1, 1) := by decide +kernel
theorem dL_law_854 : decode cL_law 854 = .ok (.iadd, 1) := by decide +kernel
theorem dL_law_855 : decode cL_law 855 = .ok (.iaload, 1) := by decide +kernel
theorem dL_law_856 : decode cL_law 856 = .ok (.invokevirtual 97, 3) := by decide +kernel
theorem dL_law_859 : decode cL_law 859 = .ok (.aload_n 2, 1) := by decide +kernel
theorem dL_law_860 : decode cL_law 860 = .ok (.aload_n 0, 1) := by decide +kernel
theorem dL_law_861 : decode cL_law 861 = .ok (.iload_n 3, 1) := by decide +kernel
theorem dL_law_862 : decode cL_law 862 = .ok (.iconst 1, 1) := by decide +kernel
theorem dL_law_863 : decode cL_law 863 = .ok (.iadd, 1) := by decide +kernel
theorem dL_law_864 : decode cL_law 864 = .ok (.iaload, 1) := by decide +kernel
theorem dL_law_865 : decode cL_law 865 = .ok (.invokevirtual 100, 3) := by decide +kernel
theorem dL_law_868 : decode cL_law 868 = .ok (.if_icmp .eq 1202, 3) := by decide +kernel
set_option maxRecDepth 20000 in
theorem gL_X11_late : GoodIn lw_tbl (wsV RL 97 RX11 yX11_late vX11_late) := goodIn_r _ [865, 866, 867, 98, 868, 750, 752, 16, 98, 753, 486, 229, 499, 501, 503, 505, 507, 509, 511, 513, 515, 517, 519, 521, 523, 525, 273, 275, 277, 279, 281, 283, 285, 287, 289, 291, 293, 295, 297, 299, 301, 303, 305, 307] (by decide +kernel) (by decide +kernel)
set_option maxRecDepth 20000 in
theorem gL_X12_late : GoodIn lw_tbl (wsV RL 100 RX12 yX12_late vX12_late) := goodIn_r _ [1628, 1629, 1630, 110, 1631, 1528, 1530, 60, 110, 1531, 1262, 1387, 1388, 1389, 1301, 1303, 1305, 1307, 1309, 1311, 1313, 1315, 1317, 1319, 1321, 1323, 1325, 1327, 1329, 1331, 1333, 1335, 1337, 1339, 1341, 1343, 1345, 1347, 1349, 1351, 1353, 1355, 1357, 1359, 1361, 1363, 1365, 1367, 1369, 1371, 1373, 1375, 1377, 1379] (by decide +kernel) (by decide +kernel)
set_option maxHeartbeats 8000000 in
set_option maxRecDepth 100000 in
theorem law_c20 {p : Program} {e : Env} {s : State} {m : MethodId} {below : List Frame} {meth : Method} {c : Code} (l : Launch) {b : Nat} {xs : Nat → Int32} {D : va_G} {cs : Nat → ClassId} {ad : Nat → Nat} {g : Nat → va_E} {H : Heap} {locs : List Loc} (C0 : lw_At p s m meth c b 6 xs) (X : CxL p s m b meth c D cs) (hj : wJ ad nW) (hA : ∀ i, i < nW → AL s (ad i)) (hFX : FrX cs ad g) (hFM : FrM cs ad g) (hP : va_P D vwCl (wL ad g nW) H) (hS : va_S (AL s) s.heap H locs) (ls : Array Slot) (hl : lv_has ls 4 [(3, .int 0), (2, .ref (ad 197)), (1, .ref (ad 0)), (0, .ref b)]) : W p l e room_1 s m #[Value.ref b] below meth c H locs 218 6259 (lw_Z below #[Value.ref b] s) (F0 m 850 ls []) := by
  have hx := X.1
  have hb : c.code = cL_law := X.2.1
  obtain ⟨-, -, -, -, -, -, hX, hbl, -, -⟩ := id C0
  have hbA : ¬ AL s b := Nat.not_le.mpr hbl
  refine lv_aload_n hx hb dL_law_850 rfl (lv_at hl 2 rfl) ?_
  refine lv_aload_n hx hb dL_law_851 rfl (lv_at hl 3 rfl) ?_
  refine lv_iload_n hx hb dL_law_852 rfl (lv_at hl 0 rfl) ?_
  refine lv_iconst (v := 1) hx hb dL_law_853 (by decide) ?_
  refine lv_iadd hx hb dL_law_854 ?_
  refine lv_topi (fun z_1 ez_1 => ?_)
  obtain rfl : z_1 = 1 := ez_1.trans (by decide)
  refine va_sld hx hb hX hbl hbA hS (i := 1) (by unfold vp_in; decide) dL_law_855 ?_
  refine q_calli (q := (RX11, TX11, 14)) (As := [.int (xs (Int32.toNatClampNeg 1))]) (rest := []) X (k_late l D cs ad hj g (xs (Int32.toNatClampNeg 1)) hFX.1 hFX.2.2.2.1) (cwV 1 X.2.2.2.2.1 gL_X11_late rfl rfl rfl (by decide +kernel) ⟨Nat.le_of_ble_eq_true rfl, Nat.le_of_ble_eq_true rfl⟩) (by decide) (hFX.1) rfl hP hA hS rfl hl.1 rfl (Nat.le_of_ble_eq_true rfl) dL_law_856 ⟨Nat.le_of_ble_eq_true rfl, Nat.le_of_ble_eq_true rfl⟩ (fun r_3 g_2 H locs hw_4 hP hS => ?_)
  obtain ⟨hw_4, hw_4f⟩ := hw_4
  subst hw_4
  rw [hw_4f] at hP
  refine lv_aload_n hx hb dL_law_859 rfl (lv_at hl 1 rfl) ?_
  refine lv_aload_n hx hb dL_law_860 rfl (lv_at hl 3 rfl) ?_
  refine lv_iload_n hx hb dL_law_861 rfl (lv_at hl 0 rfl) ?_
  refine lv_iconst (v := 1) hx hb dL_law_862 (by decide) ?_
  refine lv_iadd hx hb dL_law_863 ?_
  refine lv_topi (fun z_5 ez_5 => ?_)
  obtain rfl : z_5 = 1 := ez_5.trans (by decide)
  refine va_sld hx hb hX hbl hbA hS (i := 1) (by unfold vp_in; decide) dL_law_864 ?_
  refine q_calli (q := (RX12, TX12, 40)) (As := [.int (xs (Int32.toNatClampNeg 1))]) (rest := [.int (-1000)]) X (m_late l D cs ad hj g (xs (Int32.toNatClampNeg 1)) hFM.1 hFM.2.1) (cwV 1 X.2.2.2.2.1 gL_X12_late rfl rfl rfl (by decide +kernel) ⟨Nat.le_of_ble_eq_true rfl, Nat.le_of_ble_eq_true rfl⟩) (by decide) (hFM.1) rfl hP hA hS rfl hl.1 rfl (Nat.le_of_ble_eq_true rfl) dL_law_865 ⟨Nat.le_of_ble_eq_true rfl, Nat.le_of_ble_eq_true rfl⟩ (fun r_7 g_6 H locs hw_8 hP hS => ?_)
  obtain ⟨hw_8, -⟩ := hw_8
  subst hw_8
  refine lv_icmp_eq (tgt := 2070) hx hb dL_law_868 (by decide) (fun _ => ?_) (fun h => absurd rfl h)
  exact law_tail l C0 X hS ls hl

theorem dL_law_873 : decode cL_law 873 = .ok (.aload_n 1, 1) := by decide +kernel
theorem dL_law_874 : decode cL_law 874 = .ok (.invokevirtual 101, 3) := by decide +kernel
theorem dL_law_877 : decode cL_law 877 = .ok (.aload_n 2, 1) := by decide +kernel
theorem dL_law_878 : decode cL_law 878 = .ok (.invokevirtual 104, 3) := by decide +kernel
theorem dL_law_881 : decode cL_law 881 = .ok (.if_icmp .eq 1189, 3) := by decide +kernel
set_option maxRecDepth 20000 in
theorem gL_X11_lates : GoodIn lw_tbl (wsV RL 101 RX11 yX11_lates vX11_lates) := goodIn_r _ [873, 874, 875, 98, 876, 810, 812, 17, 98, 813, 486, 232, 499, 501, 503, 505, 507, 509, 511, 513, 515, 517, 519, 521, 523, 525, 273, 275, 277, 279, 281, 283, 285, 287, 289, 291, 293, 295, 297, 299, 301, 303, 305, 307] (by decide +kernel) (by decide +kernel)
set_option maxRecDepth 20000 in
theorem gL_X12_lates : GoodIn lw_tbl (wsV RL 104 RX12 yX12_lates vX12_lates) := goodIn_r _ [1636, 1637, 1638, 110, 1639, 1596, 1598, 68, 110, 1599, 1262, 1301, 1303, 1305, 1307, 1309, 1311, 1313, 1315, 1317, 1319, 1321, 1323, 1325, 1327, 1329, 1331, 1333, 1335, 1337, 1339, 1341, 1343, 1345, 1347, 1349, 1351, 1353, 1355, 1357, 1359, 1361, 1363, 1365, 1367, 1369, 1371, 1373, 1375, 1377, 1379] (by decide +kernel) (by decide +kernel)
set_option maxHeartbeats 8000000 in
set_option maxRecDepth 100000 in
theorem law_c21 {p : Program} {e : Env} {s : State} {m : MethodId} {below : List Frame} {meth : Method} {c : Code} (l : Launch) {b : Nat} {xs : Nat → Int32} {D : va_G} {cs : Nat → ClassId} {ad : Nat → Nat} {g : Nat → va_E} {H : Heap} {locs : List Loc} (C0 : lw_At p s m meth c b 6 xs) (X : CxL p s m b meth c D cs) (hj : wJ ad nW) (hA : ∀ i, i < nW → AL s (ad i)) (hFX : FrX cs ad g) (hFM : FrM cs ad g) (hP : va_P D vwCl (wL ad g nW) H) (hS : va_S (AL s) s.heap H locs) (ls : Array Slot) (hl : lv_has ls 4 [(3, .int 0), (2, .ref (ad 197)), (1, .ref (ad 0)), (0, .ref b)]) : W p l e room_1 s m #[Value.ref b] below meth c H locs 218 6259 (lw_Z below #[Value.ref b] s) (F0 m 873 ls []) := by
  have hx := X.1
  have hb : c.code = cL_law := X.2.1
  obtain ⟨-, -, -, -, -, -, hX, hbl, -, -⟩ := id C0
  have hbA : ¬ AL s b := Nat.not_le.mpr hbl
  refine lv_aload_n hx hb dL_law_873 rfl (lv_at hl 2 rfl) ?_
  refine q_calli (q := (RX11, TX11, 14)) (As := []) (rest := []) X (k_lates l D cs ad hj g  hFX.1 hFX.2.2.2.1) (cwV 0 X.2.2.2.2.1 gL_X11_lates rfl rfl rfl (by decide +kernel) ⟨Nat.le_of_ble_eq_true rfl, Nat.le_of_ble_eq_true rfl⟩) (by decide) (hFX.1) rfl hP hA hS rfl hl.1 rfl (Nat.le_of_ble_eq_true rfl) dL_law_874 ⟨Nat.le_of_ble_eq_true rfl, Nat.le_of_ble_eq_true rfl⟩ (fun r_2 g_1 H locs hw_3 hP hS => ?_)
  obtain ⟨hw_3, hw_3f⟩ := hw_3
  subst hw_3
  rw [hw_3f] at hP
  refine lv_aload_n hx hb dL_law_877 rfl (lv_at hl 1 rfl) ?_
  refine q_calli (q := (RX12, TX12, 40)) (As := []) (rest := [.int (-2)]) X (m_lates l D cs ad hj g  hFM.1 hFM.2.1) (cwV 0 X.2.2.2.2.1 gL_X12_lates rfl rfl rfl (by decide +kernel) ⟨Nat.le_of_ble_eq_true rfl, Nat.le_of_ble_eq_true rfl⟩) (by decide) (hFM.1) rfl hP hA hS rfl hl.1 rfl (Nat.le_of_ble_eq_true rfl) dL_law_878 ⟨Nat.le_of_ble_eq_true rfl, Nat.le_of_ble_eq_true rfl⟩ (fun r_5 g_4 H locs hw_6 hP hS => ?_)
  obtain ⟨hw_6, -⟩ := hw_6
  subst hw_6
  refine lv_icmp_eq (tgt := 2070) hx hb dL_law_881 (by decide) (fun _ => ?_) (fun h => absurd rfl h)
  exact law_tail l C0 X hS ls hl

theorem dL_law_886 : decode cL_law 886 = .ok (.aload_n 1, 1) := by decide +kernel
theorem dL_law_887 : decode cL_law 887 = .ok (.invokevirtual 105, 3) := by decide +kernel
theorem dL_law_890 : decode cL_law 890 = .ok (.aload_n 2, 1) := by decide +kernel
theorem dL_law_891 : decode cL_law 891 = .ok (.invokevirtual 108, 3) := by decide +kernel
theorem dL_law_894 : decode cL_law 894 = .ok (.if_icmp .eq 1176, 3) := by decide +kernel
set_option maxRecDepth 20000 in
theorem gL_X11_off : GoodIn lw_tbl (wsV RL 105 RX11 yX11_off vX11_off) := goodIn_r _ [877, 878, 879, 98, 880, 810, 812, 17, 98, 813, 486, 232, 499, 501, 503, 505, 507, 509, 511, 513, 515, 517, 519, 521, 523, 525, 273, 275, 277, 279, 281, 283, 285, 287, 289, 291, 293, 295, 297, 299, 301, 303, 305, 307] (by decide +kernel) (by decide +kernel)
set_option maxRecDepth 20000 in
theorem gL_X12_off : GoodIn lw_tbl (wsV RL 108 RX12 yX12_off vX12_off) := goodIn_r _ [1640, 1641, 1642, 110, 1643, 1596, 1598, 68, 110, 1599, 1262, 1301, 1303, 1305, 1307, 1309, 1311, 1313, 1315, 1317, 1319, 1321, 1323, 1325, 1327, 1329, 1331, 1333, 1335, 1337, 1339, 1341, 1343, 1345, 1347, 1349, 1351, 1353, 1355, 1357, 1359, 1361, 1363, 1365, 1367, 1369, 1371, 1373, 1375, 1377, 1379] (by decide +kernel) (by decide +kernel)
set_option maxHeartbeats 8000000 in
set_option maxRecDepth 100000 in
theorem law_c22 {p : Program} {e : Env} {s : State} {m : MethodId} {below : List Frame} {meth : Method} {c : Code} (l : Launch) {b : Nat} {xs : Nat → Int32} {D : va_G} {cs : Nat → ClassId} {ad : Nat → Nat} {g : Nat → va_E} {H : Heap} {locs : List Loc} (C0 : lw_At p s m meth c b 6 xs) (X : CxL p s m b meth c D cs) (hj : wJ ad nW) (hA : ∀ i, i < nW → AL s (ad i)) (hFX : FrX cs ad g) (hFM : FrM cs ad g) (hP : va_P D vwCl (wL ad g nW) H) (hS : va_S (AL s) s.heap H locs) (ls : Array Slot) (hl : lv_has ls 4 [(3, .int 0), (2, .ref (ad 197)), (1, .ref (ad 0)), (0, .ref b)]) : W p l e room_1 s m #[Value.ref b] below meth c H locs 218 6259 (lw_Z below #[Value.ref b] s) (F0 m 886 ls []) := by
  have hx := X.1
  have hb : c.code = cL_law := X.2.1
  obtain ⟨-, -, -, -, -, -, hX, hbl, -, -⟩ := id C0
  have hbA : ¬ AL s b := Nat.not_le.mpr hbl
  refine lv_aload_n hx hb dL_law_886 rfl (lv_at hl 2 rfl) ?_
  refine q_calli (q := (RX11, TX11, 14)) (As := []) (rest := []) X (k_off l D cs ad hj g  hFX.1 hFX.2.2.2.1) (cwV 0 X.2.2.2.2.1 gL_X11_off rfl rfl rfl (by decide +kernel) ⟨Nat.le_of_ble_eq_true rfl, Nat.le_of_ble_eq_true rfl⟩) (by decide) (hFX.1) rfl hP hA hS rfl hl.1 rfl (Nat.le_of_ble_eq_true rfl) dL_law_887 ⟨Nat.le_of_ble_eq_true rfl, Nat.le_of_ble_eq_true rfl⟩ (fun r_2 g_1 H locs hw_3 hP hS => ?_)
  obtain ⟨hw_3, hw_3f⟩ := hw_3
  subst hw_3
  rw [hw_3f] at hP
  refine lv_aload_n hx hb dL_law_890 rfl (lv_at hl 1 rfl) ?_
  refine q_calli (q := (RX12, TX12, 40)) (As := []) (rest := [.int (-2)]) X (m_off l D cs ad hj g  hFM.1 hFM.2.1) (cwV 0 X.2.2.2.2.1 gL_X12_off rfl rfl rfl (by decide +kernel) ⟨Nat.le_of_ble_eq_true rfl, Nat.le_of_ble_eq_true rfl⟩) (by decide) (hFM.1) rfl hP hA hS rfl hl.1 rfl (Nat.le_of_ble_eq_true rfl) dL_law_891 ⟨Nat.le_of_ble_eq_true rfl, Nat.le_of_ble_eq_true rfl⟩ (fun r_5 g_4 H locs hw_6 hP hS => ?_)
  obtain ⟨hw_6, -⟩ := hw_6
  subst hw_6
  refine lv_icmp_eq (tgt := 2070) hx hb dL_law_894 (by decide) (fun _ => ?_) (fun h => absurd rfl h)
  exact law_tail l C0 X hS ls hl

theorem dL_law_899 : decode cL_law 899 = .ok (.aload_n 1, 1) := by decide +kernel
theorem dL_law_900 : decode cL_law 900 = .ok (.invokevirtual 109, 3) := by decide +kernel
theorem dL_law_903 : decode cL_law 903 = .ok (.aload_n 2, 1) := by decide +kernel
theorem dL_law_904 : decode cL_law 904 = .ok (.invokevirtual 112, 3) := by decide +kernel
theorem dL_law_907 : decode cL_law 907 = .ok (.if_icmp .eq 1163, 3) := by decide +kernel
set_option maxRecDepth 20000 in
theorem gL_X11_worst : GoodIn lw_tbl (wsV RL 109 RX11 yX11_worst vX11_worst) := goodIn_r _ [887, 888, 889, 98, 890, 810, 812, 17, 98, 813, 486, 232, 499, 501, 503, 505, 507, 509, 511, 513, 515, 517, 519, 521, 523, 525, 273, 275, 277, 279, 281, 283, 285, 287, 289, 291, 293, 295, 297, 299, 301, 303, 305, 307] (by decide +kernel) (by decide +kernel)
set_option maxRecDepth 20000 in
theorem gL_X12_worst : GoodIn lw_tbl (wsV RL 112 RX12 yX12_worst vX12_worst) := goodIn_r _ [1648, 1649, 1650, 110, 1651, 1596, 1598, 68, 110, 1599, 1262, 1301, 1303, 1305, 1307, 1309, 1311, 1313, 1315, 1317, 1319, 1321, 1323, 1325, 1327, 1329, 1331, 1333, 1335, 1337, 1339, 1341, 1343, 1345, 1347, 1349, 1351, 1353, 1355, 1357, 1359, 1361, 1363, 1365, 1367, 1369, 1371, 1373, 1375, 1377, 1379] (by decide +kernel) (by decide +kernel)
set_option maxHeartbeats 8000000 in
set_option maxRecDepth 100000 in
theorem law_c23 {p : Program} {e : Env} {s : State} {m : MethodId} {below : List Frame} {meth : Method} {c : Code} (l : Launch) {b : Nat} {xs : Nat → Int32} {D : va_G} {cs : Nat → ClassId} {ad : Nat → Nat} {g : Nat → va_E} {H : Heap} {locs : List Loc} (C0 : lw_At p s m meth c b 6 xs) (X : CxL p s m b meth c D cs) (hj : wJ ad nW) (hA : ∀ i, i < nW → AL s (ad i)) (hFX : FrX cs ad g) (hFM : FrM cs ad g) (hP : va_P D vwCl (wL ad g nW) H) (hS : va_S (AL s) s.heap H locs) (ls : Array Slot) (hl : lv_has ls 4 [(3, .int 0), (2, .ref (ad 197)), (1, .ref (ad 0)), (0, .ref b)]) : W p l e room_1 s m #[Value.ref b] below meth c H locs 218 6259 (lw_Z below #[Value.ref b] s) (F0 m 899 ls []) := by
  have hx := X.1
  have hb : c.code = cL_law := X.2.1
  obtain ⟨-, -, -, -, -, -, hX, hbl, -, -⟩ := id C0
  have hbA : ¬ AL s b := Nat.not_le.mpr hbl
  refine lv_aload_n hx hb dL_law_899 rfl (lv_at hl 2 rfl) ?_
  refine q_calli (q := (RX11, TX11, 14)) (As := []) (rest := []) X (k_worst l D cs ad hj g  hFX.1 hFX.2.2.2.1) (cwV 0 X.2.2.2.2.1 gL_X11_worst rfl rfl rfl (by decide +kernel) ⟨Nat.le_of_ble_eq_true rfl, Nat.le_of_ble_eq_true rfl⟩) (by decide) (hFX.1) rfl hP hA hS rfl hl.1 rfl (Nat.le_of_ble_eq_true rfl) dL_law_900 ⟨Nat.le_of_ble_eq_true rfl, Nat.le_of_ble_eq_true rfl⟩ (fun r_2 g_1 H locs hw_3 hP hS => ?_)
  obtain ⟨hw_3, hw_3f⟩ := hw_3
  subst hw_3
  rw [hw_3f] at hP
  refine lv_aload_n hx hb dL_law_903 rfl (lv_at hl 1 rfl) ?_
  refine q_calli (q := (RX12, TX12, 40)) (As := []) (rest := [.int (-2)]) X (m_worst l D cs ad hj g  hFM.1 hFM.2.1) (cwV 0 X.2.2.2.2.1 gL_X12_worst rfl rfl rfl (by decide +kernel) ⟨Nat.le_of_ble_eq_true rfl, Nat.le_of_ble_eq_true rfl⟩) (by decide) (hFM.1) rfl hP hA hS rfl hl.1 rfl (Nat.le_of_ble_eq_true rfl) dL_law_904 ⟨Nat.le_of_ble_eq_true rfl, Nat.le_of_ble_eq_true rfl⟩ (fun r_5 g_4 H locs hw_6 hP hS => ?_)
  obtain ⟨hw_6, -⟩ := hw_6
  subst hw_6
  refine lv_icmp_eq (tgt := 2070) hx hb dL_law_907 (by decide) (fun _ => ?_) (fun h => absurd rfl h)
  exact law_tail l C0 X hS ls hl

theorem dL_law_912 : decode cL_law 912 = .ok (.aload_n 1, 1) := by decide +kernel
theorem dL_law_913 : decode cL_law 913 = .ok (.aload_n 0, 1) := by decide +kernel
theorem dL_law_914 : decode cL_law 914 = .ok (.iload_n 3, 1) := by decide +kernel
theorem dL_law_915 : decode cL_law 915 = .ok (.iconst 1, 1) := by decide +kernel
theorem dL_law_916 : decode cL_law 916 = .ok (.iadd, 1) := by decide +kernel
theorem dL_law_917 : decode cL_law 917 = .ok (.iaload, 1) := by decide +kernel
theorem dL_law_918 : decode cL_law 918 = .ok (.aload_n 0, 1) := by decide +kernel
theorem dL_law_919 : decode cL_law 919 = .ok (.iload_n 3, 1) := by decide +kernel
theorem dL_law_920 : decode cL_law 920 = .ok (.iconst 2, 1) := by decide +kernel
theorem dL_law_921 : decode cL_law 921 = .ok (.iadd, 1) := by decide +kernel
theorem dL_law_922 : decode cL_law 922 = .ok (.iaload, 1) := by decide +kernel
theorem dL_law_923 : decode cL_law 923 = .ok (.invokevirtual 113, 3) := by decide +kernel
theorem dL_law_926 : decode cL_law 926 = .ok (.aload_n 2, 1) := by decide +kernel
theorem dL_law_927 : decode cL_law 927 = .ok (.aload_n 0, 1) := by decide +kernel
theorem dL_law_928 : decode cL_law 928 = .ok (.iload_n 3, 1) := by decide +kernel
theorem dL_law_929 : decode cL_law 929 = .ok (.iconst 1, 1) := by decide +kernel
theorem dL_law_930 : decode cL_law 930 = .ok (.iadd, 1) := by decide +kernel
theorem dL_law_931 : decode cL_law 931 = .ok (.iaload, 1) := by decide +kernel
theorem dL_law_932 : decode cL_law 932 = .ok (.aload_n 0, 1) := by decide +kernel
theorem dL_law_933 : decode cL_law 933 = .ok (.iload_n 3, 1) := by decide +kernel
theorem dL_law_934 : decode cL_law 934 = .ok (.iconst 2, 1) := by decide +kernel
theorem dL_law_935 : decode cL_law 935 = .ok (.iadd, 1) := by decide +kernel
theorem dL_law_936 : decode cL_law 936 = .ok (.iaload, 1) := by decide +kernel
theorem dL_law_937 : decode cL_law 937 = .ok (.invokevirtual 116, 3) := by decide +kernel
theorem dL_law_940 : decode cL_law 940 = .ok (.if_icmp .eq 1130, 3) := by decide +kernel
set_option maxRecDepth 20000 in
theorem gL_X11_size : GoodIn lw_tbl (wsV RL 113 RX11 yX11_size vX11_size) := goodIn_r _ [891, 892, 893, 98, 894, 742, 744, 15, 98, 745, 486, 225, 499, 501, 503, 505, 507, 509, 511, 513, 515, 517, 519, 521, 523, 525, 273, 275, 277, 279, 281, 283, 285, 287, 289, 291, 293, 295, 297, 299, 301, 303, 305, 307] (by decide +kernel) (by decide +kernel)
set_option maxRecDepth 20000 in
theorem gL_X12_size : GoodIn lw_tbl (wsV RL 116 RX12 yX12_size vX12_size) := goodIn_r _ [1652, 1653, 1654, 110, 1655, 1656, 1658, 73, 110, 1659, 1516, 1518, 58, 1519, 1262, 1387, 1388, 1389, 1301, 1303, 1305, 1307, 1309, 1311, 1313, 1315, 1317, 1319, 1321, 1323, 1325, 1327, 1329, 1331, 1333, 1335, 1337, 1339, 1341, 1343, 1345, 1347, 1349, 1351, 1353, 1355, 1357, 1359, 1361, 1363, 1365, 1367, 1369, 1371, 1373, 1375, 1377, 1379] (by decide +kernel) (by decide +kernel)
set_option maxHeartbeats 8000000 in
set_option maxRecDepth 100000 in
theorem law_c24 {p : Program} {e : Env} {s : State} {m : MethodId} {below : List Frame} {meth : Method} {c : Code} (l : Launch) {b : Nat} {xs : Nat → Int32} {D : va_G} {cs : Nat → ClassId} {ad : Nat → Nat} {g : Nat → va_E} {H : Heap} {locs : List Loc} (C0 : lw_At p s m meth c b 6 xs) (X : CxL p s m b meth c D cs) (hj : wJ ad nW) (hA : ∀ i, i < nW → AL s (ad i)) (hFX : FrX cs ad g) (hFM : FrM cs ad g) (hP : va_P D vwCl (wL ad g nW) H) (hS : va_S (AL s) s.heap H locs) (ls : Array Slot) (hl : lv_has ls 4 [(3, .int 0), (2, .ref (ad 197)), (1, .ref (ad 0)), (0, .ref b)]) : W p l e room_1 s m #[Value.ref b] below meth c H locs 218 6259 (lw_Z below #[Value.ref b] s) (F0 m 912 ls []) := by
  have hx := X.1
  have hb : c.code = cL_law := X.2.1
  obtain ⟨-, -, -, -, -, -, hX, hbl, -, -⟩ := id C0
  have hbA : ¬ AL s b := Nat.not_le.mpr hbl
  refine lv_aload_n hx hb dL_law_912 rfl (lv_at hl 2 rfl) ?_
  refine lv_aload_n hx hb dL_law_913 rfl (lv_at hl 3 rfl) ?_
  refine lv_iload_n hx hb dL_law_914 rfl (lv_at hl 0 rfl) ?_
  refine lv_iconst (v := 1) hx hb dL_law_915 (by decide) ?_
  refine lv_iadd hx hb dL_law_916 ?_
  refine lv_topi (fun z_1 ez_1 => ?_)
  obtain rfl : z_1 = 1 := ez_1.trans (by decide)
  refine va_sld hx hb hX hbl hbA hS (i := 1) (by unfold vp_in; decide) dL_law_917 ?_
  refine lv_aload_n hx hb dL_law_918 rfl (lv_at hl 3 rfl) ?_
  refine lv_iload_n hx hb dL_law_919 rfl (lv_at hl 0 rfl) ?_
  refine lv_iconst (v := 2) hx hb dL_law_920 (by decide) ?_
  refine lv_iadd hx hb dL_law_921 ?_
  refine lv_topi (fun z_2 ez_2 => ?_)
  obtain rfl : z_2 = 2 := ez_2.trans (by decide)
  refine va_sld hx hb hX hbl hbA hS (i := 2) (by unfold vp_in; decide) dL_law_922 ?_
  refine q_calli (q := (RX11, TX11, 14)) (As := [.int (xs (Int32.toNatClampNeg 1)), .int (xs (Int32.toNatClampNeg 2))]) (rest := []) X (k_size l D cs ad hj g (xs (Int32.toNatClampNeg 1)) (xs (Int32.toNatClampNeg 2)) hFX.1 hFX.2.2.2.1) (cwV 2 X.2.2.2.2.1 gL_X11_size rfl rfl rfl (by decide +kernel) ⟨Nat.le_of_ble_eq_true rfl, Nat.le_of_ble_eq_true rfl⟩) (by decide) (hFX.1) rfl hP hA hS rfl hl.1 rfl (Nat.le_of_ble_eq_true rfl) dL_law_923 ⟨Nat.le_of_ble_eq_true rfl, Nat.le_of_ble_eq_true rfl⟩ (fun r_4 g_3 H locs hw_5 hP hS => ?_)
  obtain ⟨hw_5, hw_5f⟩ := hw_5
  subst hw_5
  rw [hw_5f] at hP
  refine lv_aload_n hx hb dL_law_926 rfl (lv_at hl 1 rfl) ?_
  refine lv_aload_n hx hb dL_law_927 rfl (lv_at hl 3 rfl) ?_
  refine lv_iload_n hx hb dL_law_928 rfl (lv_at hl 0 rfl) ?_
  refine lv_iconst (v := 1) hx hb dL_law_929 (by decide) ?_
  refine lv_iadd hx hb dL_law_930 ?_
  refine lv_topi (fun z_6 ez_6 => ?_)
  obtain rfl : z_6 = 1 := ez_6.trans (by decide)
  refine va_sld hx hb hX hbl hbA hS (i := 1) (by unfold vp_in; decide) dL_law_931 ?_
  refine lv_aload_n hx hb dL_law_932 rfl (lv_at hl 3 rfl) ?_
  refine lv_iload_n hx hb dL_law_933 rfl (lv_at hl 0 rfl) ?_
  refine lv_iconst (v := 2) hx hb dL_law_934 (by decide) ?_
  refine lv_iadd hx hb dL_law_935 ?_
  refine lv_topi (fun z_7 ez_7 => ?_)
  obtain rfl : z_7 = 2 := ez_7.trans (by decide)
  refine va_sld hx hb hX hbl hbA hS (i := 2) (by unfold vp_in; decide) dL_law_936 ?_
  refine q_calli (q := (RX12, TX12, 40)) (As := [.int (xs (Int32.toNatClampNeg 1)), .int (xs (Int32.toNatClampNeg 2))]) (rest := [.int (-2)]) X (m_size l D cs ad hj g (xs (Int32.toNatClampNeg 1)) (xs (Int32.toNatClampNeg 2)) hFM.1 hFM.2.1) (cwV 2 X.2.2.2.2.1 gL_X12_size rfl rfl rfl (by decide +kernel) ⟨Nat.le_of_ble_eq_true rfl, Nat.le_of_ble_eq_true rfl⟩) (by decide) (hFM.1) rfl hP hA hS rfl hl.1 rfl (Nat.le_of_ble_eq_true rfl) dL_law_937 ⟨Nat.le_of_ble_eq_true rfl, Nat.le_of_ble_eq_true rfl⟩ (fun r_9 g_8 H locs hw_10 hP hS => ?_)
  obtain ⟨hw_10, -⟩ := hw_10
  subst hw_10
  refine lv_icmp_eq (tgt := 2070) hx hb dL_law_940 (by decide) (fun _ => ?_) (fun h => absurd rfl h)
  exact law_tail l C0 X hS ls hl

theorem dL_law_945 : decode cL_law 945 = .ok (.aload_n 1, 1) := by decide +kernel
theorem dL_law_946 : decode cL_law 946 = .ok (.aload_n 0, 1) := by decide +kernel
theorem dL_law_947 : decode cL_law 947 = .ok (.iload_n 3, 1) := by decide +kernel
theorem dL_law_948 : decode cL_law 948 = .ok (.iconst 1, 1) := by decide +kernel
theorem dL_law_949 : decode cL_law 949 = .ok (.iadd, 1) := by decide +kernel
theorem dL_law_950 : decode cL_law 950 = .ok (.iaload, 1) := by decide +kernel
theorem dL_law_951 : decode cL_law 951 = .ok (.aload_n 0, 1) := by decide +kernel
theorem dL_law_952 : decode cL_law 952 = .ok (.iload_n 3, 1) := by decide +kernel
theorem dL_law_953 : decode cL_law 953 = .ok (.iconst 2, 1) := by decide +kernel
theorem dL_law_954 : decode cL_law 954 = .ok (.iadd, 1) := by decide +kernel
theorem dL_law_955 : decode cL_law 955 = .ok (.iaload, 1) := by decide +kernel
theorem dL_law_956 : decode cL_law 956 = .ok (.invokevirtual 117, 3) := by decide +kernel
theorem dL_law_959 : decode cL_law 959 = .ok (.aload_n 2, 1) := by decide +kernel
theorem dL_law_960 : decode cL_law 960 = .ok (.aload_n 0, 1) := by decide +kernel
theorem dL_law_961 : decode cL_law 961 = .ok (.iload_n 3, 1) := by decide +kernel
theorem dL_law_962 : decode cL_law 962 = .ok (.iconst 1, 1) := by decide +kernel
theorem dL_law_963 : decode cL_law 963 = .ok (.iadd, 1) := by decide +kernel
theorem dL_law_964 : decode cL_law 964 = .ok (.iaload, 1) := by decide +kernel
theorem dL_law_965 : decode cL_law 965 = .ok (.aload_n 0, 1) := by decide +kernel
theorem dL_law_966 : decode cL_law 966 = .ok (.iload_n 3, 1) := by decide +kernel
theorem dL_law_967 : decode cL_law 967 = .ok (.iconst 2, 1) := by decide +kernel
theorem dL_law_968 : decode cL_law 968 = .ok (.iadd, 1) := by decide +kernel
theorem dL_law_969 : decode cL_law 969 = .ok (.iaload, 1) := by decide +kernel
theorem dL_law_970 : decode cL_law 970 = .ok (.invokevirtual 120, 3) := by decide +kernel
theorem dL_law_973 : decode cL_law 973 = .ok (.if_icmp .eq 1097, 3) := by decide +kernel
set_option maxRecDepth 20000 in
theorem gL_X11_sizes : GoodIn lw_tbl (wsV RL 117 RX11 yX11_sizes vX11_sizes) := goodIn_r _ [903, 904, 905, 98, 906, 742, 744, 15, 98, 745, 486, 225, 499, 501, 503, 505, 507, 509, 511, 513, 515, 517, 519, 521, 523, 525, 273, 275, 277, 279, 281, 283, 285, 287, 289, 291, 293, 295, 297, 299, 301, 303, 305, 307] (by decide +kernel) (by decide +kernel)
set_option maxRecDepth 20000 in
theorem gL_X12_sizes : GoodIn lw_tbl (wsV RL 120 RX12 yX12_sizes vX12_sizes) := goodIn_r _ [1660, 1661, 1662, 110, 1663, 1656, 1658, 73, 110, 1659, 1516, 1518, 58, 1519, 1262, 1387, 1388, 1389, 1301, 1303, 1305, 1307, 1309, 1311, 1313, 1315, 1317, 1319, 1321, 1323, 1325, 1327, 1329, 1331, 1333, 1335, 1337, 1339, 1341, 1343, 1345, 1347, 1349, 1351, 1353, 1355, 1357, 1359, 1361, 1363, 1365, 1367, 1369, 1371, 1373, 1375, 1377, 1379] (by decide +kernel) (by decide +kernel)
set_option maxHeartbeats 8000000 in
set_option maxRecDepth 100000 in
theorem law_c25 {p : Program} {e : Env} {s : State} {m : MethodId} {below : List Frame} {meth : Method} {c : Code} (l : Launch) {b : Nat} {xs : Nat → Int32} {D : va_G} {cs : Nat → ClassId} {ad : Nat → Nat} {g : Nat → va_E} {H : Heap} {locs : List Loc} (C0 : lw_At p s m meth c b 6 xs) (X : CxL p s m b meth c D cs) (hj : wJ ad nW) (hA : ∀ i, i < nW → AL s (ad i)) (hFX : FrX cs ad g) (hFM : FrM cs ad g) (hP : va_P D vwCl (wL ad g nW) H) (hS : va_S (AL s) s.heap H locs) (ls : Array Slot) (hl : lv_has ls 4 [(3, .int 0), (2, .ref (ad 197)), (1, .ref (ad 0)), (0, .ref b)]) : W p l e room_1 s m #[Value.ref b] below meth c H locs 218 6259 (lw_Z below #[Value.ref b] s) (F0 m 945 ls []) := by
  have hx := X.1
  have hb : c.code = cL_law := X.2.1
  obtain ⟨-, -, -, -, -, -, hX, hbl, -, -⟩ := id C0
  have hbA : ¬ AL s b := Nat.not_le.mpr hbl
  refine lv_aload_n hx hb dL_law_945 rfl (lv_at hl 2 rfl) ?_
  refine lv_aload_n hx hb dL_law_946 rfl (lv_at hl 3 rfl) ?_
  refine lv_iload_n hx hb dL_law_947 rfl (lv_at hl 0 rfl) ?_
  refine lv_iconst (v := 1) hx hb dL_law_948 (by decide) ?_
  refine lv_iadd hx hb dL_law_949 ?_
  refine lv_topi (fun z_1 ez_1 => ?_)
  obtain rfl : z_1 = 1 := ez_1.trans (by decide)
  refine va_sld hx hb hX hbl hbA hS (i := 1) (by unfold vp_in; decide) dL_law_950 ?_
  refine lv_aload_n hx hb dL_law_951 rfl (lv_at hl 3 rfl) ?_
  refine lv_iload_n hx hb dL_law_952 rfl (lv_at hl 0 rfl) ?_
  refine lv_iconst (v := 2) hx hb dL_law_953 (by decide) ?_
  refine lv_iadd hx hb dL_law_954 ?_
  refine lv_topi (fun z_2 ez_2 => ?_)
  obtain rfl : z_2 = 2 := ez_2.trans (by decide)
  refine va_sld hx hb hX hbl hbA hS (i := 2) (by unfold vp_in; decide) dL_law_955 ?_
  refine q_calli (q := (RX11, TX11, 14)) (As := [.int (xs (Int32.toNatClampNeg 1)), .int (xs (Int32.toNatClampNeg 2))]) (rest := []) X (k_sizes l D cs ad hj g (xs (Int32.toNatClampNeg 1)) (xs (Int32.toNatClampNeg 2)) hFX.1 hFX.2.2.2.1) (cwV 2 X.2.2.2.2.1 gL_X11_sizes rfl rfl rfl (by decide +kernel) ⟨Nat.le_of_ble_eq_true rfl, Nat.le_of_ble_eq_true rfl⟩) (by decide) (hFX.1) rfl hP hA hS rfl hl.1 rfl (Nat.le_of_ble_eq_true rfl) dL_law_956 ⟨Nat.le_of_ble_eq_true rfl, Nat.le_of_ble_eq_true rfl⟩ (fun r_4 g_3 H locs hw_5 hP hS => ?_)
  obtain ⟨hw_5, hw_5f⟩ := hw_5
  subst hw_5
  rw [hw_5f] at hP
  refine lv_aload_n hx hb dL_law_959 rfl (lv_at hl 1 rfl) ?_
  refine lv_aload_n hx hb dL_law_960 rfl (lv_at hl 3 rfl) ?_
  refine lv_iload_n hx hb dL_law_961 rfl (lv_at hl 0 rfl) ?_
  refine lv_iconst (v := 1) hx hb dL_law_962 (by decide) ?_
  refine lv_iadd hx hb dL_law_963 ?_
  refine lv_topi (fun z_6 ez_6 => ?_)
  obtain rfl : z_6 = 1 := ez_6.trans (by decide)
  refine va_sld hx hb hX hbl hbA hS (i := 1) (by unfold vp_in; decide) dL_law_964 ?_
  refine lv_aload_n hx hb dL_law_965 rfl (lv_at hl 3 rfl) ?_
  refine lv_iload_n hx hb dL_law_966 rfl (lv_at hl 0 rfl) ?_
  refine lv_iconst (v := 2) hx hb dL_law_967 (by decide) ?_
  refine lv_iadd hx hb dL_law_968 ?_
  refine lv_topi (fun z_7 ez_7 => ?_)
  obtain rfl : z_7 = 2 := ez_7.trans (by decide)
  refine va_sld hx hb hX hbl hbA hS (i := 2) (by unfold vp_in; decide) dL_law_969 ?_
  refine q_calli (q := (RX12, TX12, 40)) (As := [.int (xs (Int32.toNatClampNeg 1)), .int (xs (Int32.toNatClampNeg 2))]) (rest := [.int (-2)]) X (m_sizes l D cs ad hj g (xs (Int32.toNatClampNeg 1)) (xs (Int32.toNatClampNeg 2)) hFM.1 hFM.2.1) (cwV 2 X.2.2.2.2.1 gL_X12_sizes rfl rfl rfl (by decide +kernel) ⟨Nat.le_of_ble_eq_true rfl, Nat.le_of_ble_eq_true rfl⟩) (by decide) (hFM.1) rfl hP hA hS rfl hl.1 rfl (Nat.le_of_ble_eq_true rfl) dL_law_970 ⟨Nat.le_of_ble_eq_true rfl, Nat.le_of_ble_eq_true rfl⟩ (fun r_9 g_8 H locs hw_10 hP hS => ?_)
  obtain ⟨hw_10, -⟩ := hw_10
  subst hw_10
  refine lv_icmp_eq (tgt := 2070) hx hb dL_law_973 (by decide) (fun _ => ?_) (fun h => absurd rfl h)
  exact law_tail l C0 X hS ls hl

theorem dL_law_978 : decode cL_law 978 = .ok (.aload_n 1, 1) := by decide +kernel
theorem dL_law_979 : decode cL_law 979 = .ok (.aload_n 0, 1) := by decide +kernel
theorem dL_law_980 : decode cL_law 980 = .ok (.iload_n 3, 1) := by decide +kernel
theorem dL_law_981 : decode cL_law 981 = .ok (.iconst 1, 1) := by decide +kernel
theorem dL_law_982 : decode cL_law 982 = .ok (.iadd, 1) := by decide +kernel
theorem dL_law_983 : decode cL_law 983 = .ok (.iaload, 1) := by decide +kernel
theorem dL_law_984 : decode cL_law 984 = .ok (.aload_n 0, 1) := by decide +kernel
theorem dL_law_985 : decode cL_law 985 = .ok (.iload_n 3, 1) := by decide +kernel
theorem dL_law_986 : decode cL_law 986 = .ok (.iconst 2, 1) := by decide +kernel
theorem dL_law_987 : decode cL_law 987 = .ok (.iadd, 1) := by decide +kernel
theorem dL_law_988 : decode cL_law 988 = .ok (.iaload, 1) := by decide +kernel
theorem dL_law_989 : decode cL_law 989 = .ok (.invokevirtual 121, 3) := by decide +kernel
theorem dL_law_992 : decode cL_law 992 = .ok (.aload_n 2, 1) := by decide +kernel
theorem dL_law_993 : decode cL_law 993 = .ok (.aload_n 0, 1) := by decide +kernel
theorem dL_law_994 : decode cL_law 994 = .ok (.iload_n 3, 1) := by decide +kernel
theorem dL_law_995 : decode cL_law 995 = .ok (.iconst 1, 1) := by decide +kernel
theorem dL_law_996 : decode cL_law 996 = .ok (.iadd, 1) := by decide +kernel
theorem dL_law_997 : decode cL_law 997 = .ok (.iaload, 1) := by decide +kernel
theorem dL_law_998 : decode cL_law 998 = .ok (.aload_n 0, 1) := by decide +kernel
theorem dL_law_999 : decode cL_law 999 = .ok (.iload_n 3, 1) := by decide +kernel
theorem dL_law_1000 : decode cL_law 1000 = .ok (.iconst 2, 1) := by decide +kernel
theorem dL_law_1001 : decode cL_law 1001 = .ok (.iadd, 1) := by decide +kernel
theorem dL_law_1002 : decode cL_law 1002 = .ok (.iaload, 1) := by decide +kernel
theorem dL_law_1003 : decode cL_law 1003 = .ok (.invokevirtual 124, 3) := by decide +kernel
theorem dL_law_1006 : decode cL_law 1006 = .ok (.if_icmp .eq 1064, 3) := by decide +kernel
set_option maxRecDepth 20000 in
theorem gL_X11_place : GoodIn lw_tbl (wsV RL 121 RX11 yX11_place vX11_place) := goodIn_r _ [907, 908, 909, 98, 910, 742, 744, 15, 98, 745, 486, 225, 499, 501, 503, 505, 507, 509, 511, 513, 515, 517, 519, 521, 523, 525, 273, 275, 277, 279, 281, 283, 285, 287, 289, 291, 293, 295, 297, 299, 301, 303, 305, 307] (by decide +kernel) (by decide +kernel)
set_option maxRecDepth 20000 in
theorem gL_X12_place : GoodIn lw_tbl (wsV RL 124 RX12 yX12_place vX12_place) := goodIn_r _ [1664, 1665, 1666, 110, 1667, 1656, 1658, 73, 110, 1659, 1516, 1518, 58, 1519, 1262, 1387, 1388, 1389, 1301, 1303, 1305, 1307, 1309, 1311, 1313, 1315, 1317, 1319, 1321, 1323, 1325, 1327, 1329, 1331, 1333, 1335, 1337, 1339, 1341, 1343, 1345, 1347, 1349, 1351, 1353, 1355, 1357, 1359, 1361, 1363, 1365, 1367, 1369, 1371, 1373, 1375, 1377, 1379] (by decide +kernel) (by decide +kernel)
set_option maxHeartbeats 8000000 in
set_option maxRecDepth 100000 in
theorem law_c26 {p : Program} {e : Env} {s : State} {m : MethodId} {below : List Frame} {meth : Method} {c : Code} (l : Launch) {b : Nat} {xs : Nat → Int32} {D : va_G} {cs : Nat → ClassId} {ad : Nat → Nat} {g : Nat → va_E} {H : Heap} {locs : List Loc} (C0 : lw_At p s m meth c b 6 xs) (X : CxL p s m b meth c D cs) (hj : wJ ad nW) (hA : ∀ i, i < nW → AL s (ad i)) (hFX : FrX cs ad g) (hFM : FrM cs ad g) (hP : va_P D vwCl (wL ad g nW) H) (hS : va_S (AL s) s.heap H locs) (ls : Array Slot) (hl : lv_has ls 4 [(3, .int 0), (2, .ref (ad 197)), (1, .ref (ad 0)), (0, .ref b)]) : W p l e room_1 s m #[Value.ref b] below meth c H locs 218 6259 (lw_Z below #[Value.ref b] s) (F0 m 978 ls []) := by
  have hx := X.1
  have hb : c.code = cL_law := X.2.1
  obtain ⟨-, -, -, -, -, -, hX, hbl, -, -⟩ := id C0
  have hbA : ¬ AL s b := Nat.not_le.mpr hbl
  refine lv_aload_n hx hb dL_law_978 rfl (lv_at hl 2 rfl) ?_
  refine lv_aload_n hx hb dL_law_979 rfl (lv_at hl 3 rfl) ?_
  refine lv_iload_n hx hb dL_law_980 rfl (lv_at hl 0 rfl) ?_
  refine lv_iconst (v := 1) hx hb dL_law_981 (by decide) ?_
  refine lv_iadd hx hb dL_law_982 ?_
  refine lv_topi (fun z_1 ez_1 => ?_)
  obtain rfl : z_1 = 1 := ez_1.trans (by decide)
  refine va_sld hx hb hX hbl hbA hS (i := 1) (by unfold vp_in; decide) dL_law_983 ?_
  refine lv_aload_n hx hb dL_law_984 rfl (lv_at hl 3 rfl) ?_
  refine lv_iload_n hx hb dL_law_985 rfl (lv_at hl 0 rfl) ?_
  refine lv_iconst (v := 2) hx hb dL_law_986 (by decide) ?_
  refine lv_iadd hx hb dL_law_987 ?_
  refine lv_topi (fun z_2 ez_2 => ?_)
  obtain rfl : z_2 = 2 := ez_2.trans (by decide)
  refine va_sld hx hb hX hbl hbA hS (i := 2) (by unfold vp_in; decide) dL_law_988 ?_
  refine q_calli (q := (RX11, TX11, 14)) (As := [.int (xs (Int32.toNatClampNeg 1)), .int (xs (Int32.toNatClampNeg 2))]) (rest := []) X (k_place l D cs ad hj g (xs (Int32.toNatClampNeg 1)) (xs (Int32.toNatClampNeg 2)) hFX.1 hFX.2.2.2.1) (cwV 2 X.2.2.2.2.1 gL_X11_place rfl rfl rfl (by decide +kernel) ⟨Nat.le_of_ble_eq_true rfl, Nat.le_of_ble_eq_true rfl⟩) (by decide) (hFX.1) rfl hP hA hS rfl hl.1 rfl (Nat.le_of_ble_eq_true rfl) dL_law_989 ⟨Nat.le_of_ble_eq_true rfl, Nat.le_of_ble_eq_true rfl⟩ (fun r_4 g_3 H locs hw_5 hP hS => ?_)
  obtain ⟨hw_5, hw_5f⟩ := hw_5
  subst hw_5
  rw [hw_5f] at hP
  refine lv_aload_n hx hb dL_law_992 rfl (lv_at hl 1 rfl) ?_
  refine lv_aload_n hx hb dL_law_993 rfl (lv_at hl 3 rfl) ?_
  refine lv_iload_n hx hb dL_law_994 rfl (lv_at hl 0 rfl) ?_
  refine lv_iconst (v := 1) hx hb dL_law_995 (by decide) ?_
  refine lv_iadd hx hb dL_law_996 ?_
  refine lv_topi (fun z_6 ez_6 => ?_)
  obtain rfl : z_6 = 1 := ez_6.trans (by decide)
  refine va_sld hx hb hX hbl hbA hS (i := 1) (by unfold vp_in; decide) dL_law_997 ?_
  refine lv_aload_n hx hb dL_law_998 rfl (lv_at hl 3 rfl) ?_
  refine lv_iload_n hx hb dL_law_999 rfl (lv_at hl 0 rfl) ?_
  refine lv_iconst (v := 2) hx hb dL_law_1000 (by decide) ?_
  refine lv_iadd hx hb dL_law_1001 ?_
  refine lv_topi (fun z_7 ez_7 => ?_)
  obtain rfl : z_7 = 2 := ez_7.trans (by decide)
  refine va_sld hx hb hX hbl hbA hS (i := 2) (by unfold vp_in; decide) dL_law_1002 ?_
  refine q_calli (q := (RX12, TX12, 40)) (As := [.int (xs (Int32.toNatClampNeg 1)), .int (xs (Int32.toNatClampNeg 2))]) (rest := [.int (-2)]) X (m_place l D cs ad hj g (xs (Int32.toNatClampNeg 1)) (xs (Int32.toNatClampNeg 2)) hFM.1 hFM.2.1) (cwV 2 X.2.2.2.2.1 gL_X12_place rfl rfl rfl (by decide +kernel) ⟨Nat.le_of_ble_eq_true rfl, Nat.le_of_ble_eq_true rfl⟩) (by decide) (hFM.1) rfl hP hA hS rfl hl.1 rfl (Nat.le_of_ble_eq_true rfl) dL_law_1003 ⟨Nat.le_of_ble_eq_true rfl, Nat.le_of_ble_eq_true rfl⟩ (fun r_9 g_8 H locs hw_10 hP hS => ?_)
  obtain ⟨hw_10, -⟩ := hw_10
  subst hw_10
  refine lv_icmp_eq (tgt := 2070) hx hb dL_law_1006 (by decide) (fun _ => ?_) (fun h => absurd rfl h)
  exact law_tail l C0 X hS ls hl

theorem dL_law_1011 : decode cL_law 1011 = .ok (.aload_n 1, 1) := by decide +kernel
theorem dL_law_1012 : decode cL_law 1012 = .ok (.aload_n 0, 1) := by decide +kernel
theorem dL_law_1013 : decode cL_law 1013 = .ok (.iload_n 3, 1) := by decide +kernel
theorem dL_law_1014 : decode cL_law 1014 = .ok (.iconst 1, 1) := by decide +kernel
theorem dL_law_1015 : decode cL_law 1015 = .ok (.iadd, 1) := by decide +kernel
theorem dL_law_1016 : decode cL_law 1016 = .ok (.iaload, 1) := by decide +kernel
theorem dL_law_1017 : decode cL_law 1017 = .ok (.invokevirtual 125, 3) := by decide +kernel
theorem dL_law_1020 : decode cL_law 1020 = .ok (.aload_n 2, 1) := by decide +kernel
theorem dL_law_1021 : decode cL_law 1021 = .ok (.aload_n 0, 1) := by decide +kernel
theorem dL_law_1022 : decode cL_law 1022 = .ok (.iload_n 3, 1) := by decide +kernel
theorem dL_law_1023 : decode cL_law 1023 = .ok (.iconst 1, 1) := by decide +kernel
theorem dL_law_1024 : decode cL_law 1024 = .ok (.iadd, 1) := by decide +kernel
theorem dL_law_1025 : decode cL_law 1025 = .ok (.iaload, 1) := by decide +kernel
theorem dL_law_1026 : decode cL_law 1026 = .ok (.invokevirtual 128, 3) := by decide +kernel
theorem dL_law_1029 : decode cL_law 1029 = .ok (.if_icmp .eq 1041, 3) := by decide +kernel
set_option maxRecDepth 20000 in
theorem gL_X11_best : GoodIn lw_tbl (wsV RL 125 RX11 yX11_best vX11_best) := goodIn_r _ [912, 913, 914, 98, 915, 742, 744, 15, 98, 745, 486, 225, 499, 501, 503, 505, 507, 509, 511, 513, 515, 517, 519, 521, 523, 525, 273, 275, 277, 279, 281, 283, 285, 287, 289, 291, 293, 295, 297, 299, 301, 303, 305, 307] (by decide +kernel) (by decide +kernel)
set_option maxRecDepth 20000 in
theorem gL_X12_best : GoodIn lw_tbl (wsV RL 128 RX12 yX12_best vX12_best) := goodIn_r _ [1669, 1670, 1671, 110, 1672, 1516, 1518, 58, 110, 1519, 1262, 1387, 1388, 1389, 1301, 1303, 1305, 1307, 1309, 1311, 1313, 1315, 1317, 1319, 1321, 1323, 1325, 1327, 1329, 1331, 1333, 1335, 1337, 1339, 1341, 1343, 1345, 1347, 1349, 1351, 1353, 1355, 1357, 1359, 1361, 1363, 1365, 1367, 1369, 1371, 1373, 1375, 1377, 1379] (by decide +kernel) (by decide +kernel)
set_option maxHeartbeats 8000000 in
set_option maxRecDepth 100000 in
theorem law_c27 {p : Program} {e : Env} {s : State} {m : MethodId} {below : List Frame} {meth : Method} {c : Code} (l : Launch) {b : Nat} {xs : Nat → Int32} {D : va_G} {cs : Nat → ClassId} {ad : Nat → Nat} {g : Nat → va_E} {H : Heap} {locs : List Loc} (C0 : lw_At p s m meth c b 6 xs) (X : CxL p s m b meth c D cs) (hj : wJ ad nW) (hA : ∀ i, i < nW → AL s (ad i)) (hFX : FrX cs ad g) (hFM : FrM cs ad g) (hP : va_P D vwCl (wL ad g nW) H) (hS : va_S (AL s) s.heap H locs) (ls : Array Slot) (hl : lv_has ls 4 [(3, .int 0), (2, .ref (ad 197)), (1, .ref (ad 0)), (0, .ref b)]) : W p l e room_1 s m #[Value.ref b] below meth c H locs 218 6259 (lw_Z below #[Value.ref b] s) (F0 m 1011 ls []) := by
  have hx := X.1
  have hb : c.code = cL_law := X.2.1
  obtain ⟨-, -, -, -, -, -, hX, hbl, -, -⟩ := id C0
  have hbA : ¬ AL s b := Nat.not_le.mpr hbl
  refine lv_aload_n hx hb dL_law_1011 rfl (lv_at hl 2 rfl) ?_
  refine lv_aload_n hx hb dL_law_1012 rfl (lv_at hl 3 rfl) ?_
  refine lv_iload_n hx hb dL_law_1013 rfl (lv_at hl 0 rfl) ?_
  refine lv_iconst (v := 1) hx hb dL_law_1014 (by decide) ?_
  refine lv_iadd hx hb dL_law_1015 ?_
  refine lv_topi (fun z_1 ez_1 => ?_)
  obtain rfl : z_1 = 1 := ez_1.trans (by decide)
  refine va_sld hx hb hX hbl hbA hS (i := 1) (by unfold vp_in; decide) dL_law_1016 ?_
  refine q_calli (q := (RX11, TX11, 14)) (As := [.int (xs (Int32.toNatClampNeg 1))]) (rest := []) X (k_best l D cs ad hj g (xs (Int32.toNatClampNeg 1)) hFX.1 hFX.2.2.2.1) (cwV 1 X.2.2.2.2.1 gL_X11_best rfl rfl rfl (by decide +kernel) ⟨Nat.le_of_ble_eq_true rfl, Nat.le_of_ble_eq_true rfl⟩) (by decide) (hFX.1) rfl hP hA hS rfl hl.1 rfl (Nat.le_of_ble_eq_true rfl) dL_law_1017 ⟨Nat.le_of_ble_eq_true rfl, Nat.le_of_ble_eq_true rfl⟩ (fun r_3 g_2 H locs hw_4 hP hS => ?_)
  obtain ⟨hw_4, hw_4f⟩ := hw_4
  subst hw_4
  rw [hw_4f] at hP
  refine lv_aload_n hx hb dL_law_1020 rfl (lv_at hl 1 rfl) ?_
  refine lv_aload_n hx hb dL_law_1021 rfl (lv_at hl 3 rfl) ?_
  refine lv_iload_n hx hb dL_law_1022 rfl (lv_at hl 0 rfl) ?_
  refine lv_iconst (v := 1) hx hb dL_law_1023 (by decide) ?_
  refine lv_iadd hx hb dL_law_1024 ?_
  refine lv_topi (fun z_5 ez_5 => ?_)
  obtain rfl : z_5 = 1 := ez_5.trans (by decide)
  refine va_sld hx hb hX hbl hbA hS (i := 1) (by unfold vp_in; decide) dL_law_1025 ?_
  refine q_calli (q := (RX12, TX12, 40)) (As := [.int (xs (Int32.toNatClampNeg 1))]) (rest := [.int (-2)]) X (m_best l D cs ad hj g (xs (Int32.toNatClampNeg 1)) hFM.1 hFM.2.1) (cwV 1 X.2.2.2.2.1 gL_X12_best rfl rfl rfl (by decide +kernel) ⟨Nat.le_of_ble_eq_true rfl, Nat.le_of_ble_eq_true rfl⟩) (by decide) (hFM.1) rfl hP hA hS rfl hl.1 rfl (Nat.le_of_ble_eq_true rfl) dL_law_1026 ⟨Nat.le_of_ble_eq_true rfl, Nat.le_of_ble_eq_true rfl⟩ (fun r_7 g_6 H locs hw_8 hP hS => ?_)
  obtain ⟨hw_8, -⟩ := hw_8
  subst hw_8
  refine lv_icmp_eq (tgt := 2070) hx hb dL_law_1029 (by decide) (fun _ => ?_) (fun h => absurd rfl h)
  exact law_tail l C0 X hS ls hl

theorem dL_law_1034 : decode cL_law 1034 = .ok (.aload_n 1, 1) := by decide +kernel
theorem dL_law_1035 : decode cL_law 1035 = .ok (.aload_n 0, 1) := by decide +kernel
theorem dL_law_1036 : decode cL_law 1036 = .ok (.iload_n 3, 1) := by decide +kernel
theorem dL_law_1037 : decode cL_law 1037 = .ok (.iconst 1, 1) := by decide +kernel
theorem dL_law_1038 : decode cL_law 1038 = .ok (.iadd, 1) := by decide +kernel
theorem dL_law_1039 : decode cL_law 1039 = .ok (.iaload, 1) := by decide +kernel
theorem dL_law_1040 : decode cL_law 1040 = .ok (.invokevirtual 129, 3) := by decide +kernel
theorem dL_law_1043 : decode cL_law 1043 = .ok (.aload_n 2, 1) := by decide +kernel
theorem dL_law_1044 : decode cL_law 1044 = .ok (.aload_n 0, 1) := by decide +kernel
theorem dL_law_1045 : decode cL_law 1045 = .ok (.iload_n 3, 1) := by decide +kernel
theorem dL_law_1046 : decode cL_law 1046 = .ok (.iconst 1, 1) := by decide +kernel
theorem dL_law_1047 : decode cL_law 1047 = .ok (.iadd, 1) := by decide +kernel
theorem dL_law_1048 : decode cL_law 1048 = .ok (.iaload, 1) := by decide +kernel
theorem dL_law_1049 : decode cL_law 1049 = .ok (.invokevirtual 132, 3) := by decide +kernel
theorem dL_law_1052 : decode cL_law 1052 = .ok (.if_icmp .eq 1018, 3) := by decide +kernel
set_option maxRecDepth 20000 in
theorem gL_X11_offs : GoodIn lw_tbl (wsV RL 129 RX11 yX11_offs vX11_offs) := goodIn_r _ [925, 926, 927, 98, 928, 742, 744, 15, 98, 745, 486, 225, 499, 501, 503, 505, 507, 509, 511, 513, 515, 517, 519, 521, 523, 525, 273, 275, 277, 279, 281, 283, 285, 287, 289, 291, 293, 295, 297, 299, 301, 303, 305, 307] (by decide +kernel) (by decide +kernel)
set_option maxRecDepth 20000 in
theorem gL_X12_offs : GoodIn lw_tbl (wsV RL 132 RX12 yX12_offs vX12_offs) := goodIn_r _ [1677, 1678, 1679, 110, 1680, 1516, 1518, 58, 110, 1519, 1262, 1387, 1388, 1389, 1301, 1303, 1305, 1307, 1309, 1311, 1313, 1315, 1317, 1319, 1321, 1323, 1325, 1327, 1329, 1331, 1333, 1335, 1337, 1339, 1341, 1343, 1345, 1347, 1349, 1351, 1353, 1355, 1357, 1359, 1361, 1363, 1365, 1367, 1369, 1371, 1373, 1375, 1377, 1379] (by decide +kernel) (by decide +kernel)
set_option maxHeartbeats 8000000 in
set_option maxRecDepth 100000 in
theorem law_c28 {p : Program} {e : Env} {s : State} {m : MethodId} {below : List Frame} {meth : Method} {c : Code} (l : Launch) {b : Nat} {xs : Nat → Int32} {D : va_G} {cs : Nat → ClassId} {ad : Nat → Nat} {g : Nat → va_E} {H : Heap} {locs : List Loc} (C0 : lw_At p s m meth c b 6 xs) (X : CxL p s m b meth c D cs) (hj : wJ ad nW) (hA : ∀ i, i < nW → AL s (ad i)) (hFX : FrX cs ad g) (hFM : FrM cs ad g) (hP : va_P D vwCl (wL ad g nW) H) (hS : va_S (AL s) s.heap H locs) (ls : Array Slot) (hl : lv_has ls 4 [(3, .int 0), (2, .ref (ad 197)), (1, .ref (ad 0)), (0, .ref b)]) : W p l e room_1 s m #[Value.ref b] below meth c H locs 218 6259 (lw_Z below #[Value.ref b] s) (F0 m 1034 ls []) := by
  have hx := X.1
  have hb : c.code = cL_law := X.2.1
  obtain ⟨-, -, -, -, -, -, hX, hbl, -, -⟩ := id C0
  have hbA : ¬ AL s b := Nat.not_le.mpr hbl
  refine lv_aload_n hx hb dL_law_1034 rfl (lv_at hl 2 rfl) ?_
  refine lv_aload_n hx hb dL_law_1035 rfl (lv_at hl 3 rfl) ?_
  refine lv_iload_n hx hb dL_law_1036 rfl (lv_at hl 0 rfl) ?_
  refine lv_iconst (v := 1) hx hb dL_law_1037 (by decide) ?_
  refine lv_iadd hx hb dL_law_1038 ?_
  refine lv_topi (fun z_1 ez_1 => ?_)
  obtain rfl : z_1 = 1 := ez_1.trans (by decide)
  refine va_sld hx hb hX hbl hbA hS (i := 1) (by unfold vp_in; decide) dL_law_1039 ?_
  refine q_calli (q := (RX11, TX11, 14)) (As := [.int (xs (Int32.toNatClampNeg 1))]) (rest := []) X (k_offs l D cs ad hj g (xs (Int32.toNatClampNeg 1)) hFX.1 hFX.2.2.2.1) (cwV 1 X.2.2.2.2.1 gL_X11_offs rfl rfl rfl (by decide +kernel) ⟨Nat.le_of_ble_eq_true rfl, Nat.le_of_ble_eq_true rfl⟩) (by decide) (hFX.1) rfl hP hA hS rfl hl.1 rfl (Nat.le_of_ble_eq_true rfl) dL_law_1040 ⟨Nat.le_of_ble_eq_true rfl, Nat.le_of_ble_eq_true rfl⟩ (fun r_3 g_2 H locs hw_4 hP hS => ?_)
  obtain ⟨hw_4, hw_4f⟩ := hw_4
  subst hw_4
  rw [hw_4f] at hP
  refine lv_aload_n hx hb dL_law_1043 rfl (lv_at hl 1 rfl) ?_
  refine lv_aload_n hx hb dL_law_1044 rfl (lv_at hl 3 rfl) ?_
  refine lv_iload_n hx hb dL_law_1045 rfl (lv_at hl 0 rfl) ?_
  refine lv_iconst (v := 1) hx hb dL_law_1046 (by decide) ?_
  refine lv_iadd hx hb dL_law_1047 ?_
  refine lv_topi (fun z_5 ez_5 => ?_)
  obtain rfl : z_5 = 1 := ez_5.trans (by decide)
  refine va_sld hx hb hX hbl hbA hS (i := 1) (by unfold vp_in; decide) dL_law_1048 ?_
  refine q_calli (q := (RX12, TX12, 40)) (As := [.int (xs (Int32.toNatClampNeg 1))]) (rest := [.int (-2)]) X (m_offs l D cs ad hj g (xs (Int32.toNatClampNeg 1)) hFM.1 hFM.2.1) (cwV 1 X.2.2.2.2.1 gL_X12_offs rfl rfl rfl (by decide +kernel) ⟨Nat.le_of_ble_eq_true rfl, Nat.le_of_ble_eq_true rfl⟩) (by decide) (hFM.1) rfl hP hA hS rfl hl.1 rfl (Nat.le_of_ble_eq_true rfl) dL_law_1049 ⟨Nat.le_of_ble_eq_true rfl, Nat.le_of_ble_eq_true rfl⟩ (fun r_7 g_6 H locs hw_8 hP hS => ?_)
  obtain ⟨hw_8, -⟩ := hw_8
  subst hw_8
  refine lv_icmp_eq (tgt := 2070) hx hb dL_law_1052 (by decide) (fun _ => ?_) (fun h => absurd rfl h)
  exact law_tail l C0 X hS ls hl

theorem dL_law_1057 : decode cL_law 1057 = .ok (.aload_n 1, 1) := by decide +kernel
theorem dL_law_1058 : decode cL_law 1058 = .ok (.aload_n 0, 1) := by decide +kernel
theorem dL_law_1059 : decode cL_law 1059 = .ok (.iload_n 3, 1) := by decide +kernel
theorem dL_law_1060 : decode cL_law 1060 = .ok (.iconst 1, 1) := by decide +kernel
theorem dL_law_1061 : decode cL_law 1061 = .ok (.iadd, 1) := by decide +kernel
theorem dL_law_1062 : decode cL_law 1062 = .ok (.iaload, 1) := by decide +kernel
theorem dL_law_1063 : decode cL_law 1063 = .ok (.aload_n 0, 1) := by decide +kernel
theorem dL_law_1064 : decode cL_law 1064 = .ok (.iload_n 3, 1) := by decide +kernel
theorem dL_law_1065 : decode cL_law 1065 = .ok (.iconst 2, 1) := by decide +kernel
theorem dL_law_1066 : decode cL_law 1066 = .ok (.iadd, 1) := by decide +kernel
theorem dL_law_1067 : decode cL_law 1067 = .ok (.iaload, 1) := by decide +kernel
theorem dL_law_1068 : decode cL_law 1068 = .ok (.invokevirtual 133, 3) := by decide +kernel
theorem dL_law_1071 : decode cL_law 1071 = .ok (.aload_n 2, 1) := by decide +kernel
theorem dL_law_1072 : decode cL_law 1072 = .ok (.aload_n 0, 1) := by decide +kernel
theorem dL_law_1073 : decode cL_law 1073 = .ok (.iload_n 3, 1) := by decide +kernel
theorem dL_law_1074 : decode cL_law 1074 = .ok (.iconst 1, 1) := by decide +kernel
theorem dL_law_1075 : decode cL_law 1075 = .ok (.iadd, 1) := by decide +kernel
theorem dL_law_1076 : decode cL_law 1076 = .ok (.iaload, 1) := by decide +kernel
theorem dL_law_1077 : decode cL_law 1077 = .ok (.aload_n 0, 1) := by decide +kernel
theorem dL_law_1078 : decode cL_law 1078 = .ok (.iload_n 3, 1) := by decide +kernel
theorem dL_law_1079 : decode cL_law 1079 = .ok (.iconst 2, 1) := by decide +kernel
theorem dL_law_1080 : decode cL_law 1080 = .ok (.iadd, 1) := by decide +kernel
theorem dL_law_1081 : decode cL_law 1081 = .ok (.iaload, 1) := by decide +kernel
theorem dL_law_1082 : decode cL_law 1082 = .ok (.invokevirtual 136, 3) := by decide +kernel
theorem dL_law_1085 : decode cL_law 1085 = .ok (.if_icmp .eq 985, 3) := by decide +kernel
set_option maxRecDepth 20000 in
theorem gL_X11_doors : GoodIn lw_tbl (wsV RL 133 RX11 yX11_doors vX11_doors) := goodIn_r _ [929, 930, 931, 98, 932, 742, 744, 15, 98, 745, 486, 225, 499, 501, 503, 505, 507, 509, 511, 513, 515, 517, 519, 521, 523, 525, 273, 275, 277, 279, 281, 283, 285, 287, 289, 291, 293, 295, 297, 299, 301, 303, 305, 307] (by decide +kernel) (by decide +kernel)
set_option maxRecDepth 20000 in
theorem gL_X12_doors : GoodIn lw_tbl (wsV RL 136 RX12 yX12_doors vX12_doors) := goodIn_r _ [1681, 1682, 1683, 110, 1684, 1656, 1658, 73, 110, 1659, 1516, 1518, 58, 1519, 1262, 1387, 1388, 1389, 1301, 1303, 1305, 1307, 1309, 1311, 1313, 1315, 1317, 1319, 1321, 1323, 1325, 1327, 1329, 1331, 1333, 1335, 1337, 1339, 1341, 1343, 1345, 1347, 1349, 1351, 1353, 1355, 1357, 1359, 1361, 1363, 1365, 1367, 1369, 1371, 1373, 1375, 1377, 1379] (by decide +kernel) (by decide +kernel)
set_option maxHeartbeats 8000000 in
set_option maxRecDepth 100000 in
theorem law_c29 {p : Program} {e : Env} {s : State} {m : MethodId} {below : List Frame} {meth : Method} {c : Code} (l : Launch) {b : Nat} {xs : Nat → Int32} {D : va_G} {cs : Nat → ClassId} {ad : Nat → Nat} {g : Nat → va_E} {H : Heap} {locs : List Loc} (C0 : lw_At p s m meth c b 6 xs) (X : CxL p s m b meth c D cs) (hj : wJ ad nW) (hA : ∀ i, i < nW → AL s (ad i)) (hFX : FrX cs ad g) (hFM : FrM cs ad g) (hP : va_P D vwCl (wL ad g nW) H) (hS : va_S (AL s) s.heap H locs) (ls : Array Slot) (hl : lv_has ls 4 [(3, .int 0), (2, .ref (ad 197)), (1, .ref (ad 0)), (0, .ref b)]) : W p l e room_1 s m #[Value.ref b] below meth c H locs 218 6259 (lw_Z below #[Value.ref b] s) (F0 m 1057 ls []) := by
  have hx := X.1
  have hb : c.code = cL_law := X.2.1
  obtain ⟨-, -, -, -, -, -, hX, hbl, -, -⟩ := id C0
  have hbA : ¬ AL s b := Nat.not_le.mpr hbl
  refine lv_aload_n hx hb dL_law_1057 rfl (lv_at hl 2 rfl) ?_
  refine lv_aload_n hx hb dL_law_1058 rfl (lv_at hl 3 rfl) ?_
  refine lv_iload_n hx hb dL_law_1059 rfl (lv_at hl 0 rfl) ?_
  refine lv_iconst (v := 1) hx hb dL_law_1060 (by decide) ?_
  refine lv_iadd hx hb dL_law_1061 ?_
  refine lv_topi (fun z_1 ez_1 => ?_)
  obtain rfl : z_1 = 1 := ez_1.trans (by decide)
  refine va_sld hx hb hX hbl hbA hS (i := 1) (by unfold vp_in; decide) dL_law_1062 ?_
  refine lv_aload_n hx hb dL_law_1063 rfl (lv_at hl 3 rfl) ?_
  refine lv_iload_n hx hb dL_law_1064 rfl (lv_at hl 0 rfl) ?_
  refine lv_iconst (v := 2) hx hb dL_law_1065 (by decide) ?_
  refine lv_iadd hx hb dL_law_1066 ?_
  refine lv_topi (fun z_2 ez_2 => ?_)
  obtain rfl : z_2 = 2 := ez_2.trans (by decide)
  refine va_sld hx hb hX hbl hbA hS (i := 2) (by unfold vp_in; decide) dL_law_1067 ?_
  refine q_calli (q := (RX11, TX11, 14)) (As := [.int (xs (Int32.toNatClampNeg 1)), .int (xs (Int32.toNatClampNeg 2))]) (rest := []) X (k_doors l D cs ad hj g (xs (Int32.toNatClampNeg 1)) (xs (Int32.toNatClampNeg 2)) hFX.1 hFX.2.2.2.1) (cwV 2 X.2.2.2.2.1 gL_X11_doors rfl rfl rfl (by decide +kernel) ⟨Nat.le_of_ble_eq_true rfl, Nat.le_of_ble_eq_true rfl⟩) (by decide) (hFX.1) rfl hP hA hS rfl hl.1 rfl (Nat.le_of_ble_eq_true rfl) dL_law_1068 ⟨Nat.le_of_ble_eq_true rfl, Nat.le_of_ble_eq_true rfl⟩ (fun r_4 g_3 H locs hw_5 hP hS => ?_)
  obtain ⟨hw_5, hw_5f⟩ := hw_5
  subst hw_5
  rw [hw_5f] at hP
  refine lv_aload_n hx hb dL_law_1071 rfl (lv_at hl 1 rfl) ?_
  refine lv_aload_n hx hb dL_law_1072 rfl (lv_at hl 3 rfl) ?_
  refine lv_iload_n hx hb dL_law_1073 rfl (lv_at hl 0 rfl) ?_
  refine lv_iconst (v := 1) hx hb dL_law_1074 (by decide) ?_
  refine lv_iadd hx hb dL_law_1075 ?_
  refine lv_topi (fun z_6 ez_6 => ?_)
  obtain rfl : z_6 = 1 := ez_6.trans (by decide)
  refine va_sld hx hb hX hbl hbA hS (i := 1) (by unfold vp_in; decide) dL_law_1076 ?_
  refine lv_aload_n hx hb dL_law_1077 rfl (lv_at hl 3 rfl) ?_
  refine lv_iload_n hx hb dL_law_1078 rfl (lv_at hl 0 rfl) ?_
  refine lv_iconst (v := 2) hx hb dL_law_1079 (by decide) ?_
  refine lv_iadd hx hb dL_law_1080 ?_
  refine lv_topi (fun z_7 ez_7 => ?_)
  obtain rfl : z_7 = 2 := ez_7.trans (by decide)
  refine va_sld hx hb hX hbl hbA hS (i := 2) (by unfold vp_in; decide) dL_law_1081 ?_
  refine q_calli (q := (RX12, TX12, 40)) (As := [.int (xs (Int32.toNatClampNeg 1)), .int (xs (Int32.toNatClampNeg 2))]) (rest := [.int (-2)]) X (m_doors l D cs ad hj g (xs (Int32.toNatClampNeg 1)) (xs (Int32.toNatClampNeg 2)) hFM.1 hFM.2.1) (cwV 2 X.2.2.2.2.1 gL_X12_doors rfl rfl rfl (by decide +kernel) ⟨Nat.le_of_ble_eq_true rfl, Nat.le_of_ble_eq_true rfl⟩) (by decide) (hFM.1) rfl hP hA hS rfl hl.1 rfl (Nat.le_of_ble_eq_true rfl) dL_law_1082 ⟨Nat.le_of_ble_eq_true rfl, Nat.le_of_ble_eq_true rfl⟩ (fun r_9 g_8 H locs hw_10 hP hS => ?_)
  obtain ⟨hw_10, -⟩ := hw_10
  subst hw_10
  refine lv_icmp_eq (tgt := 2070) hx hb dL_law_1085 (by decide) (fun _ => ?_) (fun h => absurd rfl h)
  exact law_tail l C0 X hS ls hl

theorem dL_law_1090 : decode cL_law 1090 = .ok (.aload_n 1, 1) := by decide +kernel
theorem dL_law_1091 : decode cL_law 1091 = .ok (.aload_n 0, 1) := by decide +kernel
theorem dL_law_1092 : decode cL_law 1092 = .ok (.iload_n 3, 1) := by decide +kernel
theorem dL_law_1093 : decode cL_law 1093 = .ok (.iconst 1, 1) := by decide +kernel
theorem dL_law_1094 : decode cL_law 1094 = .ok (.iadd, 1) := by decide +kernel
theorem dL_law_1095 : decode cL_law 1095 = .ok (.iaload, 1) := by decide +kernel
theorem dL_law_1096 : decode cL_law 1096 = .ok (.invokevirtual 137, 3) := by decide +kernel
theorem dL_law_1099 : decode cL_law 1099 = .ok (.aload_n 2, 1) := by decide +kernel
theorem dL_law_1100 : decode cL_law 1100 = .ok (.aload_n 0, 1) := by decide +kernel
theorem dL_law_1101 : decode cL_law 1101 = .ok (.iload_n 3, 1) := by decide +kernel
theorem dL_law_1102 : decode cL_law 1102 = .ok (.iconst 1, 1) := by decide +kernel
theorem dL_law_1103 : decode cL_law 1103 = .ok (.iadd, 1) := by decide +kernel
theorem dL_law_1104 : decode cL_law 1104 = .ok (.iaload, 1) := by decide +kernel
theorem dL_law_1105 : decode cL_law 1105 = .ok (.invokevirtual 140, 3) := by decide +kernel
theorem dL_law_1108 : decode cL_law 1108 = .ok (.if_icmp .eq 962, 3) := by decide +kernel
set_option maxRecDepth 20000 in
theorem gL_X11_tells : GoodIn lw_tbl (wsV RL 137 RX11 yX11_tells vX11_tells) := goodIn_r _ [861, 862, 863, 98, 864, 810, 812, 17, 98, 813, 486, 232, 499, 501, 503, 505, 507, 509, 511, 513, 515, 517, 519, 521, 523, 525, 273, 275, 277, 279, 281, 283, 285, 287, 289, 291, 293, 295, 297, 299, 301, 303, 305, 307] (by decide +kernel) (by decide +kernel)
set_option maxRecDepth 20000 in
theorem gL_X12_tells : GoodIn lw_tbl (wsV RL 140 RX12 yX12_tells vX12_tells) := goodIn_r _ [1685, 1686, 1687, 110, 1688, 1596, 1598, 68, 110, 1599, 1262, 1301, 1303, 1305, 1307, 1309, 1311, 1313, 1315, 1317, 1319, 1321, 1323, 1325, 1327, 1329, 1331, 1333, 1335, 1337, 1339, 1341, 1343, 1345, 1347, 1349, 1351, 1353, 1355, 1357, 1359, 1361, 1363, 1365, 1367, 1369, 1371, 1373, 1375, 1377, 1379] (by decide +kernel) (by decide +kernel)
set_option maxHeartbeats 8000000 in
set_option maxRecDepth 100000 in
theorem law_c30 {p : Program} {e : Env} {s : State} {m : MethodId} {below : List Frame} {meth : Method} {c : Code} (l : Launch) {b : Nat} {xs : Nat → Int32} {D : va_G} {cs : Nat → ClassId} {ad : Nat → Nat} {g : Nat → va_E} {H : Heap} {locs : List Loc} (C0 : lw_At p s m meth c b 6 xs) (X : CxL p s m b meth c D cs) (hj : wJ ad nW) (hA : ∀ i, i < nW → AL s (ad i)) (hFX : FrX cs ad g) (hFM : FrM cs ad g) (hP : va_P D vwCl (wL ad g nW) H) (hS : va_S (AL s) s.heap H locs) (ls : Array Slot) (hl : lv_has ls 4 [(3, .int 0), (2, .ref (ad 197)), (1, .ref (ad 0)), (0, .ref b)]) : W p l e room_1 s m #[Value.ref b] below meth c H locs 218 6259 (lw_Z below #[Value.ref b] s) (F0 m 1090 ls []) := by
  have hx := X.1
  have hb : c.code = cL_law := X.2.1
  obtain ⟨-, -, -, -, -, -, hX, hbl, -, -⟩ := id C0
  have hbA : ¬ AL s b := Nat.not_le.mpr hbl
  refine lv_aload_n hx hb dL_law_1090 rfl (lv_at hl 2 rfl) ?_
  refine lv_aload_n hx hb dL_law_1091 rfl (lv_at hl 3 rfl) ?_
  refine lv_iload_n hx hb dL_law_1092 rfl (lv_at hl 0 rfl) ?_
  refine lv_iconst (v := 1) hx hb dL_law_1093 (by decide) ?_
  refine lv_iadd hx hb dL_law_1094 ?_
  refine lv_topi (fun z_1 ez_1 => ?_)
  obtain rfl : z_1 = 1 := ez_1.trans (by decide)
  refine va_sld hx hb hX hbl hbA hS (i := 1) (by unfold vp_in; decide) dL_law_1095 ?_
  refine q_calli (q := (RX11, TX11, 14)) (As := [.int (xs (Int32.toNatClampNeg 1))]) (rest := []) X (k_tells l D cs ad hj g (xs (Int32.toNatClampNeg 1)) hFX.1 hFX.2.2.2.1) (cwV 1 X.2.2.2.2.1 gL_X11_tells rfl rfl rfl (by decide +kernel) ⟨Nat.le_of_ble_eq_true rfl, Nat.le_of_ble_eq_true rfl⟩) (by decide) (hFX.1) rfl hP hA hS rfl hl.1 rfl (Nat.le_of_ble_eq_true rfl) dL_law_1096 ⟨Nat.le_of_ble_eq_true rfl, Nat.le_of_ble_eq_true rfl⟩ (fun r_3 g_2 H locs hw_4 hP hS => ?_)
  obtain ⟨hw_4, hw_4f⟩ := hw_4
  subst hw_4
  rw [hw_4f] at hP
  refine lv_aload_n hx hb dL_law_1099 rfl (lv_at hl 1 rfl) ?_
  refine lv_aload_n hx hb dL_law_1100 rfl (lv_at hl 3 rfl) ?_
  refine lv_iload_n hx hb dL_law_1101 rfl (lv_at hl 0 rfl) ?_
  refine lv_iconst (v := 1) hx hb dL_law_1102 (by decide) ?_
  refine lv_iadd hx hb dL_law_1103 ?_
  refine lv_topi (fun z_5 ez_5 => ?_)
  obtain rfl : z_5 = 1 := ez_5.trans (by decide)
  refine va_sld hx hb hX hbl hbA hS (i := 1) (by unfold vp_in; decide) dL_law_1104 ?_
  refine q_calli (q := (RX12, TX12, 40)) (As := [.int (xs (Int32.toNatClampNeg 1))]) (rest := [.int (-2)]) X (m_tells l D cs ad hj g (xs (Int32.toNatClampNeg 1)) hFM.1 hFM.2.1) (cwV 1 X.2.2.2.2.1 gL_X12_tells rfl rfl rfl (by decide +kernel) ⟨Nat.le_of_ble_eq_true rfl, Nat.le_of_ble_eq_true rfl⟩) (by decide) (hFM.1) rfl hP hA hS rfl hl.1 rfl (Nat.le_of_ble_eq_true rfl) dL_law_1105 ⟨Nat.le_of_ble_eq_true rfl, Nat.le_of_ble_eq_true rfl⟩ (fun r_7 g_6 H locs hw_8 hP hS => ?_)
  obtain ⟨hw_8, -⟩ := hw_8
  subst hw_8
  refine lv_icmp_eq (tgt := 2070) hx hb dL_law_1108 (by decide) (fun _ => ?_) (fun h => absurd rfl h)
  exact law_tail l C0 X hS ls hl

theorem dL_law_1113 : decode cL_law 1113 = .ok (.aload_n 1, 1) := by decide +kernel
theorem dL_law_1114 : decode cL_law 1114 = .ok (.aload_n 0, 1) := by decide +kernel
theorem dL_law_1115 : decode cL_law 1115 = .ok (.iload_n 3, 1) := by decide +kernel
theorem dL_law_1116 : decode cL_law 1116 = .ok (.iconst 1, 1) := by decide +kernel
theorem dL_law_1117 : decode cL_law 1117 = .ok (.iadd, 1) := by decide +kernel
theorem dL_law_1118 : decode cL_law 1118 = .ok (.iaload, 1) := by decide +kernel
theorem dL_law_1119 : decode cL_law 1119 = .ok (.aload_n 0, 1) := by decide +kernel
theorem dL_law_1120 : decode cL_law 1120 = .ok (.iload_n 3, 1) := by decide +kernel
theorem dL_law_1121 : decode cL_law 1121 = .ok (.iconst 2, 1) := by decide +kernel
theorem dL_law_1122 : decode cL_law 1122 = .ok (.iadd, 1) := by decide +kernel
theorem dL_law_1123 : decode cL_law 1123 = .ok (.iaload, 1) := by decide +kernel
theorem dL_law_1124 : decode cL_law 1124 = .ok (.invokevirtual 141, 3) := by decide +kernel
theorem dL_law_1127 : decode cL_law 1127 = .ok (.aload_n 2, 1) := by decide +kernel
theorem dL_law_1128 : decode cL_law 1128 = .ok (.aload_n 0, 1) := by decide +kernel
theorem dL_law_1129 : decode cL_law 1129 = .ok (.iload_n 3, 1) := by decide +kernel
theorem dL_law_1130 : decode cL_law 1130 = .ok (.iconst 1, 1) := by decide +kernel
theorem dL_law_1131 : decode cL_law 1131 = .ok (.iadd, 1) := by decide +kernel
theorem dL_law_1132 : decode cL_law 1132 = .ok (.iaload, 1) := by decide +kernel
theorem dL_law_1133 : decode cL_law 1133 = .ok (.aload_n 0, 1) := by decide +kernel
theorem dL_law_1134 : decode cL_law 1134 = .ok (.iload_n 3, 1) := by decide +kernel
theorem dL_law_1135 : decode cL_law 1135 = .ok (.iconst 2, 1) := by decide +kernel
theorem dL_law_1136 : decode cL_law 1136 = .ok (.iadd, 1) := by decide +kernel
theorem dL_law_1137 : decode cL_law 1137 = .ok (.iaload, 1) := by decide +kernel
theorem dL_law_1138 : decode cL_law 1138 = .ok (.invokevirtual 144, 3) := by decide +kernel
theorem dL_law_1141 : decode cL_law 1141 = .ok (.if_icmp .eq 929, 3) := by decide +kernel
set_option maxRecDepth 20000 in
theorem gL_X11_next : GoodIn lw_tbl (wsV RL 141 RX11 yX11_next vX11_next) := goodIn_r _ [820, 821, 822, 98, 823, 733, 735, 14, 98, 736, 486, 218, 499, 501, 503, 505, 507, 509, 511, 513, 515, 517, 519, 521, 523, 525, 273, 275, 277, 279, 281, 283, 285, 287, 289, 291, 293, 295, 297, 299, 301, 303, 305, 307] (by decide +kernel) (by decide +kernel)
set_option maxRecDepth 20000 in
theorem gL_X12_next : GoodIn lw_tbl (wsV RL 144 RX12 yX12_next vX12_next) := goodIn_r _ [1690, 1691, 1692, 110, 1693, 1501, 1503, 56, 110, 1504, 1262, 1387, 1388, 1389, 1301, 1303, 1305, 1307, 1309, 1311, 1313, 1315, 1317, 1319, 1321, 1323, 1325, 1327, 1329, 1331, 1333, 1335, 1337, 1339, 1341, 1343, 1345, 1347, 1349, 1351, 1353, 1355, 1357, 1359, 1361, 1363, 1365, 1367, 1369, 1371, 1373, 1375, 1377, 1379] (by decide +kernel) (by decide +kernel)
set_option maxHeartbeats 8000000 in
set_option maxRecDepth 100000 in
theorem law_c31 {p : Program} {e : Env} {s : State} {m : MethodId} {below : List Frame} {meth : Method} {c : Code} (l : Launch) {b : Nat} {xs : Nat → Int32} {D : va_G} {cs : Nat → ClassId} {ad : Nat → Nat} {g : Nat → va_E} {H : Heap} {locs : List Loc} (C0 : lw_At p s m meth c b 6 xs) (X : CxL p s m b meth c D cs) (hj : wJ ad nW) (hA : ∀ i, i < nW → AL s (ad i)) (hFX : FrX cs ad g) (hFM : FrM cs ad g) (hP : va_P D vwCl (wL ad g nW) H) (hS : va_S (AL s) s.heap H locs) (ls : Array Slot) (hl : lv_has ls 4 [(3, .int 0), (2, .ref (ad 197)), (1, .ref (ad 0)), (0, .ref b)]) : W p l e room_1 s m #[Value.ref b] below meth c H locs 218 6259 (lw_Z below #[Value.ref b] s) (F0 m 1113 ls []) := by
  have hx := X.1
  have hb : c.code = cL_law := X.2.1
  obtain ⟨-, -, -, -, -, -, hX, hbl, -, -⟩ := id C0
  have hbA : ¬ AL s b := Nat.not_le.mpr hbl
  refine lv_aload_n hx hb dL_law_1113 rfl (lv_at hl 2 rfl) ?_
  refine lv_aload_n hx hb dL_law_1114 rfl (lv_at hl 3 rfl) ?_
  refine lv_iload_n hx hb dL_law_1115 rfl (lv_at hl 0 rfl) ?_
  refine lv_iconst (v := 1) hx hb dL_law_1116 (by decide) ?_
  refine lv_iadd hx hb dL_law_1117 ?_
  refine lv_topi (fun z_1 ez_1 => ?_)
  obtain rfl : z_1 = 1 := ez_1.trans (by decide)
  refine va_sld hx hb hX hbl hbA hS (i := 1) (by unfold vp_in; decide) dL_law_1118 ?_
  refine lv_aload_n hx hb dL_law_1119 rfl (lv_at hl 3 rfl) ?_
  refine lv_iload_n hx hb dL_law_1120 rfl (lv_at hl 0 rfl) ?_
  refine lv_iconst (v := 2) hx hb dL_law_1121 (by decide) ?_
  refine lv_iadd hx hb dL_law_1122 ?_
  refine lv_topi (fun z_2 ez_2 => ?_)
  obtain rfl : z_2 = 2 := ez_2.trans (by decide)
  refine va_sld hx hb hX hbl hbA hS (i := 2) (by unfold vp_in; decide) dL_law_1123 ?_
  refine q_calli (q := (RX11, TX11, 14)) (As := [.int (xs (Int32.toNatClampNeg 1)), .int (xs (Int32.toNatClampNeg 2))]) (rest := []) X (k_next l D cs ad hj g (xs (Int32.toNatClampNeg 1)) (xs (Int32.toNatClampNeg 2)) hFX.1 hFX.2.2.2.1) (cwV 2 X.2.2.2.2.1 gL_X11_next rfl rfl rfl (by decide +kernel) ⟨Nat.le_of_ble_eq_true rfl, Nat.le_of_ble_eq_true rfl⟩) (by decide) (hFX.1) rfl hP hA hS rfl hl.1 rfl (Nat.le_of_ble_eq_true rfl) dL_law_1124 ⟨Nat.le_of_ble_eq_true rfl, Nat.le_of_ble_eq_true rfl⟩ (fun r_4 g_3 H locs hw_5 hP hS => ?_)
  obtain ⟨hw_5, hw_5f⟩ := hw_5
  subst hw_5
  rw [hw_5f] at hP
  refine lv_aload_n hx hb dL_law_1127 rfl (lv_at hl 1 rfl) ?_
  refine lv_aload_n hx hb dL_law_1128 rfl (lv_at hl 3 rfl) ?_
  refine lv_iload_n hx hb dL_law_1129 rfl (lv_at hl 0 rfl) ?_
  refine lv_iconst (v := 1) hx hb dL_law_1130 (by decide) ?_
  refine lv_iadd hx hb dL_law_1131 ?_
  refine lv_topi (fun z_6 ez_6 => ?_)
  obtain rfl : z_6 = 1 := ez_6.trans (by decide)
  refine va_sld hx hb hX hbl hbA hS (i := 1) (by unfold vp_in; decide) dL_law_1132 ?_
  refine lv_aload_n hx hb dL_law_1133 rfl (lv_at hl 3 rfl) ?_
  refine lv_iload_n hx hb dL_law_1134 rfl (lv_at hl 0 rfl) ?_
  refine lv_iconst (v := 2) hx hb dL_law_1135 (by decide) ?_
  refine lv_iadd hx hb dL_law_1136 ?_
  refine lv_topi (fun z_7 ez_7 => ?_)
  obtain rfl : z_7 = 2 := ez_7.trans (by decide)
  refine va_sld hx hb hX hbl hbA hS (i := 2) (by unfold vp_in; decide) dL_law_1137 ?_
  refine q_calli (q := (RX12, TX12, 40)) (As := [.int (xs (Int32.toNatClampNeg 1)), .int (xs (Int32.toNatClampNeg 2))]) (rest := [.int (-2)]) X (m_next l D cs ad hj g (xs (Int32.toNatClampNeg 1)) (xs (Int32.toNatClampNeg 2)) hFM.1 hFM.2.1) (cwV 2 X.2.2.2.2.1 gL_X12_next rfl rfl rfl (by decide +kernel) ⟨Nat.le_of_ble_eq_true rfl, Nat.le_of_ble_eq_true rfl⟩) (by decide) (hFM.1) rfl hP hA hS rfl hl.1 rfl (Nat.le_of_ble_eq_true rfl) dL_law_1138 ⟨Nat.le_of_ble_eq_true rfl, Nat.le_of_ble_eq_true rfl⟩ (fun r_9 g_8 H locs hw_10 hP hS => ?_)
  obtain ⟨hw_10, -⟩ := hw_10
  subst hw_10
  refine lv_icmp_eq (tgt := 2070) hx hb dL_law_1141 (by decide) (fun _ => ?_) (fun h => absurd rfl h)
  exact law_tail l C0 X hS ls hl

theorem dL_law_1788 : decode cL_law 1788 = .ok (.aload_n 1, 1) := by decide +kernel
theorem dL_law_1789 : decode cL_law 1789 = .ok (.aload_n 0, 1) := by decide +kernel
theorem dL_law_1790 : decode cL_law 1790 = .ok (.iload_n 3, 1) := by decide +kernel
theorem dL_law_1791 : decode cL_law 1791 = .ok (.iconst 1, 1) := by decide +kernel
theorem dL_law_1792 : decode cL_law 1792 = .ok (.iadd, 1) := by decide +kernel
theorem dL_law_1793 : decode cL_law 1793 = .ok (.iaload, 1) := by decide +kernel
theorem dL_law_1794 : decode cL_law 1794 = .ok (.aload_n 0, 1) := by decide +kernel
theorem dL_law_1795 : decode cL_law 1795 = .ok (.iload_n 3, 1) := by decide +kernel
theorem dL_law_1796 : decode cL_law 1796 = .ok (.iconst 2, 1) := by decide +kernel
theorem dL_law_1797 : decode cL_law 1797 = .ok (.iadd, 1) := by decide +kernel
theorem dL_law_1798 : decode cL_law 1798 = .ok (.iaload, 1) := by decide +kernel
theorem dL_law_1799 : decode cL_law 1799 = .ok (.invokevirtual 244, 3) := by decide +kernel
theorem dL_law_1802 : decode cL_law 1802 = .ok (.pop, 1) := by decide +kernel
theorem dL_law_1803 : decode cL_law 1803 = .ok (.aload_n 2, 1) := by decide +kernel
theorem dL_law_1804 : decode cL_law 1804 = .ok (.aload_n 0, 1) := by decide +kernel
theorem dL_law_1805 : decode cL_law 1805 = .ok (.iload_n 3, 1) := by decide +kernel
theorem dL_law_1806 : decode cL_law 1806 = .ok (.iconst 1, 1) := by decide +kernel
theorem dL_law_1807 : decode cL_law 1807 = .ok (.iadd, 1) := by decide +kernel
theorem dL_law_1808 : decode cL_law 1808 = .ok (.iaload, 1) := by decide +kernel
theorem dL_law_1809 : decode cL_law 1809 = .ok (.aload_n 0, 1) := by decide +kernel
theorem dL_law_1810 : decode cL_law 1810 = .ok (.iload_n 3, 1) := by decide +kernel
theorem dL_law_1811 : decode cL_law 1811 = .ok (.iconst 2, 1) := by decide +kernel
theorem dL_law_1812 : decode cL_law 1812 = .ok (.iadd, 1) := by decide +kernel
theorem dL_law_1813 : decode cL_law 1813 = .ok (.iaload, 1) := by decide +kernel
theorem dL_law_1814 : decode cL_law 1814 = .ok (.invokevirtual 247, 3) := by decide +kernel
theorem dL_law_1817 : decode cL_law 1817 = .ok (.pop, 1) := by decide +kernel
theorem dL_law_1818 : decode cL_law 1818 = .ok (.goto 251, 3) := by decide +kernel
set_option maxRecDepth 20000 in
theorem mT_X11_hung : wIn lw_tbl vX11_hung := wIn.cons (List.mem_of_getElem? (i := 1214) (by decide +kernel)) (wIn.app (wIn.r _ [742, 744, 15, 98, 486, 272, 174, 258, 491, 697, 698, 699, 103] (by decide +kernel)) (wIn.app iT_11 (wIn.app iT_6 (wIn.app iT_0 (wIn.app mT_X11_isIcicle mT_X10_passOver)))))
theorem gL_X11_hung : GoodIn lw_tbl (wsV RL 244 RX11 yX11_hung vX11_hung) := goodIn_app (goodIn_r _ [1211, 1212, 1213, 98] (by decide +kernel) (by decide +kernel)) (fun w h => ⟨mT_X11_hung w h, gs_X11_hung w h⟩)
set_option maxRecDepth 20000 in
theorem mT_X12_hung : wIn lw_tbl vX12_hung := wIn.cons (List.mem_of_getElem? (i := 1904) (by decide +kernel)) (wIn.app (wIn.r _ [1516, 1518, 58, 110, 1905, 1387, 1388, 1262, 1520, 1522, 59] (by decide +kernel)) (wIn.app iT_12 (wIn.app mT_X12_isIcicle (wIn.app mT_X12_in mT_X12_of))))
theorem gL_X12_hung : GoodIn lw_tbl (wsV RL 247 RX12 yX12_hung vX12_hung) := goodIn_app (goodIn_r _ [1901, 1902, 1903, 110] (by decide +kernel) (by decide +kernel)) (fun w h => ⟨mT_X12_hung w h, gs_X12_hung w h⟩)
set_option maxHeartbeats 8000000 in
set_option maxRecDepth 100000 in
theorem law_c56 {p : Program} {e : Env} {s : State} {m : MethodId} {below : List Frame} {meth : Method} {c : Code} (l : Launch) {b L : Nat} {xs : Nat → Int32} {D : va_G} {cs : Nat → ClassId} {ad : Nat → Nat} {kS : kSt} {K : sK} {g : Nat → va_E} {H : Heap} {locs : List Loc} (hL : L ≤ 3072) (C0 : lw_At p s m meth c b L xs) (X : CxL p s m b meth c D cs) (Z : SX ad kS s s.heap) (hj : wJ ad 218) (hA : ∀ i, i < 218 → AL s (ad i)) (hKO : KO K) (hR : KR K) (hW : WF (shp ad K) ad cs g) (hP : va_P D vwCl (wL ad g 218) H) (hS : va_S (AL s) s.heap H locs) (ls : Array Slot) (ii : Int32) (hi0 : 0 ≤ ii.toInt) (hi1 : ii.toInt + 6 ≤ L) (hl : lv_has ls 4 [(3, .int ii), (2, .ref (ad 197)), (1, .ref (ad 0)), (0, .ref b)]) (kk : ∀ (K : sK) (g : Nat → va_E) (H : Heap) (locs : List Loc) (ls : Array Slot), KO K → KR K → WF (shp ad K) ad cs g → va_P D vwCl (wL ad g 218) H → va_S (AL s) s.heap H locs → lv_has ls 4 [(3, .int ii), (2, .ref (ad 197)), (1, .ref (ad 0)), (0, .ref b)] → W p l e room_1 s m #[Value.ref b] below meth c H locs 218 6259 (lw_Z below #[Value.ref b] s) (F0 m 2069 ls [])) : W p l e room_1 s m #[Value.ref b] below meth c H locs 218 6259 (lw_Z below #[Value.ref b] s) (F0 m 1788 ls []) := by
  have hx := X.1
  have hb : c.code = cL_law := X.2.1
  obtain ⟨-, -, -, -, -, -, hX, hbl, -, -⟩ := id C0
  have hbA : ¬ AL s b := Nat.not_le.mpr hbl
  refine lv_aload_n hx hb dL_law_1788 rfl (lv_at hl 2 rfl) ?_
  refine lv_aload_n hx hb dL_law_1789 rfl (lv_at hl 3 rfl) ?_
  refine lv_iload_n hx hb dL_law_1790 rfl (lv_at hl 0 rfl) ?_
  refine lv_iconst (v := 1) hx hb dL_law_1791 (by decide) ?_
  refine lv_iadd hx hb dL_law_1792 ?_
  refine lv_topi (fun z_1 ez_1 => ?_)
  have hz_1 : z_1.toInt = ii.toInt + 1 := n_add rfl (by decide : (1 : Int32).toInt = 1) ez_1 (by omega) (by omega)
  refine va_sld hx hb hX hbl hbA hS (i := z_1) (n_in (rfl : z_1.toInt = z_1.toInt) (by omega) (by omega)) dL_law_1793 ?_
  refine lv_topi (fun x_2 ex_2 => ?_)
  refine lv_aload_n hx hb dL_law_1794 rfl (lv_at hl 3 rfl) ?_
  refine lv_iload_n hx hb dL_law_1795 rfl (lv_at hl 0 rfl) ?_
  refine lv_iconst (v := 2) hx hb dL_law_1796 (by decide) ?_
  refine lv_iadd hx hb dL_law_1797 ?_
  refine lv_topi (fun z_3 ez_3 => ?_)
  have hz_3 : z_3.toInt = ii.toInt + 2 := n_add rfl (by decide : (2 : Int32).toInt = 2) ez_3 (by omega) (by omega)
  refine va_sld hx hb hX hbl hbA hS (i := z_3) (n_in (rfl : z_3.toInt = z_3.toInt) (by omega) (by omega)) dL_law_1798 ?_
  refine lv_topi (fun x_4 ex_4 => ?_)
  obtain ⟨fso_5, hgo_5, -⟩ := hW.obj (i := 0) (by decide) (sh_0 ad _)
  refine s_calli (q := (RX11, TX11, 14)) (As := [.int x_2, .int x_4]) (rest := []) X Z (s_X11_hung l D cs ad kS K hKO hj g hW x_2 x_4) (cwV 2 X.2.2.2.2.1 gL_X11_hung rfl rfl rfl (by decide +kernel) ⟨Nat.le_of_ble_eq_true rfl, Nat.le_of_ble_eq_true rfl⟩) (by decide) hgo_5 rfl hP hA (fun a h _ => hS.2.1 a h (Nat.not_le.mpr h)) hS rfl hl.1 rfl (Nat.le_of_ble_eq_true rfl) dL_law_1799 ⟨Nat.le_of_ble_eq_true rfl, Nat.le_of_ble_eq_true rfl⟩ (fun r_7 g_6 H locs hw_8 hP hS => ?_)
  obtain ⟨hw_8W, hw_8f⟩ := hw_8
  refine lv_pop hx hb dL_law_1802 rfl ?_
  refine lv_aload_n hx hb dL_law_1803 rfl (lv_at hl 1 rfl) ?_
  refine lv_aload_n hx hb dL_law_1804 rfl (lv_at hl 3 rfl) ?_
  refine lv_iload_n hx hb dL_law_1805 rfl (lv_at hl 0 rfl) ?_
  refine lv_iconst (v := 1) hx hb dL_law_1806 (by decide) ?_
  refine lv_iadd hx hb dL_law_1807 ?_
  refine lv_topi (fun z_9 ez_9 => ?_)
  have hz_9 : z_9.toInt = ii.toInt + 1 := n_add rfl (by decide : (1 : Int32).toInt = 1) ez_9 (by omega) (by omega)
  refine va_sld hx hb hX hbl hbA hS (i := z_9) (n_in (rfl : z_9.toInt = z_9.toInt) (by omega) (by omega)) dL_law_1808 ?_
  refine lv_topi (fun x_10 ex_10 => ?_)
  obtain rfl : x_2 = x_10 := by rw [ex_2, ex_10, ez_1, ez_9]
  refine lv_aload_n hx hb dL_law_1809 rfl (lv_at hl 3 rfl) ?_
  refine lv_iload_n hx hb dL_law_1810 rfl (lv_at hl 0 rfl) ?_
  refine lv_iconst (v := 2) hx hb dL_law_1811 (by decide) ?_
  refine lv_iadd hx hb dL_law_1812 ?_
  refine lv_topi (fun z_11 ez_11 => ?_)
  have hz_11 : z_11.toInt = ii.toInt + 2 := n_add rfl (by decide : (2 : Int32).toInt = 2) ez_11 (by omega) (by omega)
  refine va_sld hx hb hX hbl hbA hS (i := z_11) (n_in (rfl : z_11.toInt = z_11.toInt) (by omega) (by omega)) dL_law_1813 ?_
  refine lv_topi (fun x_12 ex_12 => ?_)
  obtain rfl : x_4 = x_12 := by rw [ex_4, ex_12, ez_3, ez_11]
  obtain ⟨fso_13, hgo_13, -⟩ := hw_8W.obj (i := 197) (by decide) (sh_197 ad _)
  refine s_calli (q := (RX12, TX12, 40)) (As := [.int x_2, .int x_4]) (rest := []) X Z (s_X12_hung l D cs ad kS K hKO hj g_6 hw_8W x_2 x_4) (cwV 2 X.2.2.2.2.1 gL_X12_hung rfl rfl rfl (by decide +kernel) ⟨Nat.le_of_ble_eq_true rfl, Nat.le_of_ble_eq_true rfl⟩) (by decide) hgo_13 rfl hP hA (fun a h _ => hS.2.1 a h (Nat.not_le.mpr h)) hS rfl hl.1 rfl (Nat.le_of_ble_eq_true rfl) dL_law_1814 ⟨Nat.le_of_ble_eq_true rfl, Nat.le_of_ble_eq_true rfl⟩ (fun r_15 g_14 H locs hw_16 hP hS => ?_)
  obtain ⟨hw_16W, hw_16f⟩ := hw_16
  refine lv_pop hx hb dL_law_1817 rfl ?_
  refine lv_goto (tgt := 2069) hx hb dL_law_1818 (by decide) ?_
  exact kk K g_14 _ _ ls hKO hR hw_16W hP hS hl

theorem dL_law_1821 : decode cL_law 1821 = .ok (.aload_n 1, 1) := by decide +kernel
theorem dL_law_1822 : decode cL_law 1822 = .ok (.aload_n 0, 1) := by decide +kernel
theorem dL_law_1823 : decode cL_law 1823 = .ok (.iload_n 3, 1) := by decide +kernel
theorem dL_law_1824 : decode cL_law 1824 = .ok (.iconst 1, 1) := by decide +kernel
theorem dL_law_1825 : decode cL_law 1825 = .ok (.iadd, 1) := by decide +kernel
theorem dL_law_1826 : decode cL_law 1826 = .ok (.iaload, 1) := by decide +kernel
theorem dL_law_1827 : decode cL_law 1827 = .ok (.invokevirtual 248, 3) := by decide +kernel
theorem dL_law_1830 : decode cL_law 1830 = .ok (.pop, 1) := by decide +kernel
theorem dL_law_1831 : decode cL_law 1831 = .ok (.aload_n 2, 1) := by decide +kernel
theorem dL_law_1832 : decode cL_law 1832 = .ok (.aload_n 0, 1) := by decide +kernel
theorem dL_law_1833 : decode cL_law 1833 = .ok (.iload_n 3, 1) := by decide +kernel
theorem dL_law_1834 : decode cL_law 1834 = .ok (.iconst 1, 1) := by decide +kernel
theorem dL_law_1835 : decode cL_law 1835 = .ok (.iadd, 1) := by decide +kernel
theorem dL_law_1836 : decode cL_law 1836 = .ok (.iaload, 1) := by decide +kernel
theorem dL_law_1837 : decode cL_law 1837 = .ok (.invokevirtual 251, 3) := by decide +kernel
theorem dL_law_1840 : decode cL_law 1840 = .ok (.pop, 1) := by decide +kernel
theorem dL_law_1841 : decode cL_law 1841 = .ok (.goto 228, 3) := by decide +kernel
set_option maxRecDepth 20000 in
theorem mT_X11_slotsLaid : wIn lw_tbl vX11_slotsLaid := wIn.cons (List.mem_of_getElem? (i := 1222) (by decide +kernel)) (wIn.app (wIn.r _ [490, 322] (by decide +kernel)) (wIn.app iT_11 iT_5))
set_option maxRecDepth 20000 in
theorem mT_X11_count : wIn lw_tbl vX11_count := wIn.cons (List.mem_of_getElem? (i := 1218) (by decide +kernel)) (wIn.app (wIn.r _ [1219, 1221, 40, 98, 485, 134, 486, 232, 272, 174, 229, 225, 218, 212, 204, 200, 197] (by decide +kernel)) (wIn.app iT_11 (wIn.app iT_7 (wIn.app iT_6 (wIn.app iT_0 mT_X11_slotsLaid)))))
theorem gL_X11_count : GoodIn lw_tbl (wsV RL 248 RX11 yX11_count vX11_count) := goodIn_app (goodIn_r _ [1215, 1216, 1217, 98] (by decide +kernel) (by decide +kernel)) (fun w h => ⟨mT_X11_count w h, gs_X11_count w h⟩)
set_option maxRecDepth 20000 in
theorem mT_X12_count : wIn lw_tbl vX12_count := wIn.cons (List.mem_of_getElem? (i := 1909) (by decide +kernel)) (wIn.app (wIn.r _ [1910, 1387, 1388, 110, 1262, 1266, 1297] (by decide +kernel)) (wIn.app iT_12 mT_X12_in))
theorem gL_X12_count : GoodIn lw_tbl (wsV RL 251 RX12 yX12_count vX12_count) := goodIn_app (goodIn_r _ [1906, 1907, 1908, 110] (by decide +kernel) (by decide +kernel)) (fun w h => ⟨mT_X12_count w h, gs_X12_count w h⟩)
set_option maxHeartbeats 8000000 in
set_option maxRecDepth 100000 in
theorem law_c57 {p : Program} {e : Env} {s : State} {m : MethodId} {below : List Frame} {meth : Method} {c : Code} (l : Launch) {b L : Nat} {xs : Nat → Int32} {D : va_G} {cs : Nat → ClassId} {ad : Nat → Nat} {kS : kSt} {K : sK} {g : Nat → va_E} {H : Heap} {locs : List Loc} (hL : L ≤ 3072) (C0 : lw_At p s m meth c b L xs) (X : CxL p s m b meth c D cs) (Z : SX ad kS s s.heap) (hj : wJ ad 218) (hA : ∀ i, i < 218 → AL s (ad i)) (hKO : KO K) (hR : KR K) (hW : WF (shp ad K) ad cs g) (hP : va_P D vwCl (wL ad g 218) H) (hS : va_S (AL s) s.heap H locs) (ls : Array Slot) (ii : Int32) (hi0 : 0 ≤ ii.toInt) (hi1 : ii.toInt + 6 ≤ L) (hl : lv_has ls 4 [(3, .int ii), (2, .ref (ad 197)), (1, .ref (ad 0)), (0, .ref b)]) (kk : ∀ (K : sK) (g : Nat → va_E) (H : Heap) (locs : List Loc) (ls : Array Slot), KO K → KR K → WF (shp ad K) ad cs g → va_P D vwCl (wL ad g 218) H → va_S (AL s) s.heap H locs → lv_has ls 4 [(3, .int ii), (2, .ref (ad 197)), (1, .ref (ad 0)), (0, .ref b)] → W p l e room_1 s m #[Value.ref b] below meth c H locs 218 6259 (lw_Z below #[Value.ref b] s) (F0 m 2069 ls [])) : W p l e room_1 s m #[Value.ref b] below meth c H locs 218 6259 (lw_Z below #[Value.ref b] s) (F0 m 1821 ls []) := by
  have hx := X.1
  have hb : c.code = cL_law := X.2.1
  obtain ⟨-, -, -, -, -, -, hX, hbl, -, -⟩ := id C0
  have hbA : ¬ AL s b := Nat.not_le.mpr hbl
  refine lv_aload_n hx hb dL_law_1821 rfl (lv_at hl 2 rfl) ?_
  refine lv_aload_n hx hb dL_law_1822 rfl (lv_at hl 3 rfl) ?_
  refine lv_iload_n hx hb dL_law_1823 rfl (lv_at hl 0 rfl) ?_
  refine lv_iconst (v := 1) hx hb dL_law_1824 (by decide) ?_
  refine lv_iadd hx hb dL_law_1825 ?_
  refine lv_topi (fun z_1 ez_1 => ?_)
  have hz_1 : z_1.toInt = ii.toInt + 1 := n_add rfl (by decide : (1 : Int32).toInt = 1) ez_1 (by omega) (by omega)
  refine va_sld hx hb hX hbl hbA hS (i := z_1) (n_in (rfl : z_1.toInt = z_1.toInt) (by omega) (by omega)) dL_law_1826 ?_
  refine lv_topi (fun x_2 ex_2 => ?_)
  obtain ⟨fso_3, hgo_3, -⟩ := hW.obj (i := 0) (by decide) (sh_0 ad _)
  refine s_calli (q := (RX11, TX11, 14)) (As := [.int x_2]) (rest := []) X Z (s_X11_count l D cs ad kS K hKO hj g hW x_2) (cwV 1 X.2.2.2.2.1 gL_X11_count rfl rfl rfl (by decide +kernel) ⟨Nat.le_of_ble_eq_true rfl, Nat.le_of_ble_eq_true rfl⟩) (by decide) hgo_3 rfl hP hA (fun a h _ => hS.2.1 a h (Nat.not_le.mpr h)) hS rfl hl.1 rfl (Nat.le_of_ble_eq_true rfl) dL_law_1827 ⟨Nat.le_of_ble_eq_true rfl, Nat.le_of_ble_eq_true rfl⟩ (fun r_5 g_4 H locs hw_6 hP hS => ?_)
  rw [hw_6] at hP
  refine lv_pop hx hb dL_law_1830 rfl ?_
  refine lv_aload_n hx hb dL_law_1831 rfl (lv_at hl 1 rfl) ?_
  refine lv_aload_n hx hb dL_law_1832 rfl (lv_at hl 3 rfl) ?_
  refine lv_iload_n hx hb dL_law_1833 rfl (lv_at hl 0 rfl) ?_
  refine lv_iconst (v := 1) hx hb dL_law_1834 (by decide) ?_
  refine lv_iadd hx hb dL_law_1835 ?_
  refine lv_topi (fun z_7 ez_7 => ?_)
  have hz_7 : z_7.toInt = ii.toInt + 1 := n_add rfl (by decide : (1 : Int32).toInt = 1) ez_7 (by omega) (by omega)
  refine va_sld hx hb hX hbl hbA hS (i := z_7) (n_in (rfl : z_7.toInt = z_7.toInt) (by omega) (by omega)) dL_law_1836 ?_
  refine lv_topi (fun x_8 ex_8 => ?_)
  obtain rfl : x_2 = x_8 := by rw [ex_2, ex_8, ez_1, ez_7]
  obtain ⟨fso_9, hgo_9, -⟩ := hW.obj (i := 197) (by decide) (sh_197 ad _)
  refine s_calli (q := (RX12, TX12, 40)) (As := [.int x_2]) (rest := []) X Z (s_X12_count l D cs ad kS K hKO hj g hW x_2) (cwV 1 X.2.2.2.2.1 gL_X12_count rfl rfl rfl (by decide +kernel) ⟨Nat.le_of_ble_eq_true rfl, Nat.le_of_ble_eq_true rfl⟩) (by decide) hgo_9 rfl hP hA (fun a h _ => hS.2.1 a h (Nat.not_le.mpr h)) hS rfl hl.1 rfl (Nat.le_of_ble_eq_true rfl) dL_law_1837 ⟨Nat.le_of_ble_eq_true rfl, Nat.le_of_ble_eq_true rfl⟩ (fun r_11 g_10 H locs hw_12 hP hS => ?_)
  rw [hw_12] at hP
  refine lv_pop hx hb dL_law_1840 rfl ?_
  refine lv_goto (tgt := 2069) hx hb dL_law_1841 (by decide) ?_
  exact kk K g _ _ ls hKO hR hW hP hS hl

theorem dL_law_1844 : decode cL_law 1844 = .ok (.aload_n 1, 1) := by decide +kernel
theorem dL_law_1845 : decode cL_law 1845 = .ok (.aload_n 0, 1) := by decide +kernel
theorem dL_law_1846 : decode cL_law 1846 = .ok (.iload_n 3, 1) := by decide +kernel
theorem dL_law_1847 : decode cL_law 1847 = .ok (.iconst 1, 1) := by decide +kernel
theorem dL_law_1848 : decode cL_law 1848 = .ok (.iadd, 1) := by decide +kernel
theorem dL_law_1849 : decode cL_law 1849 = .ok (.iaload, 1) := by decide +kernel
theorem dL_law_1850 : decode cL_law 1850 = .ok (.invokevirtual 252, 3) := by decide +kernel
theorem dL_law_1853 : decode cL_law 1853 = .ok (.pop, 1) := by decide +kernel
theorem dL_law_1854 : decode cL_law 1854 = .ok (.aload_n 2, 1) := by decide +kernel
theorem dL_law_1855 : decode cL_law 1855 = .ok (.aload_n 0, 1) := by decide +kernel
theorem dL_law_1856 : decode cL_law 1856 = .ok (.iload_n 3, 1) := by decide +kernel
theorem dL_law_1857 : decode cL_law 1857 = .ok (.iconst 1, 1) := by decide +kernel
theorem dL_law_1858 : decode cL_law 1858 = .ok (.iadd, 1) := by decide +kernel
theorem dL_law_1859 : decode cL_law 1859 = .ok (.iaload, 1) := by decide +kernel
theorem dL_law_1860 : decode cL_law 1860 = .ok (.invokevirtual 255, 3) := by decide +kernel
theorem dL_law_1863 : decode cL_law 1863 = .ok (.pop, 1) := by decide +kernel
theorem dL_law_1864 : decode cL_law 1864 = .ok (.goto 205, 3) := by decide +kernel
set_option maxRecDepth 20000 in
theorem mT_X11_image : wIn lw_tbl vX11_image := wIn.cons (List.mem_of_getElem? (i := 1226) (by decide +kernel)) (wIn.app (wIn.r _ [488, 486, 681, 682, 683, 100, 489] (by decide +kernel)) (wIn.app iT_11 mT_X6_copyFrom))
theorem gL_X11_image : GoodIn lw_tbl (wsV RL 252 RX11 yX11_image vX11_image) := goodIn_app (goodIn_r _ [1223, 1224, 1225, 98] (by decide +kernel) (by decide +kernel)) (fun w h => ⟨mT_X11_image w h, gs_X11_image w h⟩)
set_option maxRecDepth 20000 in
theorem mT_X12_image : wIn lw_tbl vX12_image := wIn.cons (List.mem_of_getElem? (i := 1385) (by decide +kernel)) (wIn.app (wIn.r _ [1386, 1387, 1388, 110, 1263, 1262, 1264] (by decide +kernel)) (wIn.app iT_12 mT_X12_in))
theorem gL_X12_image : GoodIn lw_tbl (wsV RL 255 RX12 yX12_image vX12_image) := goodIn_app (goodIn_r _ [1382, 1383, 1384, 110] (by decide +kernel) (by decide +kernel)) (fun w h => ⟨mT_X12_image w h, gs_X12_image w h⟩)
set_option maxHeartbeats 8000000 in
set_option maxRecDepth 100000 in
theorem law_c58 {p : Program} {e : Env} {s : State} {m : MethodId} {below : List Frame} {meth : Method} {c : Code} (l : Launch) {b L : Nat} {xs : Nat → Int32} {D : va_G} {cs : Nat → ClassId} {ad : Nat → Nat} {kS : kSt} {K : sK} {g : Nat → va_E} {H : Heap} {locs : List Loc} (hL : L ≤ 3072) (C0 : lw_At p s m meth c b L xs) (X : CxL p s m b meth c D cs) (Z : SX ad kS s s.heap) (hj : wJ ad 218) (hA : ∀ i, i < 218 → AL s (ad i)) (hKO : KO K) (hR : KR K) (hW : WF (shp ad K) ad cs g) (hP : va_P D vwCl (wL ad g 218) H) (hS : va_S (AL s) s.heap H locs) (ls : Array Slot) (ii : Int32) (hi0 : 0 ≤ ii.toInt) (hi1 : ii.toInt + 6 ≤ L) (hl : lv_has ls 4 [(3, .int ii), (2, .ref (ad 197)), (1, .ref (ad 0)), (0, .ref b)]) (kk : ∀ (K : sK) (g : Nat → va_E) (H : Heap) (locs : List Loc) (ls : Array Slot), KO K → KR K → WF (shp ad K) ad cs g → va_P D vwCl (wL ad g 218) H → va_S (AL s) s.heap H locs → lv_has ls 4 [(3, .int ii), (2, .ref (ad 197)), (1, .ref (ad 0)), (0, .ref b)] → W p l e room_1 s m #[Value.ref b] below meth c H locs 218 6259 (lw_Z below #[Value.ref b] s) (F0 m 2069 ls [])) : W p l e room_1 s m #[Value.ref b] below meth c H locs 218 6259 (lw_Z below #[Value.ref b] s) (F0 m 1844 ls []) := by
  have hx := X.1
  have hb : c.code = cL_law := X.2.1
  obtain ⟨-, -, -, -, -, -, hX, hbl, -, -⟩ := id C0
  have hbA : ¬ AL s b := Nat.not_le.mpr hbl
  refine lv_aload_n hx hb dL_law_1844 rfl (lv_at hl 2 rfl) ?_
  refine lv_aload_n hx hb dL_law_1845 rfl (lv_at hl 3 rfl) ?_
  refine lv_iload_n hx hb dL_law_1846 rfl (lv_at hl 0 rfl) ?_
  refine lv_iconst (v := 1) hx hb dL_law_1847 (by decide) ?_
  refine lv_iadd hx hb dL_law_1848 ?_
  refine lv_topi (fun z_1 ez_1 => ?_)
  have hz_1 : z_1.toInt = ii.toInt + 1 := n_add rfl (by decide : (1 : Int32).toInt = 1) ez_1 (by omega) (by omega)
  refine va_sld hx hb hX hbl hbA hS (i := z_1) (n_in (rfl : z_1.toInt = z_1.toInt) (by omega) (by omega)) dL_law_1849 ?_
  refine lv_topi (fun x_2 ex_2 => ?_)
  obtain ⟨fso_3, hgo_3, -⟩ := hW.obj (i := 0) (by decide) (sh_0 ad _)
  refine s_calli (q := (RX11, TX11, 14)) (As := [.int x_2]) (rest := []) X Z (s_X11_image l D cs ad kS K hKO hj g hW x_2) (cwV 1 X.2.2.2.2.1 gL_X11_image rfl rfl rfl (by decide +kernel) ⟨Nat.le_of_ble_eq_true rfl, Nat.le_of_ble_eq_true rfl⟩) (by decide) hgo_3 rfl hP hA (fun a h _ => hS.2.1 a h (Nat.not_le.mpr h)) hS rfl hl.1 rfl (Nat.le_of_ble_eq_true rfl) dL_law_1850 ⟨Nat.le_of_ble_eq_true rfl, Nat.le_of_ble_eq_true rfl⟩ (fun r_5 g_4 H locs hw_6 hP hS => ?_)
  obtain ⟨⟨hw_61, hw_60⟩, hw_6f, hw_6⟩ := hw_6
  by_cases q_7 : r_5.toInt = 0
  · have hw_6W := hw_61 q_7
    have hK_8 : KO (kKept K x_2.toNatClampNeg 1) := hKO.kept (by decide) (by decide)
    refine lv_pop hx hb dL_law_1853 rfl ?_
    refine lv_aload_n hx hb dL_law_1854 rfl (lv_at hl 1 rfl) ?_
    refine lv_aload_n hx hb dL_law_1855 rfl (lv_at hl 3 rfl) ?_
    refine lv_iload_n hx hb dL_law_1856 rfl (lv_at hl 0 rfl) ?_
    refine lv_iconst (v := 1) hx hb dL_law_1857 (by decide) ?_
    refine lv_iadd hx hb dL_law_1858 ?_
    refine lv_topi (fun z_9 ez_9 => ?_)
    have hz_9 : z_9.toInt = ii.toInt + 1 := n_add rfl (by decide : (1 : Int32).toInt = 1) ez_9 (by omega) (by omega)
    refine va_sld hx hb hX hbl hbA hS (i := z_9) (n_in (rfl : z_9.toInt = z_9.toInt) (by omega) (by omega)) dL_law_1859 ?_
    refine lv_topi (fun x_10 ex_10 => ?_)
    obtain rfl : x_2 = x_10 := by rw [ex_2, ex_10, ez_1, ez_9]
    obtain ⟨fso_11, hgo_11, -⟩ := hw_6W.obj (i := 197) (by decide) (sh_197 ad _)
    refine s_calli (q := (RX12, TX12, 40)) (As := [.int x_2]) (rest := []) X Z (s_X12_image l D cs ad kS (kKept K x_2.toNatClampNeg 1) hK_8 hj g_4 hw_6W x_2) (cwV 1 X.2.2.2.2.1 gL_X12_image rfl rfl rfl (by decide +kernel) ⟨Nat.le_of_ble_eq_true rfl, Nat.le_of_ble_eq_true rfl⟩) (by decide) hgo_11 rfl hP hA (fun a h _ => hS.2.1 a h (Nat.not_le.mpr h)) hS rfl hl.1 rfl (Nat.le_of_ble_eq_true rfl) dL_law_1860 ⟨Nat.le_of_ble_eq_true rfl, Nat.le_of_ble_eq_true rfl⟩ (fun r_13 g_12 H locs hw_14 hP hS => ?_)
    obtain ⟨⟨hw_141, hw_140⟩, hw_14f, hw_14⟩ := hw_14
    by_cases q_15 : r_13.toInt = 0
    · have hw_14W := hw_141 q_15
      have hK_16 : KO (kHas (kKept K x_2.toNatClampNeg 1) x_2.toNatClampNeg 1) := hK_8.has (by decide) (by decide)
      refine lv_pop hx hb dL_law_1863 rfl ?_
      refine lv_goto (tgt := 2069) hx hb dL_law_1864 (by decide) ?_
      exact kk (kHas (kKept K x_2.toNatClampNeg 1) x_2.toNatClampNeg 1) g_12 _ _ ls hK_16 (hR.image _) hw_14W hP hS hl
    · have hw_14W := hw_140 q_15
      refine lv_pop hx hb dL_law_1863 rfl ?_
      refine lv_goto (tgt := 2069) hx hb dL_law_1864 (by decide) ?_
      exfalso; omega
  · have hw_6W := hw_60 q_7
    refine lv_pop hx hb dL_law_1853 rfl ?_
    refine lv_aload_n hx hb dL_law_1854 rfl (lv_at hl 1 rfl) ?_
    refine lv_aload_n hx hb dL_law_1855 rfl (lv_at hl 3 rfl) ?_
    refine lv_iload_n hx hb dL_law_1856 rfl (lv_at hl 0 rfl) ?_
    refine lv_iconst (v := 1) hx hb dL_law_1857 (by decide) ?_
    refine lv_iadd hx hb dL_law_1858 ?_
    refine lv_topi (fun z_17 ez_17 => ?_)
    have hz_17 : z_17.toInt = ii.toInt + 1 := n_add rfl (by decide : (1 : Int32).toInt = 1) ez_17 (by omega) (by omega)
    refine va_sld hx hb hX hbl hbA hS (i := z_17) (n_in (rfl : z_17.toInt = z_17.toInt) (by omega) (by omega)) dL_law_1859 ?_
    refine lv_topi (fun x_18 ex_18 => ?_)
    obtain rfl : x_2 = x_18 := by rw [ex_2, ex_18, ez_1, ez_17]
    obtain ⟨fso_19, hgo_19, -⟩ := hw_6W.obj (i := 197) (by decide) (sh_197 ad _)
    refine s_calli (q := (RX12, TX12, 40)) (As := [.int x_2]) (rest := []) X Z (s_X12_image l D cs ad kS K hKO hj g_4 hw_6W x_2) (cwV 1 X.2.2.2.2.1 gL_X12_image rfl rfl rfl (by decide +kernel) ⟨Nat.le_of_ble_eq_true rfl, Nat.le_of_ble_eq_true rfl⟩) (by decide) hgo_19 rfl hP hA (fun a h _ => hS.2.1 a h (Nat.not_le.mpr h)) hS rfl hl.1 rfl (Nat.le_of_ble_eq_true rfl) dL_law_1860 ⟨Nat.le_of_ble_eq_true rfl, Nat.le_of_ble_eq_true rfl⟩ (fun r_21 g_20 H locs hw_22 hP hS => ?_)
    obtain ⟨⟨hw_221, hw_220⟩, hw_22f, hw_22⟩ := hw_22
    by_cases q_23 : r_21.toInt = 0
    · have hw_22W := hw_221 q_23
      have hK_24 : KO (kHas K x_2.toNatClampNeg 1) := hKO.has (by decide) (by decide)
      refine lv_pop hx hb dL_law_1863 rfl ?_
      refine lv_goto (tgt := 2069) hx hb dL_law_1864 (by decide) ?_
      exfalso; omega
    · have hw_22W := hw_220 q_23
      refine lv_pop hx hb dL_law_1863 rfl ?_
      refine lv_goto (tgt := 2069) hx hb dL_law_1864 (by decide) ?_
      exact kk K g_20 _ _ ls hKO hR hw_22W hP hS hl

theorem dL_law_1867 : decode cL_law 1867 = .ok (.aload_n 1, 1) := by decide +kernel
theorem dL_law_1868 : decode cL_law 1868 = .ok (.aload_n 0, 1) := by decide +kernel
theorem dL_law_1869 : decode cL_law 1869 = .ok (.iload_n 3, 1) := by decide +kernel
theorem dL_law_1870 : decode cL_law 1870 = .ok (.iconst 1, 1) := by decide +kernel
theorem dL_law_1871 : decode cL_law 1871 = .ok (.iadd, 1) := by decide +kernel
theorem dL_law_1872 : decode cL_law 1872 = .ok (.iaload, 1) := by decide +kernel
theorem dL_law_1873 : decode cL_law 1873 = .ok (.invokevirtual 256, 3) := by decide +kernel
theorem dL_law_1876 : decode cL_law 1876 = .ok (.pop, 1) := by decide +kernel
theorem dL_law_1877 : decode cL_law 1877 = .ok (.aload_n 2, 1) := by decide +kernel
theorem dL_law_1878 : decode cL_law 1878 = .ok (.aload_n 0, 1) := by decide +kernel
theorem dL_law_1879 : decode cL_law 1879 = .ok (.iload_n 3, 1) := by decide +kernel
theorem dL_law_1880 : decode cL_law 1880 = .ok (.iconst 1, 1) := by decide +kernel
theorem dL_law_1881 : decode cL_law 1881 = .ok (.iadd, 1) := by decide +kernel
theorem dL_law_1882 : decode cL_law 1882 = .ok (.iaload, 1) := by decide +kernel
theorem dL_law_1883 : decode cL_law 1883 = .ok (.invokevirtual 259, 3) := by decide +kernel
theorem dL_law_1886 : decode cL_law 1886 = .ok (.pop, 1) := by decide +kernel
theorem dL_law_1887 : decode cL_law 1887 = .ok (.goto 182, 3) := by decide +kernel
set_option maxRecDepth 20000 in
theorem mT_X11_back : wIn lw_tbl vX11_back := wIn.cons (List.mem_of_getElem? (i := 1230) (by decide +kernel)) (wIn.app (wIn.r _ [489, 486, 488, 681, 682, 683, 100, 491, 697, 698, 699, 103] (by decide +kernel)) (wIn.app iT_11 (wIn.app mT_X6_copyFrom mT_X10_passOver)))
theorem gL_X11_back : GoodIn lw_tbl (wsV RL 256 RX11 yX11_back vX11_back) := goodIn_app (goodIn_r _ [1227, 1228, 1229, 98] (by decide +kernel) (by decide +kernel)) (fun w h => ⟨mT_X11_back w h, gs_X11_back w h⟩)
set_option maxRecDepth 20000 in
theorem mT_X12_back : wIn lw_tbl vX12_back := wIn.cons (List.mem_of_getElem? (i := 1393) (by decide +kernel)) (wIn.app (wIn.r _ [1386, 1387, 1388, 110, 1264, 1262, 1263] (by decide +kernel)) (wIn.app iT_12 mT_X12_in))
theorem gL_X12_back : GoodIn lw_tbl (wsV RL 259 RX12 yX12_back vX12_back) := goodIn_app (goodIn_r _ [1390, 1391, 1392, 110] (by decide +kernel) (by decide +kernel)) (fun w h => ⟨mT_X12_back w h, gs_X12_back w h⟩)
set_option maxHeartbeats 8000000 in
set_option maxRecDepth 100000 in
theorem law_c59 {p : Program} {e : Env} {s : State} {m : MethodId} {below : List Frame} {meth : Method} {c : Code} (l : Launch) {b L : Nat} {xs : Nat → Int32} {D : va_G} {cs : Nat → ClassId} {ad : Nat → Nat} {kS : kSt} {K : sK} {g : Nat → va_E} {H : Heap} {locs : List Loc} (hL : L ≤ 3072) (C0 : lw_At p s m meth c b L xs) (X : CxL p s m b meth c D cs) (Z : SX ad kS s s.heap) (hj : wJ ad 218) (hA : ∀ i, i < 218 → AL s (ad i)) (hKO : KO K) (hR : KR K) (hW : WF (shp ad K) ad cs g) (hP : va_P D vwCl (wL ad g 218) H) (hS : va_S (AL s) s.heap H locs) (ls : Array Slot) (ii : Int32) (hi0 : 0 ≤ ii.toInt) (hi1 : ii.toInt + 6 ≤ L) (hl : lv_has ls 4 [(3, .int ii), (2, .ref (ad 197)), (1, .ref (ad 0)), (0, .ref b)]) (kk : ∀ (K : sK) (g : Nat → va_E) (H : Heap) (locs : List Loc) (ls : Array Slot), KO K → KR K → WF (shp ad K) ad cs g → va_P D vwCl (wL ad g 218) H → va_S (AL s) s.heap H locs → lv_has ls 4 [(3, .int ii), (2, .ref (ad 197)), (1, .ref (ad 0)), (0, .ref b)] → W p l e room_1 s m #[Value.ref b] below meth c H locs 218 6259 (lw_Z below #[Value.ref b] s) (F0 m 2069 ls [])) : W p l e room_1 s m #[Value.ref b] below meth c H locs 218 6259 (lw_Z below #[Value.ref b] s) (F0 m 1867 ls []) := by
  have hx := X.1
  have hb : c.code = cL_law := X.2.1
  obtain ⟨-, -, -, -, -, -, hX, hbl, -, -⟩ := id C0
  have hbA : ¬ AL s b := Nat.not_le.mpr hbl
  refine lv_aload_n hx hb dL_law_1867 rfl (lv_at hl 2 rfl) ?_
  refine lv_aload_n hx hb dL_law_1868 rfl (lv_at hl 3 rfl) ?_
  refine lv_iload_n hx hb dL_law_1869 rfl (lv_at hl 0 rfl) ?_
  refine lv_iconst (v := 1) hx hb dL_law_1870 (by decide) ?_
  refine lv_iadd hx hb dL_law_1871 ?_
  refine lv_topi (fun z_1 ez_1 => ?_)
  have hz_1 : z_1.toInt = ii.toInt + 1 := n_add rfl (by decide : (1 : Int32).toInt = 1) ez_1 (by omega) (by omega)
  refine va_sld hx hb hX hbl hbA hS (i := z_1) (n_in (rfl : z_1.toInt = z_1.toInt) (by omega) (by omega)) dL_law_1872 ?_
  refine lv_topi (fun x_2 ex_2 => ?_)
  obtain ⟨fso_3, hgo_3, -⟩ := hW.obj (i := 0) (by decide) (sh_0 ad _)
  refine s_calli (q := (RX11, TX11, 14)) (As := [.int x_2]) (rest := []) X Z (s_X11_back l D cs ad kS K hKO hj g hW x_2) (cwV 1 X.2.2.2.2.1 gL_X11_back rfl rfl rfl (by decide +kernel) ⟨Nat.le_of_ble_eq_true rfl, Nat.le_of_ble_eq_true rfl⟩) (by decide) hgo_3 rfl hP hA (fun a h _ => hS.2.1 a h (Nat.not_le.mpr h)) hS rfl hl.1 rfl (Nat.le_of_ble_eq_true rfl) dL_law_1873 ⟨Nat.le_of_ble_eq_true rfl, Nat.le_of_ble_eq_true rfl⟩ (fun r_5 g_4 H locs hw_6 hP hS => ?_)
  obtain ⟨hw_6W, hw_6f, hw_6⟩ := hw_6
  refine lv_pop hx hb dL_law_1876 rfl ?_
  refine lv_aload_n hx hb dL_law_1877 rfl (lv_at hl 1 rfl) ?_
  refine lv_aload_n hx hb dL_law_1878 rfl (lv_at hl 3 rfl) ?_
  refine lv_iload_n hx hb dL_law_1879 rfl (lv_at hl 0 rfl) ?_
  refine lv_iconst (v := 1) hx hb dL_law_1880 (by decide) ?_
  refine lv_iadd hx hb dL_law_1881 ?_
  refine lv_topi (fun z_7 ez_7 => ?_)
  have hz_7 : z_7.toInt = ii.toInt + 1 := n_add rfl (by decide : (1 : Int32).toInt = 1) ez_7 (by omega) (by omega)
  refine va_sld hx hb hX hbl hbA hS (i := z_7) (n_in (rfl : z_7.toInt = z_7.toInt) (by omega) (by omega)) dL_law_1882 ?_
  refine lv_topi (fun x_8 ex_8 => ?_)
  obtain rfl : x_2 = x_8 := by rw [ex_2, ex_8, ez_1, ez_7]
  obtain ⟨fso_9, hgo_9, -⟩ := hw_6W.obj (i := 197) (by decide) (sh_197 ad _)
  refine s_calli (q := (RX12, TX12, 40)) (As := [.int x_2]) (rest := []) X Z (s_X12_back l D cs ad kS K hKO hj g_4 hw_6W x_2) (cwV 1 X.2.2.2.2.1 gL_X12_back rfl rfl rfl (by decide +kernel) ⟨Nat.le_of_ble_eq_true rfl, Nat.le_of_ble_eq_true rfl⟩) (by decide) hgo_9 rfl hP hA (fun a h _ => hS.2.1 a h (Nat.not_le.mpr h)) hS rfl hl.1 rfl (Nat.le_of_ble_eq_true rfl) dL_law_1883 ⟨Nat.le_of_ble_eq_true rfl, Nat.le_of_ble_eq_true rfl⟩ (fun r_11 g_10 H locs hw_12 hP hS => ?_)
  obtain ⟨hw_12W, hw_12f, hw_12⟩ := hw_12
  refine lv_pop hx hb dL_law_1886 rfl ?_
  refine lv_goto (tgt := 2069) hx hb dL_law_1887 (by decide) ?_
  exact kk K g_10 _ _ ls hKO hR hw_12W hP hS hl

theorem dL_law_1890 : decode cL_law 1890 = .ok (.aload_n 1, 1) := by decide +kernel
theorem dL_law_1891 : decode cL_law 1891 = .ok (.aload_n 0, 1) := by decide +kernel
theorem dL_law_1892 : decode cL_law 1892 = .ok (.iload_n 3, 1) := by decide +kernel
theorem dL_law_1893 : decode cL_law 1893 = .ok (.iconst 1, 1) := by decide +kernel
theorem dL_law_1894 : decode cL_law 1894 = .ok (.iadd, 1) := by decide +kernel
theorem dL_law_1895 : decode cL_law 1895 = .ok (.iaload, 1) := by decide +kernel
theorem dL_law_1896 : decode cL_law 1896 = .ok (.aload_n 0, 1) := by decide +kernel
theorem dL_law_1897 : decode cL_law 1897 = .ok (.iload_n 3, 1) := by decide +kernel
theorem dL_law_1898 : decode cL_law 1898 = .ok (.iconst 2, 1) := by decide +kernel
theorem dL_law_1899 : decode cL_law 1899 = .ok (.iadd, 1) := by decide +kernel
theorem dL_law_1900 : decode cL_law 1900 = .ok (.iaload, 1) := by decide +kernel
theorem dL_law_1901 : decode cL_law 1901 = .ok (.aload_n 0, 1) := by decide +kernel
theorem dL_law_1902 : decode cL_law 1902 = .ok (.iload_n 3, 1) := by decide +kernel
theorem dL_law_1903 : decode cL_law 1903 = .ok (.iconst 3, 1) := by decide +kernel
theorem dL_law_1904 : decode cL_law 1904 = .ok (.iadd, 1) := by decide +kernel
theorem dL_law_1905 : decode cL_law 1905 = .ok (.iaload, 1) := by decide +kernel
theorem dL_law_1906 : decode cL_law 1906 = .ok (.invokevirtual 260, 3) := by decide +kernel
theorem dL_law_1909 : decode cL_law 1909 = .ok (.pop, 1) := by decide +kernel
theorem dL_law_1910 : decode cL_law 1910 = .ok (.aload_n 2, 1) := by decide +kernel
theorem dL_law_1911 : decode cL_law 1911 = .ok (.aload_n 0, 1) := by decide +kernel
theorem dL_law_1912 : decode cL_law 1912 = .ok (.iload_n 3, 1) := by decide +kernel
theorem dL_law_1913 : decode cL_law 1913 = .ok (.iconst 1, 1) := by decide +kernel
theorem dL_law_1914 : decode cL_law 1914 = .ok (.iadd, 1) := by decide +kernel
theorem dL_law_1915 : decode cL_law 1915 = .ok (.iaload, 1) := by decide +kernel
theorem dL_law_1916 : decode cL_law 1916 = .ok (.aload_n 0, 1) := by decide +kernel
theorem dL_law_1917 : decode cL_law 1917 = .ok (.iload_n 3, 1) := by decide +kernel
theorem dL_law_1918 : decode cL_law 1918 = .ok (.iconst 2, 1) := by decide +kernel
theorem dL_law_1919 : decode cL_law 1919 = .ok (.iadd, 1) := by decide +kernel
theorem dL_law_1920 : decode cL_law 1920 = .ok (.iaload, 1) := by decide +kernel
theorem dL_law_1921 : decode cL_law 1921 = .ok (.aload_n 0, 1) := by decide +kernel
theorem dL_law_1922 : decode cL_law 1922 = .ok (.iload_n 3, 1) := by decide +kernel
theorem dL_law_1923 : decode cL_law 1923 = .ok (.iconst 3, 1) := by decide +kernel
theorem dL_law_1924 : decode cL_law 1924 = .ok (.iadd, 1) := by decide +kernel
theorem dL_law_1925 : decode cL_law 1925 = .ok (.iaload, 1) := by decide +kernel
theorem dL_law_1926 : decode cL_law 1926 = .ok (.invokevirtual 263, 3) := by decide +kernel
theorem dL_law_1929 : decode cL_law 1929 = .ok (.pop, 1) := by decide +kernel
theorem dL_law_1930 : decode cL_law 1930 = .ok (.goto 139, 3) := by decide +kernel
set_option maxRecDepth 20000 in
theorem mT_X5_lay : wIn lw_tbl vX5_lay := wIn.cons (List.mem_of_getElem? (i := 1238) (by decide +kernel)) (wIn.app (wIn.r _ [318, 1239, 1082, 118, 321, 323, 326] (by decide +kernel)) (wIn.app iT_5 mT_J7_fill_d0a16))
set_option maxRecDepth 20000 in
theorem mT_X11_row : wIn lw_tbl vX11_row := wIn.cons (List.mem_of_getElem? (i := 1234) (by decide +kernel)) (wIn.app (wIn.r _ [959, 960, 98, 490, 1235, 1236, 1237, 102] (by decide +kernel)) (wIn.app iT_11 (wIn.app mT_X11_isSlot mT_X5_lay)))
theorem gL_X11_row : GoodIn lw_tbl (wsV RL 260 RX11 yX11_row vX11_row) := goodIn_app (goodIn_r _ [1231, 1232, 1233, 98] (by decide +kernel) (by decide +kernel)) (fun w h => ⟨mT_X11_row w h, gs_X11_row w h⟩)
set_option maxRecDepth 20000 in
theorem mT_X12_row : wIn lw_tbl vX12_row := wIn.cons (List.mem_of_getElem? (i := 1914) (by decide +kernel)) (wIn.app (wIn.r _ [1734, 1735, 110, 1737, 1387, 1388, 1297, 1298, 1299] (by decide +kernel)) (wIn.app iT_12 (wIn.app mT_X12_isSlot mT_X12_in)))
theorem gL_X12_row : GoodIn lw_tbl (wsV RL 263 RX12 yX12_row vX12_row) := goodIn_app (goodIn_r _ [1911, 1912, 1913, 110] (by decide +kernel) (by decide +kernel)) (fun w h => ⟨mT_X12_row w h, gs_X12_row w h⟩)
set_option maxHeartbeats 8000000 in
set_option maxRecDepth 100000 in
theorem law_c60 {p : Program} {e : Env} {s : State} {m : MethodId} {below : List Frame} {meth : Method} {c : Code} (l : Launch) {b L : Nat} {xs : Nat → Int32} {D : va_G} {cs : Nat → ClassId} {ad : Nat → Nat} {kS : kSt} {K : sK} {g : Nat → va_E} {H : Heap} {locs : List Loc} (hL : L ≤ 3072) (C0 : lw_At p s m meth c b L xs) (X : CxL p s m b meth c D cs) (Z : SX ad kS s s.heap) (hj : wJ ad 218) (hA : ∀ i, i < 218 → AL s (ad i)) (hKO : KO K) (hR : KR K) (hW : WF (shp ad K) ad cs g) (hP : va_P D vwCl (wL ad g 218) H) (hS : va_S (AL s) s.heap H locs) (ls : Array Slot) (ii : Int32) (hi0 : 0 ≤ ii.toInt) (hi1 : ii.toInt + 6 ≤ L) (hl : lv_has ls 4 [(3, .int ii), (2, .ref (ad 197)), (1, .ref (ad 0)), (0, .ref b)]) (kk : ∀ (K : sK) (g : Nat → va_E) (H : Heap) (locs : List Loc) (ls : Array Slot), KO K → KR K → WF (shp ad K) ad cs g → va_P D vwCl (wL ad g 218) H → va_S (AL s) s.heap H locs → lv_has ls 4 [(3, .int ii), (2, .ref (ad 197)), (1, .ref (ad 0)), (0, .ref b)] → W p l e room_1 s m #[Value.ref b] below meth c H locs 218 6259 (lw_Z below #[Value.ref b] s) (F0 m 2069 ls [])) : W p l e room_1 s m #[Value.ref b] below meth c H locs 218 6259 (lw_Z below #[Value.ref b] s) (F0 m 1890 ls []) := by
  have hx := X.1
  have hb : c.code = cL_law := X.2.1
  obtain ⟨-, -, -, -, -, -, hX, hbl, -, -⟩ := id C0
  have hbA : ¬ AL s b := Nat.not_le.mpr hbl
  refine lv_aload_n hx hb dL_law_1890 rfl (lv_at hl 2 rfl) ?_
  refine lv_aload_n hx hb dL_law_1891 rfl (lv_at hl 3 rfl) ?_
  refine lv_iload_n hx hb dL_law_1892 rfl (lv_at hl 0 rfl) ?_
  refine lv_iconst (v := 1) hx hb dL_law_1893 (by decide) ?_
  refine lv_iadd hx hb dL_law_1894 ?_
  refine lv_topi (fun z_1 ez_1 => ?_)
  have hz_1 : z_1.toInt = ii.toInt + 1 := n_add rfl (by decide : (1 : Int32).toInt = 1) ez_1 (by omega) (by omega)
  refine va_sld hx hb hX hbl hbA hS (i := z_1) (n_in (rfl : z_1.toInt = z_1.toInt) (by omega) (by omega)) dL_law_1895 ?_
  refine lv_topi (fun x_2 ex_2 => ?_)
  refine lv_aload_n hx hb dL_law_1896 rfl (lv_at hl 3 rfl) ?_
  refine lv_iload_n hx hb dL_law_1897 rfl (lv_at hl 0 rfl) ?_
  refine lv_iconst (v := 2) hx hb dL_law_1898 (by decide) ?_
  refine lv_iadd hx hb dL_law_1899 ?_
  refine lv_topi (fun z_3 ez_3 => ?_)
  have hz_3 : z_3.toInt = ii.toInt + 2 := n_add rfl (by decide : (2 : Int32).toInt = 2) ez_3 (by omega) (by omega)
  refine va_sld hx hb hX hbl hbA hS (i := z_3) (n_in (rfl : z_3.toInt = z_3.toInt) (by omega) (by omega)) dL_law_1900 ?_
  refine lv_topi (fun x_4 ex_4 => ?_)
  refine lv_aload_n hx hb dL_law_1901 rfl (lv_at hl 3 rfl) ?_
  refine lv_iload_n hx hb dL_law_1902 rfl (lv_at hl 0 rfl) ?_
  refine lv_iconst (v := 3) hx hb dL_law_1903 (by decide) ?_
  refine lv_iadd hx hb dL_law_1904 ?_
  refine lv_topi (fun z_5 ez_5 => ?_)
  have hz_5 : z_5.toInt = ii.toInt + 3 := n_add rfl (by decide : (3 : Int32).toInt = 3) ez_5 (by omega) (by omega)
  refine va_sld hx hb hX hbl hbA hS (i := z_5) (n_in (rfl : z_5.toInt = z_5.toInt) (by omega) (by omega)) dL_law_1905 ?_
  refine lv_topi (fun x_6 ex_6 => ?_)
  obtain ⟨fso_7, hgo_7, -⟩ := hW.obj (i := 0) (by decide) (sh_0 ad _)
  refine s_calli (q := (RX11, TX11, 14)) (As := [.int x_2, .int x_4, .int x_6]) (rest := []) X Z (s_X11_row l D cs ad kS K hKO hj g hW x_2 x_4 x_6) (cwV 3 X.2.2.2.2.1 gL_X11_row rfl rfl rfl (by decide +kernel) ⟨Nat.le_of_ble_eq_true rfl, Nat.le_of_ble_eq_true rfl⟩) (by decide) hgo_7 rfl hP hA (fun a h _ => hS.2.1 a h (Nat.not_le.mpr h)) hS rfl hl.1 rfl (Nat.le_of_ble_eq_true rfl) dL_law_1906 ⟨Nat.le_of_ble_eq_true rfl, Nat.le_of_ble_eq_true rfl⟩ (fun r_9 g_8 H locs hw_10 hP hS => ?_)
  obtain ⟨⟨hw_101, hw_100⟩, hw_10f, hw_10⟩ := hw_10
  by_cases q_11 : r_9.toInt = 0
  · have hw_10W := hw_101 q_11
    have hK_12 : KO (kHeld (kWid (kLaid K x_2.toNatClampNeg 1) x_2.toNatClampNeg x_4) x_2.toNatClampNeg x_6) := ((hKO.laid (by decide) (by decide)).wid).held (by omega) (by omega)
    refine lv_pop hx hb dL_law_1909 rfl ?_
    refine lv_aload_n hx hb dL_law_1910 rfl (lv_at hl 1 rfl) ?_
    refine lv_aload_n hx hb dL_law_1911 rfl (lv_at hl 3 rfl) ?_
    refine lv_iload_n hx hb dL_law_1912 rfl (lv_at hl 0 rfl) ?_
    refine lv_iconst (v := 1) hx hb dL_law_1913 (by decide) ?_
    refine lv_iadd hx hb dL_law_1914 ?_
    refine lv_topi (fun z_13 ez_13 => ?_)
    have hz_13 : z_13.toInt = ii.toInt + 1 := n_add rfl (by decide : (1 : Int32).toInt = 1) ez_13 (by omega) (by omega)
    refine va_sld hx hb hX hbl hbA hS (i := z_13) (n_in (rfl : z_13.toInt = z_13.toInt) (by omega) (by omega)) dL_law_1915 ?_
    refine lv_topi (fun x_14 ex_14 => ?_)
    obtain rfl : x_2 = x_14 := by rw [ex_2, ex_14, ez_1, ez_13]
    refine lv_aload_n hx hb dL_law_1916 rfl (lv_at hl 3 rfl) ?_
    refine lv_iload_n hx hb dL_law_1917 rfl (lv_at hl 0 rfl) ?_
    refine lv_iconst (v := 2) hx hb dL_law_1918 (by decide) ?_
    refine lv_iadd hx hb dL_law_1919 ?_
    refine lv_topi (fun z_15 ez_15 => ?_)
    have hz_15 : z_15.toInt = ii.toInt + 2 := n_add rfl (by decide : (2 : Int32).toInt = 2) ez_15 (by omega) (by omega)
    refine va_sld hx hb hX hbl hbA hS (i := z_15) (n_in (rfl : z_15.toInt = z_15.toInt) (by omega) (by omega)) dL_law_1920 ?_
    refine lv_topi (fun x_16 ex_16 => ?_)
    obtain rfl : x_4 = x_16 := by rw [ex_4, ex_16, ez_3, ez_15]
    refine lv_aload_n hx hb dL_law_1921 rfl (lv_at hl 3 rfl) ?_
    refine lv_iload_n hx hb dL_law_1922 rfl (lv_at hl 0 rfl) ?_
    refine lv_iconst (v := 3) hx hb dL_law_1923 (by decide) ?_
    refine lv_iadd hx hb dL_law_1924 ?_
    refine lv_topi (fun z_17 ez_17 => ?_)
    have hz_17 : z_17.toInt = ii.toInt + 3 := n_add rfl (by decide : (3 : Int32).toInt = 3) ez_17 (by omega) (by omega)
    refine va_sld hx hb hX hbl hbA hS (i := z_17) (n_in (rfl : z_17.toInt = z_17.toInt) (by omega) (by omega)) dL_law_1925 ?_
    refine lv_topi (fun x_18 ex_18 => ?_)
    obtain rfl : x_6 = x_18 := by rw [ex_6, ex_18, ez_5, ez_17]
    obtain ⟨fso_19, hgo_19, -⟩ := hw_10W.obj (i := 197) (by decide) (sh_197 ad _)
    refine s_calli (q := (RX12, TX12, 40)) (As := [.int x_2, .int x_4, .int x_6]) (rest := []) X Z (s_X12_row l D cs ad kS (kHeld (kWid (kLaid K x_2.toNatClampNeg 1) x_2.toNatClampNeg x_4) x_2.toNatClampNeg x_6) hK_12 hj g_8 hw_10W x_2 x_4 x_6) (cwV 3 X.2.2.2.2.1 gL_X12_row rfl rfl rfl (by decide +kernel) ⟨Nat.le_of_ble_eq_true rfl, Nat.le_of_ble_eq_true rfl⟩) (by decide) hgo_19 rfl hP hA (fun a h _ => hS.2.1 a h (Nat.not_le.mpr h)) hS rfl hl.1 rfl (Nat.le_of_ble_eq_true rfl) dL_law_1926 ⟨Nat.le_of_ble_eq_true rfl, Nat.le_of_ble_eq_true rfl⟩ (fun r_21 g_20 H locs hw_22 hP hS => ?_)
    obtain ⟨⟨hw_221, hw_220⟩, hw_22f, hw_22⟩ := hw_22
    by_cases q_23 : r_21.toInt = 0
    · have hw_22W := hw_221 q_23
      have hK_24 : KO (kWidR (kMany (kHeld (kWid (kLaid K x_2.toNatClampNeg 1) x_2.toNatClampNeg x_4) x_2.toNatClampNeg x_6) x_2.toNatClampNeg x_6) x_2.toNatClampNeg x_4) := (hK_12.many (by omega) (by omega)).widR (by omega) (by omega)
      refine lv_pop hx hb dL_law_1929 rfl ?_
      refine lv_goto (tgt := 2069) hx hb dL_law_1930 (by decide) ?_
      exact kk (kWidR (kMany (kHeld (kWid (kLaid K x_2.toNatClampNeg 1) x_2.toNatClampNeg x_4) x_2.toNatClampNeg x_6) x_2.toNatClampNeg x_6) x_2.toNatClampNeg x_4) g_20 _ _ ls hK_24 (hR.row _ (by omega)) hw_22W hP hS hl
    · have hw_22W := hw_220 q_23
      refine lv_pop hx hb dL_law_1929 rfl ?_
      refine lv_goto (tgt := 2069) hx hb dL_law_1930 (by decide) ?_
      exfalso; omega
  · have hw_10W := hw_100 q_11
    refine lv_pop hx hb dL_law_1909 rfl ?_
    refine lv_aload_n hx hb dL_law_1910 rfl (lv_at hl 1 rfl) ?_
    refine lv_aload_n hx hb dL_law_1911 rfl (lv_at hl 3 rfl) ?_
    refine lv_iload_n hx hb dL_law_1912 rfl (lv_at hl 0 rfl) ?_
    refine lv_iconst (v := 1) hx hb dL_law_1913 (by decide) ?_
    refine lv_iadd hx hb dL_law_1914 ?_
    refine lv_topi (fun z_25 ez_25 => ?_)
    have hz_25 : z_25.toInt = ii.toInt + 1 := n_add rfl (by decide : (1 : Int32).toInt = 1) ez_25 (by omega) (by omega)
    refine va_sld hx hb hX hbl hbA hS (i := z_25) (n_in (rfl : z_25.toInt = z_25.toInt) (by omega) (by omega)) dL_law_1915 ?_
    refine lv_topi (fun x_26 ex_26 => ?_)
    obtain rfl : x_2 = x_26 := by rw [ex_2, ex_26, ez_1, ez_25]
    refine lv_aload_n hx hb dL_law_1916 rfl (lv_at hl 3 rfl) ?_
    refine lv_iload_n hx hb dL_law_1917 rfl (lv_at hl 0 rfl) ?_
    refine lv_iconst (v := 2) hx hb dL_law_1918 (by decide) ?_
    refine lv_iadd hx hb dL_law_1919 ?_
    refine lv_topi (fun z_27 ez_27 => ?_)
    have hz_27 : z_27.toInt = ii.toInt + 2 := n_add rfl (by decide : (2 : Int32).toInt = 2) ez_27 (by omega) (by omega)
    refine va_sld hx hb hX hbl hbA hS (i := z_27) (n_in (rfl : z_27.toInt = z_27.toInt) (by omega) (by omega)) dL_law_1920 ?_
    refine lv_topi (fun x_28 ex_28 => ?_)
    obtain rfl : x_4 = x_28 := by rw [ex_4, ex_28, ez_3, ez_27]
    refine lv_aload_n hx hb dL_law_1921 rfl (lv_at hl 3 rfl) ?_
    refine lv_iload_n hx hb dL_law_1922 rfl (lv_at hl 0 rfl) ?_
    refine lv_iconst (v := 3) hx hb dL_law_1923 (by decide) ?_
    refine lv_iadd hx hb dL_law_1924 ?_
    refine lv_topi (fun z_29 ez_29 => ?_)
    have hz_29 : z_29.toInt = ii.toInt + 3 := n_add rfl (by decide : (3 : Int32).toInt = 3) ez_29 (by omega) (by omega)
    refine va_sld hx hb hX hbl hbA hS (i := z_29) (n_in (rfl : z_29.toInt = z_29.toInt) (by omega) (by omega)) dL_law_1925 ?_
    refine lv_topi (fun x_30 ex_30 => ?_)
    obtain rfl : x_6 = x_30 := by rw [ex_6, ex_30, ez_5, ez_29]
    obtain ⟨fso_31, hgo_31, -⟩ := hw_10W.obj (i := 197) (by decide) (sh_197 ad _)
    refine s_calli (q := (RX12, TX12, 40)) (As := [.int x_2, .int x_4, .int x_6]) (rest := []) X Z (s_X12_row l D cs ad kS K hKO hj g_8 hw_10W x_2 x_4 x_6) (cwV 3 X.2.2.2.2.1 gL_X12_row rfl rfl rfl (by decide +kernel) ⟨Nat.le_of_ble_eq_true rfl, Nat.le_of_ble_eq_true rfl⟩) (by decide) hgo_31 rfl hP hA (fun a h _ => hS.2.1 a h (Nat.not_le.mpr h)) hS rfl hl.1 rfl (Nat.le_of_ble_eq_true rfl) dL_law_1926 ⟨Nat.le_of_ble_eq_true rfl, Nat.le_of_ble_eq_true rfl⟩ (fun r_33 g_32 H locs hw_34 hP hS => ?_)
    obtain ⟨⟨hw_341, hw_340⟩, hw_34f, hw_34⟩ := hw_34
    by_cases q_35 : r_33.toInt = 0
    · have hw_34W := hw_341 q_35
      have hK_36 : KO (kWidR (kMany K x_2.toNatClampNeg x_6) x_2.toNatClampNeg x_4) := (hKO.many (by omega) (by omega)).widR (by omega) (by omega)
      refine lv_pop hx hb dL_law_1929 rfl ?_
      refine lv_goto (tgt := 2069) hx hb dL_law_1930 (by decide) ?_
      exfalso; omega
    · have hw_34W := hw_340 q_35
      refine lv_pop hx hb dL_law_1929 rfl ?_
      refine lv_goto (tgt := 2069) hx hb dL_law_1930 (by decide) ?_
      exact kk K g_32 _ _ ls hKO hR hw_34W hP hS hl

theorem dL_law_1933 : decode cL_law 1933 = .ok (.aload_n 1, 1) := by decide +kernel
theorem dL_law_1934 : decode cL_law 1934 = .ok (.aload_n 0, 1) := by decide +kernel
theorem dL_law_1935 : decode cL_law 1935 = .ok (.iload_n 3, 1) := by decide +kernel
theorem dL_law_1936 : decode cL_law 1936 = .ok (.iconst 1, 1) := by decide +kernel
theorem dL_law_1937 : decode cL_law 1937 = .ok (.iadd, 1) := by decide +kernel
theorem dL_law_1938 : decode cL_law 1938 = .ok (.iaload, 1) := by decide +kernel
theorem dL_law_1939 : decode cL_law 1939 = .ok (.aload_n 0, 1) := by decide +kernel
theorem dL_law_1940 : decode cL_law 1940 = .ok (.iload_n 3, 1) := by decide +kernel
theorem dL_law_1941 : decode cL_law 1941 = .ok (.iconst 2, 1) := by decide +kernel
theorem dL_law_1942 : decode cL_law 1942 = .ok (.iadd, 1) := by decide +kernel
theorem dL_law_1943 : decode cL_law 1943 = .ok (.iaload, 1) := by decide +kernel
theorem dL_law_1944 : decode cL_law 1944 = .ok (.aload_n 0, 1) := by decide +kernel
theorem dL_law_1945 : decode cL_law 1945 = .ok (.iload_n 3, 1) := by decide +kernel
theorem dL_law_1946 : decode cL_law 1946 = .ok (.iconst 3, 1) := by decide +kernel
theorem dL_law_1947 : decode cL_law 1947 = .ok (.iadd, 1) := by decide +kernel
theorem dL_law_1948 : decode cL_law 1948 = .ok (.iaload, 1) := by decide +kernel
theorem dL_law_1949 : decode cL_law 1949 = .ok (.i2l, 1) := by decide +kernel
theorem dL_law_1950 : decode cL_law 1950 = .ok (.bipush 32, 2) := by decide +kernel
theorem dL_law_1952 : decode cL_law 1952 = .ok (.lshl, 1) := by decide +kernel
theorem dL_law_1953 : decode cL_law 1953 = .ok (.aload_n 0, 1) := by decide +kernel
theorem dL_law_1954 : decode cL_law 1954 = .ok (.iload_n 3, 1) := by decide +kernel
theorem dL_law_1955 : decode cL_law 1955 = .ok (.iconst 4, 1) := by decide +kernel
theorem dL_law_1956 : decode cL_law 1956 = .ok (.iadd, 1) := by decide +kernel
theorem dL_law_1957 : decode cL_law 1957 = .ok (.iaload, 1) := by decide +kernel
theorem dL_law_1958 : decode cL_law 1958 = .ok (.i2l, 1) := by decide +kernel
theorem dL_law_1959 : decode cL_law 1959 = .ok (.ldc2_w 264, 3) := by decide +kernel
theorem dL_law_1962 : decode cL_law 1962 = .ok (.land, 1) := by decide +kernel
theorem dL_law_1963 : decode cL_law 1963 = .ok (.lor, 1) := by decide +kernel
theorem dL_law_1964 : decode cL_law 1964 = .ok (.invokevirtual 266, 3) := by decide +kernel
theorem dL_law_1967 : decode cL_law 1967 = .ok (.pop, 1) := by decide +kernel
theorem dL_law_1968 : decode cL_law 1968 = .ok (.aload_n 2, 1) := by decide +kernel
theorem dL_law_1969 : decode cL_law 1969 = .ok (.aload_n 0, 1) := by decide +kernel
theorem dL_law_1970 : decode cL_law 1970 = .ok (.iload_n 3, 1) := by decide +kernel
theorem dL_law_1971 : decode cL_law 1971 = .ok (.iconst 1, 1) := by decide +kernel
theorem dL_law_1972 : decode cL_law 1972 = .ok (.iadd, 1) := by decide +kernel
theorem dL_law_1973 : decode cL_law 1973 = .ok (.iaload, 1) := by decide +kernel
theorem dL_law_1974 : decode cL_law 1974 = .ok (.aload_n 0, 1) := by decide +kernel
theorem dL_law_1975 : decode cL_law 1975 = .ok (.iload_n 3, 1) := by decide +kernel
theorem dL_law_1976 : decode cL_law 1976 = .ok (.iconst 2, 1) := by decide +kernel
theorem dL_law_1977 : decode cL_law 1977 = .ok (.iadd, 1) := by decide +kernel
theorem dL_law_1978 : decode cL_law 1978 = .ok (.iaload, 1) := by decide +kernel
theorem dL_law_1979 : decode cL_law 1979 = .ok (.aload_n 0, 1) := by decide +kernel
theorem dL_law_1980 : decode cL_law 1980 = .ok (.iload_n 3, 1) := by decide +kernel
theorem dL_law_1981 : decode cL_law 1981 = .ok (.iconst 3, 1) := by decide +kernel
theorem dL_law_1982 : decode cL_law 1982 = .ok (.iadd, 1) := by decide +kernel
theorem dL_law_1983 : decode cL_law 1983 = .ok (.iaload, 1) := by decide +kernel
theorem dL_law_1984 : decode cL_law 1984 = .ok (.i2l, 1) := by decide +kernel
theorem dL_law_1985 : decode cL_law 1985 = .ok (.bipush 32, 2) := by decide +kernel
theorem dL_law_1987 : decode cL_law 1987 = .ok (.lshl, 1) := by decide +kernel
theorem dL_law_1988 : decode cL_law 1988 = .ok (.aload_n 0, 1) := by decide +kernel
theorem dL_law_1989 : decode cL_law 1989 = .ok (.iload_n 3, 1) := by decide +kernel
theorem dL_law_1990 : decode cL_law 1990 = .ok (.iconst 4, 1) := by decide +kernel
theorem dL_law_1991 : decode cL_law 1991 = .ok (.iadd, 1) := by decide +kernel
theorem dL_law_1992 : decode cL_law 1992 = .ok (.iaload, 1) := by decide +kernel
theorem dL_law_1993 : decode cL_law 1993 = .ok (.i2l, 1) := by decide +kernel
theorem dL_law_1994 : decode cL_law 1994 = .ok (.ldc2_w 264, 3) := by decide +kernel
theorem dL_law_1997 : decode cL_law 1997 = .ok (.land, 1) := by decide +kernel
theorem dL_law_1998 : decode cL_law 1998 = .ok (.lor, 1) := by decide +kernel
theorem dL_law_1999 : decode cL_law 1999 = .ok (.invokevirtual 270, 3) := by decide +kernel
theorem dL_law_2002 : decode cL_law 2002 = .ok (.pop, 1) := by decide +kernel
theorem dL_law_2003 : decode cL_law 2003 = .ok (.goto 66, 3) := by decide +kernel
set_option maxRecDepth 20000 in
theorem mT_X5_cut : wIn lw_tbl vX5_cut := wIn.cons (List.mem_of_getElem? (i := 1247) (by decide +kernel)) (wIn.app (wIn.r _ [323] (by decide +kernel)) iT_5)
set_option maxRecDepth 20000 in
theorem mT_X11_write : wIn lw_tbl vX11_write := wIn.cons (List.mem_of_getElem? (i := 1243) (by decide +kernel)) (wIn.app (wIn.r _ [959, 960, 98, 490, 322, 327, 320, 1244, 1245, 1246, 102] (by decide +kernel)) (wIn.app iT_11 (wIn.app iT_5 (wIn.app mT_X11_isSlot mT_X5_cut))))
theorem gL_X11_write : GoodIn lw_tbl (wsV RL 266 RX11 yX11_write vX11_write) := goodIn_app (goodIn_r _ [1240, 1241, 1242, 98] (by decide +kernel) (by decide +kernel)) (fun w h => ⟨mT_X11_write w h, gs_X11_write w h⟩)
set_option maxRecDepth 20000 in
theorem mT_X12_cut : wIn lw_tbl vX12_cut := wIn.cons (List.mem_of_getElem? (i := 1921) (by decide +kernel)) (wIn.r _ [] (by decide +kernel))
set_option maxRecDepth 20000 in
theorem mT_X12_write : wIn lw_tbl vX12_write := wIn.cons (List.mem_of_getElem? (i := 1918) (by decide +kernel)) (wIn.app (wIn.r _ [1734, 1735, 110, 1297, 1387, 1388, 1299, 1298, 1919, 1920] (by decide +kernel)) (wIn.app iT_12 (wIn.app mT_X12_isSlot (wIn.app mT_X12_in mT_X12_cut))))
theorem gL_X12_write : GoodIn lw_tbl (wsV RL 270 RX12 yX12_write vX12_write) := goodIn_app (goodIn_r _ [1915, 1916, 1917, 110] (by decide +kernel) (by decide +kernel)) (fun w h => ⟨mT_X12_write w h, gs_X12_write w h⟩)
set_option maxHeartbeats 8000000 in
set_option maxRecDepth 100000 in
theorem law_c61 {p : Program} {e : Env} {s : State} {m : MethodId} {below : List Frame} {meth : Method} {c : Code} (l : Launch) {b L : Nat} {xs : Nat → Int32} {D : va_G} {cs : Nat → ClassId} {ad : Nat → Nat} {kS : kSt} {K : sK} {g : Nat → va_E} {H : Heap} {locs : List Loc} (hL : L ≤ 3072) (C0 : lw_At p s m meth c b L xs) (X : CxL p s m b meth c D cs) (Z : SX ad kS s s.heap) (hj : wJ ad 218) (hA : ∀ i, i < 218 → AL s (ad i)) (hKO : KO K) (hR : KR K) (hW : WF (shp ad K) ad cs g) (hP : va_P D vwCl (wL ad g 218) H) (hS : va_S (AL s) s.heap H locs) (ls : Array Slot) (ii : Int32) (hi0 : 0 ≤ ii.toInt) (hi1 : ii.toInt + 6 ≤ L) (hl : lv_has ls 4 [(3, .int ii), (2, .ref (ad 197)), (1, .ref (ad 0)), (0, .ref b)]) (kk : ∀ (K : sK) (g : Nat → va_E) (H : Heap) (locs : List Loc) (ls : Array Slot), KO K → KR K → WF (shp ad K) ad cs g → va_P D vwCl (wL ad g 218) H → va_S (AL s) s.heap H locs → lv_has ls 4 [(3, .int ii), (2, .ref (ad 197)), (1, .ref (ad 0)), (0, .ref b)] → W p l e room_1 s m #[Value.ref b] below meth c H locs 218 6259 (lw_Z below #[Value.ref b] s) (F0 m 2069 ls [])) : W p l e room_1 s m #[Value.ref b] below meth c H locs 218 6259 (lw_Z below #[Value.ref b] s) (F0 m 1933 ls []) := by
  have hx := X.1
  have hb : c.code = cL_law := X.2.1
  obtain ⟨-, -, -, -, -, -, hX, hbl, -, -⟩ := id C0
  have hbA : ¬ AL s b := Nat.not_le.mpr hbl
  refine lv_aload_n hx hb dL_law_1933 rfl (lv_at hl 2 rfl) ?_
  refine lv_aload_n hx hb dL_law_1934 rfl (lv_at hl 3 rfl) ?_
  refine lv_iload_n hx hb dL_law_1935 rfl (lv_at hl 0 rfl) ?_
  refine lv_iconst (v := 1) hx hb dL_law_1936 (by decide) ?_
  refine lv_iadd hx hb dL_law_1937 ?_
  refine lv_topi (fun z_1 ez_1 => ?_)
  have hz_1 : z_1.toInt = ii.toInt + 1 := n_add rfl (by decide : (1 : Int32).toInt = 1) ez_1 (by omega) (by omega)
  refine va_sld hx hb hX hbl hbA hS (i := z_1) (n_in (rfl : z_1.toInt = z_1.toInt) (by omega) (by omega)) dL_law_1938 ?_
  refine lv_topi (fun x_2 ex_2 => ?_)
  refine lv_aload_n hx hb dL_law_1939 rfl (lv_at hl 3 rfl) ?_
  refine lv_iload_n hx hb dL_law_1940 rfl (lv_at hl 0 rfl) ?_
  refine lv_iconst (v := 2) hx hb dL_law_1941 (by decide) ?_
  refine lv_iadd hx hb dL_law_1942 ?_
  refine lv_topi (fun z_3 ez_3 => ?_)
  have hz_3 : z_3.toInt = ii.toInt + 2 := n_add rfl (by decide : (2 : Int32).toInt = 2) ez_3 (by omega) (by omega)
  refine va_sld hx hb hX hbl hbA hS (i := z_3) (n_in (rfl : z_3.toInt = z_3.toInt) (by omega) (by omega)) dL_law_1943 ?_
  refine lv_topi (fun x_4 ex_4 => ?_)
  refine lv_aload_n hx hb dL_law_1944 rfl (lv_at hl 3 rfl) ?_
  refine lv_iload_n hx hb dL_law_1945 rfl (lv_at hl 0 rfl) ?_
  refine lv_iconst (v := 3) hx hb dL_law_1946 (by decide) ?_
  refine lv_iadd hx hb dL_law_1947 ?_
  refine lv_topi (fun z_5 ez_5 => ?_)
  have hz_5 : z_5.toInt = ii.toInt + 3 := n_add rfl (by decide : (3 : Int32).toInt = 3) ez_5 (by omega) (by omega)
  refine va_sld hx hb hX hbl hbA hS (i := z_5) (n_in (rfl : z_5.toInt = z_5.toInt) (by omega) (by omega)) dL_law_1948 ?_
  refine lv_topi (fun x_6 ex_6 => ?_)
  refine lv_i2l hx hb dL_law_1949 rfl ?_
  refine lv_topl (fun z_7 ez_7 => ?_)
  refine lv_bipush (v := 32) hx hb dL_law_1950 (by decide) ?_
  refine lv_lshl hx hb dL_law_1952 rfl ?_
  refine lv_topl (fun z_8 ez_8 => ?_)
  refine lv_aload_n hx hb dL_law_1953 rfl (lv_at hl 3 rfl) ?_
  refine lv_iload_n hx hb dL_law_1954 rfl (lv_at hl 0 rfl) ?_
  refine lv_iconst (v := 4) hx hb dL_law_1955 (by decide) ?_
  refine lv_iadd hx hb dL_law_1956 ?_
  refine lv_topi (fun z_9 ez_9 => ?_)
  have hz_9 : z_9.toInt = ii.toInt + 4 := n_add rfl (by decide : (4 : Int32).toInt = 4) ez_9 (by omega) (by omega)
  refine va_sld hx hb hX hbl hbA hS (i := z_9) (n_in (rfl : z_9.toInt = z_9.toInt) (by omega) (by omega)) dL_law_1957 ?_
  refine lv_topi (fun x_10 ex_10 => ?_)
  refine lv_i2l hx hb dL_law_1958 rfl ?_
  refine lv_topl (fun z_11 ez_11 => ?_)
  refine lv_ldc2 (v := 4294967295) hx hb X.2.2.2.2.2.1 (X.2.2.2.2.1 _ (List.mem_of_getElem? (i := 1926) (by decide +kernel))) dL_law_1959 ?_
  refine lv_land hx hb dL_law_1962 ?_
  refine lv_topl (fun z_12 ez_12 => ?_)
  refine lv_lor hx hb dL_law_1963 ?_
  refine lv_topl (fun z_13 ez_13 => ?_)
  obtain ⟨fso_14, hgo_14, -⟩ := hW.obj (i := 0) (by decide) (sh_0 ad _)
  refine s_calli (q := (RX11, TX11, 14)) (As := [.int x_2, .int x_4, .long z_13]) (rest := []) X Z (s_X11_write l D cs ad kS K hKO hj g hW x_2 x_4 z_13) (cwV 3 X.2.2.2.2.1 gL_X11_write rfl rfl rfl (by decide +kernel) ⟨Nat.le_of_ble_eq_true rfl, Nat.le_of_ble_eq_true rfl⟩) (by decide) hgo_14 rfl hP hA (fun a h _ => hS.2.1 a h (Nat.not_le.mpr h)) hS rfl hl.1 rfl (Nat.le_of_ble_eq_true rfl) dL_law_1964 ⟨Nat.le_of_ble_eq_true rfl, Nat.le_of_ble_eq_true rfl⟩ (fun r_16 g_15 H locs hw_17 hP hS => ?_)
  obtain ⟨hw_17W, hw_17f, hw_17⟩ := hw_17
  refine lv_pop hx hb dL_law_1967 rfl ?_
  refine lv_aload_n hx hb dL_law_1968 rfl (lv_at hl 1 rfl) ?_
  refine lv_aload_n hx hb dL_law_1969 rfl (lv_at hl 3 rfl) ?_
  refine lv_iload_n hx hb dL_law_1970 rfl (lv_at hl 0 rfl) ?_
  refine lv_iconst (v := 1) hx hb dL_law_1971 (by decide) ?_
  refine lv_iadd hx hb dL_law_1972 ?_
  refine lv_topi (fun z_18 ez_18 => ?_)
  have hz_18 : z_18.toInt = ii.toInt + 1 := n_add rfl (by decide : (1 : Int32).toInt = 1) ez_18 (by omega) (by omega)
  refine va_sld hx hb hX hbl hbA hS (i := z_18) (n_in (rfl : z_18.toInt = z_18.toInt) (by omega) (by omega)) dL_law_1973 ?_
  refine lv_topi (fun x_19 ex_19 => ?_)
  obtain rfl : x_2 = x_19 := by rw [ex_2, ex_19, ez_1, ez_18]
  refine lv_aload_n hx hb dL_law_1974 rfl (lv_at hl 3 rfl) ?_
  refine lv_iload_n hx hb dL_law_1975 rfl (lv_at hl 0 rfl) ?_
  refine lv_iconst (v := 2) hx hb dL_law_1976 (by decide) ?_
  refine lv_iadd hx hb dL_law_1977 ?_
  refine lv_topi (fun z_20 ez_20 => ?_)
  have hz_20 : z_20.toInt = ii.toInt + 2 := n_add rfl (by decide : (2 : Int32).toInt = 2) ez_20 (by omega) (by omega)
  refine va_sld hx hb hX hbl hbA hS (i := z_20) (n_in (rfl : z_20.toInt = z_20.toInt) (by omega) (by omega)) dL_law_1978 ?_
  refine lv_topi (fun x_21 ex_21 => ?_)
  obtain rfl : x_4 = x_21 := by rw [ex_4, ex_21, ez_3, ez_20]
  refine lv_aload_n hx hb dL_law_1979 rfl (lv_at hl 3 rfl) ?_
  refine lv_iload_n hx hb dL_law_1980 rfl (lv_at hl 0 rfl) ?_
  refine lv_iconst (v := 3) hx hb dL_law_1981 (by decide) ?_
  refine lv_iadd hx hb dL_law_1982 ?_
  refine lv_topi (fun z_22 ez_22 => ?_)
  have hz_22 : z_22.toInt = ii.toInt + 3 := n_add rfl (by decide : (3 : Int32).toInt = 3) ez_22 (by omega) (by omega)
  refine va_sld hx hb hX hbl hbA hS (i := z_22) (n_in (rfl : z_22.toInt = z_22.toInt) (by omega) (by omega)) dL_law_1983 ?_
  refine lv_topi (fun x_23 ex_23 => ?_)
  obtain rfl : x_6 = x_23 := by rw [ex_6, ex_23, ez_5, ez_22]
  refine lv_i2l hx hb dL_law_1984 rfl ?_
  refine lv_topl (fun z_24 ez_24 => ?_)
  refine lv_bipush (v := 32) hx hb dL_law_1985 (by decide) ?_
  refine lv_lshl hx hb dL_law_1987 rfl ?_
  refine lv_topl (fun z_25 ez_25 => ?_)
  refine lv_aload_n hx hb dL_law_1988 rfl (lv_at hl 3 rfl) ?_
  refine lv_iload_n hx hb dL_law_1989 rfl (lv_at hl 0 rfl) ?_
  refine lv_iconst (v := 4) hx hb dL_law_1990 (by decide) ?_
  refine lv_iadd hx hb dL_law_1991 ?_
  refine lv_topi (fun z_26 ez_26 => ?_)
  have hz_26 : z_26.toInt = ii.toInt + 4 := n_add rfl (by decide : (4 : Int32).toInt = 4) ez_26 (by omega) (by omega)
  refine va_sld hx hb hX hbl hbA hS (i := z_26) (n_in (rfl : z_26.toInt = z_26.toInt) (by omega) (by omega)) dL_law_1992 ?_
  refine lv_topi (fun x_27 ex_27 => ?_)
  obtain rfl : x_10 = x_27 := by rw [ex_10, ex_27, ez_9, ez_26]
  refine lv_i2l hx hb dL_law_1993 rfl ?_
  refine lv_topl (fun z_28 ez_28 => ?_)
  refine lv_ldc2 (v := 4294967295) hx hb X.2.2.2.2.2.1 (X.2.2.2.2.1 _ (List.mem_of_getElem? (i := 1926) (by decide +kernel))) dL_law_1994 ?_
  refine lv_land hx hb dL_law_1997 ?_
  refine lv_topl (fun z_29 ez_29 => ?_)
  refine lv_lor hx hb dL_law_1998 ?_
  refine lv_topl (fun z_30 ez_30 => ?_)
  obtain ⟨fso_31, hgo_31, -⟩ := hw_17W.obj (i := 197) (by decide) (sh_197 ad _)
  refine s_calli (q := (RX12, TX12, 40)) (As := [.int x_2, .int x_4, .long z_30]) (rest := []) X Z (s_X12_write l D cs ad kS K hKO hj g_15 hw_17W x_2 x_4 z_30) (cwV 3 X.2.2.2.2.1 gL_X12_write rfl rfl rfl (by decide +kernel) ⟨Nat.le_of_ble_eq_true rfl, Nat.le_of_ble_eq_true rfl⟩) (by decide) hgo_31 rfl hP hA (fun a h _ => hS.2.1 a h (Nat.not_le.mpr h)) hS rfl hl.1 rfl (Nat.le_of_ble_eq_true rfl) dL_law_1999 ⟨Nat.le_of_ble_eq_true rfl, Nat.le_of_ble_eq_true rfl⟩ (fun r_33 g_32 H locs hw_34 hP hS => ?_)
  obtain ⟨hw_34W, hw_34f, hw_34⟩ := hw_34
  refine lv_pop hx hb dL_law_2002 rfl ?_
  refine lv_goto (tgt := 2069) hx hb dL_law_2003 (by decide) ?_
  exact kk K g_32 _ _ ls hKO hR hw_34W hP hS hl

theorem pst_in {s t : Int} (q : ¬ (s < 0 ∨ 3 < s ∨ t < 0 ∨ 3 < t)) : 0 ≤ s ∧ s ≤ 3 ∧ 0 ≤ t ∧ t ≤ 3 := by omega
/-- paste: two answers told by the same questions are one -/
theorem pst_eq {s t i k n r1 r2 ls lt ws wt cs ct ms mt vs vt : Int}
    (A : (s < 0 ∨ 3 < s ∨ t < 0 ∨ 3 < t → r1 = -2) ∧ (0 ≤ s ∧ s ≤ 3 ∧ 0 ≤ t ∧ t ≤ 3 → ls = 0 ∨ lt = 0 → r1 = -6) ∧ (0 ≤ s ∧ s ≤ 3 ∧ 0 ≤ t ∧ t ≤ 3 → ¬ ls = 0 → ¬ lt = 0 → ws ≠ wt → r1 = -8) ∧ (0 ≤ s ∧ s ≤ 3 ∧ 0 ≤ t ∧ t ≤ 3 → ¬ ls = 0 → ¬ lt = 0 → ws = wt → (i < 0 ∨ k < 0 ∨ n < 0 ∨ cs < i + n ∨ ct < k + n) → r1 = -7) ∧ (0 ≤ s ∧ s ≤ 3 ∧ 0 ≤ t ∧ t ≤ 3 → ¬ ls = 0 → ¬ lt = 0 → ws = wt → ¬ (i < 0 ∨ k < 0 ∨ n < 0 ∨ cs < i + n ∨ ct < k + n) → r1 = 0))
    (B : (s < 0 ∨ 3 < s ∨ t < 0 ∨ 3 < t → r2 = -2) ∧ (0 ≤ s ∧ s ≤ 3 ∧ 0 ≤ t ∧ t ≤ 3 → ms = -1 ∨ mt = -1 → r2 = -6) ∧ (0 ≤ s ∧ s ≤ 3 ∧ 0 ≤ t ∧ t ≤ 3 → ¬ ms = -1 → ¬ mt = -1 → vs ≠ vt → r2 = -8) ∧ (0 ≤ s ∧ s ≤ 3 ∧ 0 ≤ t ∧ t ≤ 3 → ¬ ms = -1 → ¬ mt = -1 → vs = vt → (i < 0 ∨ k < 0 ∨ n < 0 ∨ ms < i + n ∨ mt < k + n) → r2 = -7) ∧ (0 ≤ s ∧ s ≤ 3 ∧ 0 ≤ t ∧ t ≤ 3 → ¬ ms = -1 → ¬ mt = -1 → vs = vt → ¬ (i < 0 ∨ k < 0 ∨ n < 0 ∨ ms < i + n ∨ mt < k + n) → r2 = 0))
    (hs : 0 ≤ s ∧ s ≤ 3 → (ls = 0 → ms = -1) ∧ (ls ≠ 0 → ms ≠ -1 ∧ cs = ms ∧ ws = vs))
    (ht : 0 ≤ t ∧ t ≤ 3 → (lt = 0 → mt = -1) ∧ (lt ≠ 0 → mt ≠ -1 ∧ ct = mt ∧ wt = vt)) : r1 = r2 := by
  obtain ⟨a1, a2, a3, a4, a5⟩ := A
  obtain ⟨b1, b2, b3, b4, b5⟩ := B
  by_cases q : s < 0 ∨ 3 < s ∨ t < 0 ∨ 3 < t
  · rw [a1 q, b1 q]
  · have p := pst_in q
    have S := hs ⟨p.1, p.2.1⟩
    have T := ht p.2.2
    by_cases e : ls = 0
    · rw [a2 p (Or.inl e), b2 p (Or.inl (S.1 e))]
    · by_cases f : lt = 0
      · rw [a2 p (Or.inr f), b2 p (Or.inr (T.1 f))]
      · obtain ⟨m1, m2, m3⟩ := S.2 e
        obtain ⟨n1, n2, n3⟩ := T.2 f
        subst m2 n2 m3 n3
        by_cases w : ws = wt
        · by_cases z : (i < 0 ∨ k < 0 ∨ n < 0 ∨ cs < i + n ∨ ct < k + n)
          · rw [a4 p e f w z, b4 p m1 n1 w z]
          · rw [a5 p e f w z, b5 p m1 n1 w z]
        · rw [a3 p e f w, b3 p m1 n1 w]

theorem dL_law_2006 : decode cL_law 2006 = .ok (.aload_n 1, 1) := by decide +kernel
theorem dL_law_2007 : decode cL_law 2007 = .ok (.aload_n 0, 1) := by decide +kernel
theorem dL_law_2008 : decode cL_law 2008 = .ok (.iload_n 3, 1) := by decide +kernel
theorem dL_law_2009 : decode cL_law 2009 = .ok (.iconst 1, 1) := by decide +kernel
theorem dL_law_2010 : decode cL_law 2010 = .ok (.iadd, 1) := by decide +kernel
theorem dL_law_2011 : decode cL_law 2011 = .ok (.iaload, 1) := by decide +kernel
theorem dL_law_2012 : decode cL_law 2012 = .ok (.aload_n 0, 1) := by decide +kernel
theorem dL_law_2013 : decode cL_law 2013 = .ok (.iload_n 3, 1) := by decide +kernel
theorem dL_law_2014 : decode cL_law 2014 = .ok (.iconst 2, 1) := by decide +kernel
theorem dL_law_2015 : decode cL_law 2015 = .ok (.iadd, 1) := by decide +kernel
theorem dL_law_2016 : decode cL_law 2016 = .ok (.iaload, 1) := by decide +kernel
theorem dL_law_2017 : decode cL_law 2017 = .ok (.aload_n 0, 1) := by decide +kernel
theorem dL_law_2018 : decode cL_law 2018 = .ok (.iload_n 3, 1) := by decide +kernel
theorem dL_law_2019 : decode cL_law 2019 = .ok (.iconst 3, 1) := by decide +kernel
theorem dL_law_2020 : decode cL_law 2020 = .ok (.iadd, 1) := by decide +kernel
theorem dL_law_2021 : decode cL_law 2021 = .ok (.iaload, 1) := by decide +kernel
theorem dL_law_2022 : decode cL_law 2022 = .ok (.aload_n 0, 1) := by decide +kernel
theorem dL_law_2023 : decode cL_law 2023 = .ok (.iload_n 3, 1) := by decide +kernel
theorem dL_law_2024 : decode cL_law 2024 = .ok (.iconst 4, 1) := by decide +kernel
theorem dL_law_2025 : decode cL_law 2025 = .ok (.iadd, 1) := by decide +kernel
theorem dL_law_2026 : decode cL_law 2026 = .ok (.iaload, 1) := by decide +kernel
theorem dL_law_2027 : decode cL_law 2027 = .ok (.aload_n 0, 1) := by decide +kernel
theorem dL_law_2028 : decode cL_law 2028 = .ok (.iload_n 3, 1) := by decide +kernel
theorem dL_law_2029 : decode cL_law 2029 = .ok (.iconst 5, 1) := by decide +kernel
theorem dL_law_2030 : decode cL_law 2030 = .ok (.iadd, 1) := by decide +kernel
theorem dL_law_2031 : decode cL_law 2031 = .ok (.iaload, 1) := by decide +kernel
theorem dL_law_2032 : decode cL_law 2032 = .ok (.invokevirtual 271, 3) := by decide +kernel
theorem dL_law_2035 : decode cL_law 2035 = .ok (.aload_n 2, 1) := by decide +kernel
theorem dL_law_2036 : decode cL_law 2036 = .ok (.aload_n 0, 1) := by decide +kernel
theorem dL_law_2037 : decode cL_law 2037 = .ok (.iload_n 3, 1) := by decide +kernel
theorem dL_law_2038 : decode cL_law 2038 = .ok (.iconst 1, 1) := by decide +kernel
theorem dL_law_2039 : decode cL_law 2039 = .ok (.iadd, 1) := by decide +kernel
theorem dL_law_2040 : decode cL_law 2040 = .ok (.iaload, 1) := by decide +kernel
theorem dL_law_2041 : decode cL_law 2041 = .ok (.aload_n 0, 1) := by decide +kernel
theorem dL_law_2042 : decode cL_law 2042 = .ok (.iload_n 3, 1) := by decide +kernel
theorem dL_law_2043 : decode cL_law 2043 = .ok (.iconst 2, 1) := by decide +kernel
theorem dL_law_2044 : decode cL_law 2044 = .ok (.iadd, 1) := by decide +kernel
theorem dL_law_2045 : decode cL_law 2045 = .ok (.iaload, 1) := by decide +kernel
theorem dL_law_2046 : decode cL_law 2046 = .ok (.aload_n 0, 1) := by decide +kernel
theorem dL_law_2047 : decode cL_law 2047 = .ok (.iload_n 3, 1) := by decide +kernel
theorem dL_law_2048 : decode cL_law 2048 = .ok (.iconst 3, 1) := by decide +kernel
theorem dL_law_2049 : decode cL_law 2049 = .ok (.iadd, 1) := by decide +kernel
theorem dL_law_2050 : decode cL_law 2050 = .ok (.iaload, 1) := by decide +kernel
theorem dL_law_2051 : decode cL_law 2051 = .ok (.aload_n 0, 1) := by decide +kernel
theorem dL_law_2052 : decode cL_law 2052 = .ok (.iload_n 3, 1) := by decide +kernel
theorem dL_law_2053 : decode cL_law 2053 = .ok (.iconst 4, 1) := by decide +kernel
theorem dL_law_2054 : decode cL_law 2054 = .ok (.iadd, 1) := by decide +kernel
theorem dL_law_2055 : decode cL_law 2055 = .ok (.iaload, 1) := by decide +kernel
theorem dL_law_2056 : decode cL_law 2056 = .ok (.aload_n 0, 1) := by decide +kernel
theorem dL_law_2057 : decode cL_law 2057 = .ok (.iload_n 3, 1) := by decide +kernel
theorem dL_law_2058 : decode cL_law 2058 = .ok (.iconst 5, 1) := by decide +kernel
theorem dL_law_2059 : decode cL_law 2059 = .ok (.iadd, 1) := by decide +kernel
theorem dL_law_2060 : decode cL_law 2060 = .ok (.iaload, 1) := by decide +kernel
theorem dL_law_2061 : decode cL_law 2061 = .ok (.invokevirtual 274, 3) := by decide +kernel
theorem dL_law_2064 : decode cL_law 2064 = .ok (.if_icmp .eq 5, 3) := by decide +kernel
set_option maxRecDepth 20000 in
theorem mT_X5_covers : wIn lw_tbl vX5_covers := wIn.cons (List.mem_of_getElem? (i := 1255) (by decide +kernel)) (wIn.app (wIn.r _ [326] (by decide +kernel)) iT_5)
set_option maxRecDepth 20000 in
theorem mT_X11_paste : wIn lw_tbl vX11_paste := wIn.cons (List.mem_of_getElem? (i := 1251) (by decide +kernel)) (wIn.app (wIn.r _ [959, 960, 98, 490, 322, 324, 1252, 1253, 1254, 102, 320, 924, 687, 686, 116] (by decide +kernel)) (wIn.app iT_11 (wIn.app iT_5 (wIn.app mT_X11_isSlot mT_X5_covers))))
theorem gL_X11_paste : GoodIn lw_tbl (wsV RL 271 RX11 yX11_paste vX11_paste) := goodIn_app (goodIn_r _ [1248, 1249, 1250, 98] (by decide +kernel) (by decide +kernel)) (fun w h => ⟨mT_X11_paste w h, gs_X11_paste w h⟩)
set_option maxRecDepth 20000 in
theorem mT_X12_paste : wIn lw_tbl vX12_paste := wIn.cons (List.mem_of_getElem? (i := 1925) (by decide +kernel)) (wIn.app (wIn.r _ [1734, 1735, 110, 1297, 1298, 1300, 1299] (by decide +kernel)) (wIn.app iT_12 mT_X12_isSlot))
theorem gL_X12_paste : GoodIn lw_tbl (wsV RL 274 RX12 yX12_paste vX12_paste) := goodIn_app (goodIn_r _ [1922, 1923, 1924, 110] (by decide +kernel) (by decide +kernel)) (fun w h => ⟨mT_X12_paste w h, gs_X12_paste w h⟩)
set_option maxHeartbeats 8000000 in
set_option maxRecDepth 100000 in
theorem law_c62 {p : Program} {e : Env} {s : State} {m : MethodId} {below : List Frame} {meth : Method} {c : Code} (l : Launch) {b L : Nat} {xs : Nat → Int32} {D : va_G} {cs : Nat → ClassId} {ad : Nat → Nat} {kS : kSt} {K : sK} {g : Nat → va_E} {H : Heap} {locs : List Loc} (hL : L ≤ 3072) (C0 : lw_At p s m meth c b L xs) (X : CxL p s m b meth c D cs) (Z : SX ad kS s s.heap) (hj : wJ ad 218) (hA : ∀ i, i < 218 → AL s (ad i)) (hKO : KO K) (hR : KR K) (hW : WF (shp ad K) ad cs g) (hP : va_P D vwCl (wL ad g 218) H) (hS : va_S (AL s) s.heap H locs) (ls : Array Slot) (ii : Int32) (hi0 : 0 ≤ ii.toInt) (hi1 : ii.toInt + 6 ≤ L) (hl : lv_has ls 4 [(3, .int ii), (2, .ref (ad 197)), (1, .ref (ad 0)), (0, .ref b)]) (kk : ∀ (K : sK) (g : Nat → va_E) (H : Heap) (locs : List Loc) (ls : Array Slot), KO K → KR K → WF (shp ad K) ad cs g → va_P D vwCl (wL ad g 218) H → va_S (AL s) s.heap H locs → lv_has ls 4 [(3, .int ii), (2, .ref (ad 197)), (1, .ref (ad 0)), (0, .ref b)] → W p l e room_1 s m #[Value.ref b] below meth c H locs 218 6259 (lw_Z below #[Value.ref b] s) (F0 m 2069 ls [])) : W p l e room_1 s m #[Value.ref b] below meth c H locs 218 6259 (lw_Z below #[Value.ref b] s) (F0 m 2006 ls []) := by
  have hx := X.1
  have hb : c.code = cL_law := X.2.1
  obtain ⟨-, -, -, -, -, -, hX, hbl, -, -⟩ := id C0
  have hbA : ¬ AL s b := Nat.not_le.mpr hbl
  refine lv_aload_n hx hb dL_law_2006 rfl (lv_at hl 2 rfl) ?_
  refine lv_aload_n hx hb dL_law_2007 rfl (lv_at hl 3 rfl) ?_
  refine lv_iload_n hx hb dL_law_2008 rfl (lv_at hl 0 rfl) ?_
  refine lv_iconst (v := 1) hx hb dL_law_2009 (by decide) ?_
  refine lv_iadd hx hb dL_law_2010 ?_
  refine lv_topi (fun z_1 ez_1 => ?_)
  have hz_1 : z_1.toInt = ii.toInt + 1 := n_add rfl (by decide : (1 : Int32).toInt = 1) ez_1 (by omega) (by omega)
  refine va_sld hx hb hX hbl hbA hS (i := z_1) (n_in (rfl : z_1.toInt = z_1.toInt) (by omega) (by omega)) dL_law_2011 ?_
  refine lv_topi (fun x_2 ex_2 => ?_)
  refine lv_aload_n hx hb dL_law_2012 rfl (lv_at hl 3 rfl) ?_
  refine lv_iload_n hx hb dL_law_2013 rfl (lv_at hl 0 rfl) ?_
  refine lv_iconst (v := 2) hx hb dL_law_2014 (by decide) ?_
  refine lv_iadd hx hb dL_law_2015 ?_
  refine lv_topi (fun z_3 ez_3 => ?_)
  have hz_3 : z_3.toInt = ii.toInt + 2 := n_add rfl (by decide : (2 : Int32).toInt = 2) ez_3 (by omega) (by omega)
  refine va_sld hx hb hX hbl hbA hS (i := z_3) (n_in (rfl : z_3.toInt = z_3.toInt) (by omega) (by omega)) dL_law_2016 ?_
  refine lv_topi (fun x_4 ex_4 => ?_)
  refine lv_aload_n hx hb dL_law_2017 rfl (lv_at hl 3 rfl) ?_
  refine lv_iload_n hx hb dL_law_2018 rfl (lv_at hl 0 rfl) ?_
  refine lv_iconst (v := 3) hx hb dL_law_2019 (by decide) ?_
  refine lv_iadd hx hb dL_law_2020 ?_
  refine lv_topi (fun z_5 ez_5 => ?_)
  have hz_5 : z_5.toInt = ii.toInt + 3 := n_add rfl (by decide : (3 : Int32).toInt = 3) ez_5 (by omega) (by omega)
  refine va_sld hx hb hX hbl hbA hS (i := z_5) (n_in (rfl : z_5.toInt = z_5.toInt) (by omega) (by omega)) dL_law_2021 ?_
  refine lv_topi (fun x_6 ex_6 => ?_)
  refine lv_aload_n hx hb dL_law_2022 rfl (lv_at hl 3 rfl) ?_
  refine lv_iload_n hx hb dL_law_2023 rfl (lv_at hl 0 rfl) ?_
  refine lv_iconst (v := 4) hx hb dL_law_2024 (by decide) ?_
  refine lv_iadd hx hb dL_law_2025 ?_
  refine lv_topi (fun z_7 ez_7 => ?_)
  have hz_7 : z_7.toInt = ii.toInt + 4 := n_add rfl (by decide : (4 : Int32).toInt = 4) ez_7 (by omega) (by omega)
  refine va_sld hx hb hX hbl hbA hS (i := z_7) (n_in (rfl : z_7.toInt = z_7.toInt) (by omega) (by omega)) dL_law_2026 ?_
  refine lv_topi (fun x_8 ex_8 => ?_)
  refine lv_aload_n hx hb dL_law_2027 rfl (lv_at hl 3 rfl) ?_
  refine lv_iload_n hx hb dL_law_2028 rfl (lv_at hl 0 rfl) ?_
  refine lv_iconst (v := 5) hx hb dL_law_2029 (by decide) ?_
  refine lv_iadd hx hb dL_law_2030 ?_
  refine lv_topi (fun z_9 ez_9 => ?_)
  have hz_9 : z_9.toInt = ii.toInt + 5 := n_add rfl (by decide : (5 : Int32).toInt = 5) ez_9 (by omega) (by omega)
  refine va_sld hx hb hX hbl hbA hS (i := z_9) (n_in (rfl : z_9.toInt = z_9.toInt) (by omega) (by omega)) dL_law_2031 ?_
  refine lv_topi (fun x_10 ex_10 => ?_)
  obtain ⟨fso_11, hgo_11, -⟩ := hW.obj (i := 0) (by decide) (sh_0 ad _)
  refine s_calli (q := (RX11, TX11, 14)) (As := [.int x_2, .int x_4, .int x_6, .int x_8, .int x_10]) (rest := []) X Z (s_X11_paste l D cs ad kS K hKO hj g hW x_2 x_4 x_6 x_8 x_10) (cwV 5 X.2.2.2.2.1 gL_X11_paste rfl rfl rfl (by decide +kernel) ⟨Nat.le_of_ble_eq_true rfl, Nat.le_of_ble_eq_true rfl⟩) (by decide) hgo_11 rfl hP hA (fun a h _ => hS.2.1 a h (Nat.not_le.mpr h)) hS rfl hl.1 rfl (Nat.le_of_ble_eq_true rfl) dL_law_2032 ⟨Nat.le_of_ble_eq_true rfl, Nat.le_of_ble_eq_true rfl⟩ (fun r_13 g_12 H locs hw_14 hP hS => ?_)
  obtain ⟨hw_14W, hw_14f, hw_14⟩ := hw_14
  refine lv_aload_n hx hb dL_law_2035 rfl (lv_at hl 1 rfl) ?_
  refine lv_aload_n hx hb dL_law_2036 rfl (lv_at hl 3 rfl) ?_
  refine lv_iload_n hx hb dL_law_2037 rfl (lv_at hl 0 rfl) ?_
  refine lv_iconst (v := 1) hx hb dL_law_2038 (by decide) ?_
  refine lv_iadd hx hb dL_law_2039 ?_
  refine lv_topi (fun z_15 ez_15 => ?_)
  have hz_15 : z_15.toInt = ii.toInt + 1 := n_add rfl (by decide : (1 : Int32).toInt = 1) ez_15 (by omega) (by omega)
  refine va_sld hx hb hX hbl hbA hS (i := z_15) (n_in (rfl : z_15.toInt = z_15.toInt) (by omega) (by omega)) dL_law_2040 ?_
  refine lv_topi (fun x_16 ex_16 => ?_)
  obtain rfl : x_2 = x_16 := by rw [ex_2, ex_16, ez_1, ez_15]
  refine lv_aload_n hx hb dL_law_2041 rfl (lv_at hl 3 rfl) ?_
  refine lv_iload_n hx hb dL_law_2042 rfl (lv_at hl 0 rfl) ?_
  refine lv_iconst (v := 2) hx hb dL_law_2043 (by decide) ?_
  refine lv_iadd hx hb dL_law_2044 ?_
  refine lv_topi (fun z_17 ez_17 => ?_)
  have hz_17 : z_17.toInt = ii.toInt + 2 := n_add rfl (by decide : (2 : Int32).toInt = 2) ez_17 (by omega) (by omega)
  refine va_sld hx hb hX hbl hbA hS (i := z_17) (n_in (rfl : z_17.toInt = z_17.toInt) (by omega) (by omega)) dL_law_2045 ?_
  refine lv_topi (fun x_18 ex_18 => ?_)
  obtain rfl : x_4 = x_18 := by rw [ex_4, ex_18, ez_3, ez_17]
  refine lv_aload_n hx hb dL_law_2046 rfl (lv_at hl 3 rfl) ?_
  refine lv_iload_n hx hb dL_law_2047 rfl (lv_at hl 0 rfl) ?_
  refine lv_iconst (v := 3) hx hb dL_law_2048 (by decide) ?_
  refine lv_iadd hx hb dL_law_2049 ?_
  refine lv_topi (fun z_19 ez_19 => ?_)
  have hz_19 : z_19.toInt = ii.toInt + 3 := n_add rfl (by decide : (3 : Int32).toInt = 3) ez_19 (by omega) (by omega)
  refine va_sld hx hb hX hbl hbA hS (i := z_19) (n_in (rfl : z_19.toInt = z_19.toInt) (by omega) (by omega)) dL_law_2050 ?_
  refine lv_topi (fun x_20 ex_20 => ?_)
  obtain rfl : x_6 = x_20 := by rw [ex_6, ex_20, ez_5, ez_19]
  refine lv_aload_n hx hb dL_law_2051 rfl (lv_at hl 3 rfl) ?_
  refine lv_iload_n hx hb dL_law_2052 rfl (lv_at hl 0 rfl) ?_
  refine lv_iconst (v := 4) hx hb dL_law_2053 (by decide) ?_
  refine lv_iadd hx hb dL_law_2054 ?_
  refine lv_topi (fun z_21 ez_21 => ?_)
  have hz_21 : z_21.toInt = ii.toInt + 4 := n_add rfl (by decide : (4 : Int32).toInt = 4) ez_21 (by omega) (by omega)
  refine va_sld hx hb hX hbl hbA hS (i := z_21) (n_in (rfl : z_21.toInt = z_21.toInt) (by omega) (by omega)) dL_law_2055 ?_
  refine lv_topi (fun x_22 ex_22 => ?_)
  obtain rfl : x_8 = x_22 := by rw [ex_8, ex_22, ez_7, ez_21]
  refine lv_aload_n hx hb dL_law_2056 rfl (lv_at hl 3 rfl) ?_
  refine lv_iload_n hx hb dL_law_2057 rfl (lv_at hl 0 rfl) ?_
  refine lv_iconst (v := 5) hx hb dL_law_2058 (by decide) ?_
  refine lv_iadd hx hb dL_law_2059 ?_
  refine lv_topi (fun z_23 ez_23 => ?_)
  have hz_23 : z_23.toInt = ii.toInt + 5 := n_add rfl (by decide : (5 : Int32).toInt = 5) ez_23 (by omega) (by omega)
  refine va_sld hx hb hX hbl hbA hS (i := z_23) (n_in (rfl : z_23.toInt = z_23.toInt) (by omega) (by omega)) dL_law_2060 ?_
  refine lv_topi (fun x_24 ex_24 => ?_)
  obtain rfl : x_10 = x_24 := by rw [ex_10, ex_24, ez_9, ez_23]
  obtain ⟨fso_25, hgo_25, -⟩ := hw_14W.obj (i := 197) (by decide) (sh_197 ad _)
  refine s_calli (q := (RX12, TX12, 40)) (As := [.int x_2, .int x_4, .int x_6, .int x_8, .int x_10]) (rest := [.int r_13]) X Z (s_X12_paste l D cs ad kS K hKO hj g_12 hw_14W x_2 x_4 x_6 x_8 x_10) (cwV 5 X.2.2.2.2.1 gL_X12_paste rfl rfl rfl (by decide +kernel) ⟨Nat.le_of_ble_eq_true rfl, Nat.le_of_ble_eq_true rfl⟩) (by decide) hgo_25 rfl hP hA (fun a h _ => hS.2.1 a h (Nat.not_le.mpr h)) hS rfl hl.1 rfl (Nat.le_of_ble_eq_true rfl) dL_law_2061 ⟨Nat.le_of_ble_eq_true rfl, Nat.le_of_ble_eq_true rfl⟩ (fun r_27 g_26 H locs hw_28 hP hS => ?_)
  obtain ⟨hw_28W, hw_28f, hw_28⟩ := hw_28
  have hkrx_2 : 0 ≤ x_2.toInt ∧ x_2.toInt ≤ 3 → ((K.2.1 x_2.toNatClampNeg).toInt = 0 → (K.2.2.2.2.1 x_2.toNatClampNeg).toInt = -1) ∧ ((K.2.1 x_2.toNatClampNeg).toInt ≠ 0 → (K.2.2.2.2.1 x_2.toNatClampNeg).toInt ≠ -1 ∧ (K.2.2.2.1 x_2.toNatClampNeg).toInt = (K.2.2.2.2.1 x_2.toNatClampNeg).toInt ∧ (K.2.2.1 x_2.toNatClampNeg).toInt = (K.2.2.2.2.2.1 x_2.toNatClampNeg).toInt) := fun q => hR.2 _ (by have := n_cl (rfl : x_2.toInt = x_2.toInt) q.1; omega)
  have hkrx_6 : 0 ≤ x_6.toInt ∧ x_6.toInt ≤ 3 → ((K.2.1 x_6.toNatClampNeg).toInt = 0 → (K.2.2.2.2.1 x_6.toNatClampNeg).toInt = -1) ∧ ((K.2.1 x_6.toNatClampNeg).toInt ≠ 0 → (K.2.2.2.2.1 x_6.toNatClampNeg).toInt ≠ -1 ∧ (K.2.2.2.1 x_6.toNatClampNeg).toInt = (K.2.2.2.2.1 x_6.toNatClampNeg).toInt ∧ (K.2.2.1 x_6.toNatClampNeg).toInt = (K.2.2.2.2.2.1 x_6.toNatClampNeg).toInt) := fun q => hR.2 _ (by have := n_cl (rfl : x_6.toInt = x_6.toInt) q.1; omega)
  have heq : r_13 = r_27 := Int32.toInt_inj.mp (pst_eq hw_14 hw_28 hkrx_2 hkrx_6)
  refine lv_icmp_eq (tgt := 2069) hx hb dL_law_2064 (by decide) (fun _ => ?_) (fun h => absurd heq h)
  exact kk K g_26 _ _ ls hKO hR hw_28W hP hS hl

theorem dL_law_1146 : decode cL_law 1146 = .ok (.aload_n 1, 1) := by decide +kernel
theorem dL_law_1147 : decode cL_law 1147 = .ok (.invokevirtual 145, 3) := by decide +kernel
theorem dL_law_1150 : decode cL_law 1150 = .ok (.pop, 1) := by decide +kernel
theorem dL_law_1151 : decode cL_law 1151 = .ok (.aload_n 2, 1) := by decide +kernel
theorem dL_law_1152 : decode cL_law 1152 = .ok (.invokevirtual 148, 3) := by decide +kernel
theorem dL_law_1155 : decode cL_law 1155 = .ok (.pop, 1) := by decide +kernel
theorem dL_law_1156 : decode cL_law 1156 = .ok (.goto 913, 3) := by decide +kernel
set_option maxRecDepth 20000 in
theorem mT_X11_barest : wIn lw_tbl vX11_barest := wIn.cons (List.mem_of_getElem? (i := 831) (by decide +kernel)) (wIn.app (wIn.r _ [810, 812, 17, 98, 486, 218, 212, 491, 824, 825, 826, 103] (by decide +kernel)) (wIn.app iT_11 (wIn.app iT_6 (wIn.app mT_X11_isTold mT_X10_fallsUnder))))
theorem gL_X11_barest : GoodIn lw_tbl (wsV RL 145 RX11 yX11_barest vX11_barest) := goodIn_app (goodIn_r _ [828, 829, 830, 98] (by decide +kernel) (by decide +kernel)) (fun w h => ⟨mT_X11_barest w h, gs_X11_barest w h⟩)
set_option maxRecDepth 20000 in
theorem mT_X12_barest : wIn lw_tbl vX12_barest := wIn.cons (List.mem_of_getElem? (i := 1701) (by decide +kernel)) (wIn.app (wIn.r _ [1596, 1598, 68, 110, 1540, 1542, 61, 1262, 1278, 1694, 1696, 75] (by decide +kernel)) (wIn.app iT_12 (wIn.app mT_X12_isStreet (wIn.app mT_X12_layAll mT_X12_dropsAt))))
theorem gL_X12_barest : GoodIn lw_tbl (wsV RL 148 RX12 yX12_barest vX12_barest) := goodIn_app (goodIn_r _ [1698, 1699, 1700, 110] (by decide +kernel) (by decide +kernel)) (fun w h => ⟨mT_X12_barest w h, gs_X12_barest w h⟩)
set_option maxHeartbeats 8000000 in
set_option maxRecDepth 100000 in
theorem law_c32 {p : Program} {e : Env} {s : State} {m : MethodId} {below : List Frame} {meth : Method} {c : Code} (l : Launch) {b L : Nat} {xs : Nat → Int32} {D : va_G} {cs : Nat → ClassId} {ad : Nat → Nat} {kS : kSt} {K : sK} {g : Nat → va_E} {H : Heap} {locs : List Loc} (hL : L ≤ 3072) (C0 : lw_At p s m meth c b L xs) (X : CxL p s m b meth c D cs) (Z : SX ad kS s s.heap) (hj : wJ ad 218) (hA : ∀ i, i < 218 → AL s (ad i)) (hKO : KO K) (hR : KR K) (hW : WF (shp ad K) ad cs g) (hP : va_P D vwCl (wL ad g 218) H) (hS : va_S (AL s) s.heap H locs) (ls : Array Slot) (ii : Int32) (hi0 : 0 ≤ ii.toInt) (hi1 : ii.toInt + 6 ≤ L) (hl : lv_has ls 4 [(3, .int ii), (2, .ref (ad 197)), (1, .ref (ad 0)), (0, .ref b)]) (kk : ∀ (K : sK) (g : Nat → va_E) (H : Heap) (locs : List Loc) (ls : Array Slot), KO K → KR K → WF (shp ad K) ad cs g → va_P D vwCl (wL ad g 218) H → va_S (AL s) s.heap H locs → lv_has ls 4 [(3, .int ii), (2, .ref (ad 197)), (1, .ref (ad 0)), (0, .ref b)] → W p l e room_1 s m #[Value.ref b] below meth c H locs 218 6259 (lw_Z below #[Value.ref b] s) (F0 m 2069 ls [])) : W p l e room_1 s m #[Value.ref b] below meth c H locs 218 6259 (lw_Z below #[Value.ref b] s) (F0 m 1146 ls []) := by
  have hx := X.1
  have hb : c.code = cL_law := X.2.1
  obtain ⟨-, -, -, -, -, -, hX, hbl, -, -⟩ := id C0
  have hbA : ¬ AL s b := Nat.not_le.mpr hbl
  refine lv_aload_n hx hb dL_law_1146 rfl (lv_at hl 2 rfl) ?_
  obtain ⟨fso_1, hgo_1, -⟩ := hW.obj (i := 0) (by decide) (sh_0 ad _)
  refine s_calli (q := (RX11, TX11, 14)) (As := []) (rest := []) X Z (s_X11_barest l D cs ad kS K hKO hj g hW ) (cwV 0 X.2.2.2.2.1 gL_X11_barest rfl rfl rfl (by decide +kernel) ⟨Nat.le_of_ble_eq_true rfl, Nat.le_of_ble_eq_true rfl⟩) (by decide) hgo_1 rfl hP hA (fun a h _ => hS.2.1 a h (Nat.not_le.mpr h)) hS rfl hl.1 rfl (Nat.le_of_ble_eq_true rfl) dL_law_1147 ⟨Nat.le_of_ble_eq_true rfl, Nat.le_of_ble_eq_true rfl⟩ (fun r_3 g_2 H locs hw_4 hP hS => ?_)
  rw [hw_4] at hP
  refine lv_pop hx hb dL_law_1150 rfl ?_
  refine lv_aload_n hx hb dL_law_1151 rfl (lv_at hl 1 rfl) ?_
  obtain ⟨fso_5, hgo_5, -⟩ := hW.obj (i := 197) (by decide) (sh_197 ad _)
  refine s_calli (q := (RX12, TX12, 40)) (As := []) (rest := []) X Z (s_X12_barest l D cs ad kS K hKO hj g hW ) (cwV 0 X.2.2.2.2.1 gL_X12_barest rfl rfl rfl (by decide +kernel) ⟨Nat.le_of_ble_eq_true rfl, Nat.le_of_ble_eq_true rfl⟩) (by decide) hgo_5 rfl hP hA (fun a h _ => hS.2.1 a h (Nat.not_le.mpr h)) hS rfl hl.1 rfl (Nat.le_of_ble_eq_true rfl) dL_law_1152 ⟨Nat.le_of_ble_eq_true rfl, Nat.le_of_ble_eq_true rfl⟩ (fun r_7 g_6 H locs hw_8 hP hS => ?_)
  obtain ⟨hw_8W, hw_8f⟩ := hw_8
  refine lv_pop hx hb dL_law_1155 rfl ?_
  refine lv_goto (tgt := 2069) hx hb dL_law_1156 (by decide) ?_
  exact kk K g_6 _ _ ls hKO hR hw_8W hP hS hl

theorem dL_law_1159 : decode cL_law 1159 = .ok (.aload_n 1, 1) := by decide +kernel
theorem dL_law_1160 : decode cL_law 1160 = .ok (.aload_n 0, 1) := by decide +kernel
theorem dL_law_1161 : decode cL_law 1161 = .ok (.iload_n 3, 1) := by decide +kernel
theorem dL_law_1162 : decode cL_law 1162 = .ok (.iconst 1, 1) := by decide +kernel
theorem dL_law_1163 : decode cL_law 1163 = .ok (.iadd, 1) := by decide +kernel
theorem dL_law_1164 : decode cL_law 1164 = .ok (.iaload, 1) := by decide +kernel
theorem dL_law_1165 : decode cL_law 1165 = .ok (.aload_n 0, 1) := by decide +kernel
theorem dL_law_1166 : decode cL_law 1166 = .ok (.iload_n 3, 1) := by decide +kernel
theorem dL_law_1167 : decode cL_law 1167 = .ok (.iconst 2, 1) := by decide +kernel
theorem dL_law_1168 : decode cL_law 1168 = .ok (.iadd, 1) := by decide +kernel
theorem dL_law_1169 : decode cL_law 1169 = .ok (.iaload, 1) := by decide +kernel
theorem dL_law_1170 : decode cL_law 1170 = .ok (.invokevirtual 149, 3) := by decide +kernel
theorem dL_law_1173 : decode cL_law 1173 = .ok (.pop, 1) := by decide +kernel
theorem dL_law_1174 : decode cL_law 1174 = .ok (.aload_n 2, 1) := by decide +kernel
theorem dL_law_1175 : decode cL_law 1175 = .ok (.aload_n 0, 1) := by decide +kernel
theorem dL_law_1176 : decode cL_law 1176 = .ok (.iload_n 3, 1) := by decide +kernel
theorem dL_law_1177 : decode cL_law 1177 = .ok (.iconst 1, 1) := by decide +kernel
theorem dL_law_1178 : decode cL_law 1178 = .ok (.iadd, 1) := by decide +kernel
theorem dL_law_1179 : decode cL_law 1179 = .ok (.iaload, 1) := by decide +kernel
theorem dL_law_1180 : decode cL_law 1180 = .ok (.aload_n 0, 1) := by decide +kernel
theorem dL_law_1181 : decode cL_law 1181 = .ok (.iload_n 3, 1) := by decide +kernel
theorem dL_law_1182 : decode cL_law 1182 = .ok (.iconst 2, 1) := by decide +kernel
theorem dL_law_1183 : decode cL_law 1183 = .ok (.iadd, 1) := by decide +kernel
theorem dL_law_1184 : decode cL_law 1184 = .ok (.iaload, 1) := by decide +kernel
theorem dL_law_1185 : decode cL_law 1185 = .ok (.invokevirtual 152, 3) := by decide +kernel
theorem dL_law_1188 : decode cL_law 1188 = .ok (.pop, 1) := by decide +kernel
theorem dL_law_1189 : decode cL_law 1189 = .ok (.goto 880, 3) := by decide +kernel
set_option maxRecDepth 20000 in
theorem mT_X11_areEaves : wIn lw_tbl vX11_areEaves := wIn.cons (List.mem_of_getElem? (i := 940) (by decide +kernel)) (wIn.app (wIn.r _ [486, 218] (by decide +kernel)) (wIn.app iT_11 iT_6))
set_option maxRecDepth 20000 in
theorem mT_X11_leastSteps : wIn lw_tbl vX11_leastSteps := wIn.cons (List.mem_of_getElem? (i := 943) (by decide +kernel)) (wIn.r _ [857, 858, 115, 859, 860, 650, 651] (by decide +kernel))
set_option maxRecDepth 20000 in
theorem mT_X11_round : wIn lw_tbl vX11_round := wIn.cons (List.mem_of_getElem? (i := 936) (by decide +kernel)) (wIn.app (wIn.r _ [733, 735, 14, 98, 937, 939, 22, 941, 942] (by decide +kernel)) (wIn.app mT_X11_isEave (wIn.app mT_X11_areEaves mT_X11_leastSteps)))
theorem gL_X11_round : GoodIn lw_tbl (wsV RL 149 RX11 yX11_round vX11_round) := goodIn_app (goodIn_r _ [933, 934, 935, 98] (by decide +kernel) (by decide +kernel)) (fun w h => ⟨mT_X11_round w h, gs_X11_round w h⟩)
set_option maxRecDepth 20000 in
theorem mT_X12_isRound : wIn lw_tbl vX12_isRound := wIn.cons (List.mem_of_getElem? (i := 1709) (by decide +kernel)) (wIn.app (wIn.r _ [1501, 1503, 56, 110, 1262, 1387, 1388] (by decide +kernel)) (wIn.app iT_12 (wIn.app mT_X12_isEave mT_X12_in)))
set_option maxRecDepth 20000 in
theorem mT_X12_roundBy : wIn lw_tbl vX12_roundBy := wIn.cons (List.mem_of_getElem? (i := 1717) (by decide +kernel)) (wIn.app (wIn.r _ [1627, 858, 115, 859, 1280] (by decide +kernel)) iT_12)
set_option maxRecDepth 20000 in
theorem mT_X12_layRounds : wIn lw_tbl vX12_layRounds := wIn.cons (List.mem_of_getElem? (i := 1713) (by decide +kernel)) (wIn.app (wIn.r _ [1262, 1548, 1549, 110, 1714, 1716, 78, 1423, 650, 115, 651, 1280, 1668] (by decide +kernel)) (wIn.app iT_12 (wIn.app mT_X12_bit mT_X12_roundBy)))
set_option maxRecDepth 20000 in
theorem mT_X12_round : wIn lw_tbl vX12_round := wIn.cons (List.mem_of_getElem? (i := 1705) (by decide +kernel)) (wIn.app (wIn.r _ [1706, 1708, 76, 110, 1710, 1712, 77] (by decide +kernel)) (wIn.app mT_X12_isRound mT_X12_layRounds))
theorem gL_X12_round : GoodIn lw_tbl (wsV RL 152 RX12 yX12_round vX12_round) := goodIn_app (goodIn_r _ [1702, 1703, 1704, 110] (by decide +kernel) (by decide +kernel)) (fun w h => ⟨mT_X12_round w h, gs_X12_round w h⟩)
set_option maxHeartbeats 8000000 in
set_option maxRecDepth 100000 in
theorem law_c33 {p : Program} {e : Env} {s : State} {m : MethodId} {below : List Frame} {meth : Method} {c : Code} (l : Launch) {b L : Nat} {xs : Nat → Int32} {D : va_G} {cs : Nat → ClassId} {ad : Nat → Nat} {kS : kSt} {K : sK} {g : Nat → va_E} {H : Heap} {locs : List Loc} (hL : L ≤ 3072) (C0 : lw_At p s m meth c b L xs) (X : CxL p s m b meth c D cs) (Z : SX ad kS s s.heap) (hj : wJ ad 218) (hA : ∀ i, i < 218 → AL s (ad i)) (hKO : KO K) (hR : KR K) (hW : WF (shp ad K) ad cs g) (hP : va_P D vwCl (wL ad g 218) H) (hS : va_S (AL s) s.heap H locs) (ls : Array Slot) (ii : Int32) (hi0 : 0 ≤ ii.toInt) (hi1 : ii.toInt + 6 ≤ L) (hl : lv_has ls 4 [(3, .int ii), (2, .ref (ad 197)), (1, .ref (ad 0)), (0, .ref b)]) (kk : ∀ (K : sK) (g : Nat → va_E) (H : Heap) (locs : List Loc) (ls : Array Slot), KO K → KR K → WF (shp ad K) ad cs g → va_P D vwCl (wL ad g 218) H → va_S (AL s) s.heap H locs → lv_has ls 4 [(3, .int ii), (2, .ref (ad 197)), (1, .ref (ad 0)), (0, .ref b)] → W p l e room_1 s m #[Value.ref b] below meth c H locs 218 6259 (lw_Z below #[Value.ref b] s) (F0 m 2069 ls [])) : W p l e room_1 s m #[Value.ref b] below meth c H locs 218 6259 (lw_Z below #[Value.ref b] s) (F0 m 1159 ls []) := by
  have hx := X.1
  have hb : c.code = cL_law := X.2.1
  obtain ⟨-, -, -, -, -, -, hX, hbl, -, -⟩ := id C0
  have hbA : ¬ AL s b := Nat.not_le.mpr hbl
  refine lv_aload_n hx hb dL_law_1159 rfl (lv_at hl 2 rfl) ?_
  refine lv_aload_n hx hb dL_law_1160 rfl (lv_at hl 3 rfl) ?_
  refine lv_iload_n hx hb dL_law_1161 rfl (lv_at hl 0 rfl) ?_
  refine lv_iconst (v := 1) hx hb dL_law_1162 (by decide) ?_
  refine lv_iadd hx hb dL_law_1163 ?_
  refine lv_topi (fun z_1 ez_1 => ?_)
  have hz_1 : z_1.toInt = ii.toInt + 1 := n_add rfl (by decide : (1 : Int32).toInt = 1) ez_1 (by omega) (by omega)
  refine va_sld hx hb hX hbl hbA hS (i := z_1) (n_in (rfl : z_1.toInt = z_1.toInt) (by omega) (by omega)) dL_law_1164 ?_
  refine lv_topi (fun x_2 ex_2 => ?_)
  refine lv_aload_n hx hb dL_law_1165 rfl (lv_at hl 3 rfl) ?_
  refine lv_iload_n hx hb dL_law_1166 rfl (lv_at hl 0 rfl) ?_
  refine lv_iconst (v := 2) hx hb dL_law_1167 (by decide) ?_
  refine lv_iadd hx hb dL_law_1168 ?_
  refine lv_topi (fun z_3 ez_3 => ?_)
  have hz_3 : z_3.toInt = ii.toInt + 2 := n_add rfl (by decide : (2 : Int32).toInt = 2) ez_3 (by omega) (by omega)
  refine va_sld hx hb hX hbl hbA hS (i := z_3) (n_in (rfl : z_3.toInt = z_3.toInt) (by omega) (by omega)) dL_law_1169 ?_
  refine lv_topi (fun x_4 ex_4 => ?_)
  obtain ⟨fso_5, hgo_5, -⟩ := hW.obj (i := 0) (by decide) (sh_0 ad _)
  refine s_calli (q := (RX11, TX11, 14)) (As := [.int x_2, .int x_4]) (rest := []) X Z (s_X11_round l D cs ad kS K hKO hj g hW x_2 x_4) (cwV 2 X.2.2.2.2.1 gL_X11_round rfl rfl rfl (by decide +kernel) ⟨Nat.le_of_ble_eq_true rfl, Nat.le_of_ble_eq_true rfl⟩) (by decide) hgo_5 rfl hP hA (fun a h _ => hS.2.1 a h (Nat.not_le.mpr h)) hS rfl hl.1 rfl (Nat.le_of_ble_eq_true rfl) dL_law_1170 ⟨Nat.le_of_ble_eq_true rfl, Nat.le_of_ble_eq_true rfl⟩ (fun r_7 g_6 H locs hw_8 hP hS => ?_)
  rw [hw_8] at hP
  refine lv_pop hx hb dL_law_1173 rfl ?_
  refine lv_aload_n hx hb dL_law_1174 rfl (lv_at hl 1 rfl) ?_
  refine lv_aload_n hx hb dL_law_1175 rfl (lv_at hl 3 rfl) ?_
  refine lv_iload_n hx hb dL_law_1176 rfl (lv_at hl 0 rfl) ?_
  refine lv_iconst (v := 1) hx hb dL_law_1177 (by decide) ?_
  refine lv_iadd hx hb dL_law_1178 ?_
  refine lv_topi (fun z_9 ez_9 => ?_)
  have hz_9 : z_9.toInt = ii.toInt + 1 := n_add rfl (by decide : (1 : Int32).toInt = 1) ez_9 (by omega) (by omega)
  refine va_sld hx hb hX hbl hbA hS (i := z_9) (n_in (rfl : z_9.toInt = z_9.toInt) (by omega) (by omega)) dL_law_1179 ?_
  refine lv_topi (fun x_10 ex_10 => ?_)
  obtain rfl : x_2 = x_10 := by rw [ex_2, ex_10, ez_1, ez_9]
  refine lv_aload_n hx hb dL_law_1180 rfl (lv_at hl 3 rfl) ?_
  refine lv_iload_n hx hb dL_law_1181 rfl (lv_at hl 0 rfl) ?_
  refine lv_iconst (v := 2) hx hb dL_law_1182 (by decide) ?_
  refine lv_iadd hx hb dL_law_1183 ?_
  refine lv_topi (fun z_11 ez_11 => ?_)
  have hz_11 : z_11.toInt = ii.toInt + 2 := n_add rfl (by decide : (2 : Int32).toInt = 2) ez_11 (by omega) (by omega)
  refine va_sld hx hb hX hbl hbA hS (i := z_11) (n_in (rfl : z_11.toInt = z_11.toInt) (by omega) (by omega)) dL_law_1184 ?_
  refine lv_topi (fun x_12 ex_12 => ?_)
  obtain rfl : x_4 = x_12 := by rw [ex_4, ex_12, ez_3, ez_11]
  obtain ⟨fso_13, hgo_13, -⟩ := hW.obj (i := 197) (by decide) (sh_197 ad _)
  refine s_calli (q := (RX12, TX12, 40)) (As := [.int x_2, .int x_4]) (rest := []) X Z (s_X12_round l D cs ad kS K hKO hj g hW x_2 x_4) (cwV 2 X.2.2.2.2.1 gL_X12_round rfl rfl rfl (by decide +kernel) ⟨Nat.le_of_ble_eq_true rfl, Nat.le_of_ble_eq_true rfl⟩) (by decide) hgo_13 rfl hP hA (fun a h _ => hS.2.1 a h (Nat.not_le.mpr h)) hS rfl hl.1 rfl (Nat.le_of_ble_eq_true rfl) dL_law_1185 ⟨Nat.le_of_ble_eq_true rfl, Nat.le_of_ble_eq_true rfl⟩ (fun r_15 g_14 H locs hw_16 hP hS => ?_)
  obtain ⟨hw_16W, hw_16f⟩ := hw_16
  refine lv_pop hx hb dL_law_1188 rfl ?_
  refine lv_goto (tgt := 2069) hx hb dL_law_1189 (by decide) ?_
  exact kk K g_14 _ _ ls hKO hR hw_16W hP hS hl

theorem dL_law_1192 : decode cL_law 1192 = .ok (.aload_n 1, 1) := by decide +kernel
theorem dL_law_1193 : decode cL_law 1193 = .ok (.aload_n 0, 1) := by decide +kernel
theorem dL_law_1194 : decode cL_law 1194 = .ok (.iload_n 3, 1) := by decide +kernel
theorem dL_law_1195 : decode cL_law 1195 = .ok (.iconst 1, 1) := by decide +kernel
theorem dL_law_1196 : decode cL_law 1196 = .ok (.iadd, 1) := by decide +kernel
theorem dL_law_1197 : decode cL_law 1197 = .ok (.iaload, 1) := by decide +kernel
theorem dL_law_1198 : decode cL_law 1198 = .ok (.aload_n 0, 1) := by decide +kernel
theorem dL_law_1199 : decode cL_law 1199 = .ok (.iload_n 3, 1) := by decide +kernel
theorem dL_law_1200 : decode cL_law 1200 = .ok (.iconst 2, 1) := by decide +kernel
theorem dL_law_1201 : decode cL_law 1201 = .ok (.iadd, 1) := by decide +kernel
theorem dL_law_1202 : decode cL_law 1202 = .ok (.iaload, 1) := by decide +kernel
theorem dL_law_1203 : decode cL_law 1203 = .ok (.aload_n 0, 1) := by decide +kernel
theorem dL_law_1204 : decode cL_law 1204 = .ok (.iload_n 3, 1) := by decide +kernel
theorem dL_law_1205 : decode cL_law 1205 = .ok (.iconst 3, 1) := by decide +kernel
theorem dL_law_1206 : decode cL_law 1206 = .ok (.iadd, 1) := by decide +kernel
theorem dL_law_1207 : decode cL_law 1207 = .ok (.iaload, 1) := by decide +kernel
theorem dL_law_1208 : decode cL_law 1208 = .ok (.invokevirtual 153, 3) := by decide +kernel
theorem dL_law_1211 : decode cL_law 1211 = .ok (.pop, 1) := by decide +kernel
theorem dL_law_1212 : decode cL_law 1212 = .ok (.aload_n 2, 1) := by decide +kernel
theorem dL_law_1213 : decode cL_law 1213 = .ok (.aload_n 0, 1) := by decide +kernel
theorem dL_law_1214 : decode cL_law 1214 = .ok (.iload_n 3, 1) := by decide +kernel
theorem dL_law_1215 : decode cL_law 1215 = .ok (.iconst 1, 1) := by decide +kernel
theorem dL_law_1216 : decode cL_law 1216 = .ok (.iadd, 1) := by decide +kernel
theorem dL_law_1217 : decode cL_law 1217 = .ok (.iaload, 1) := by decide +kernel
theorem dL_law_1218 : decode cL_law 1218 = .ok (.aload_n 0, 1) := by decide +kernel
theorem dL_law_1219 : decode cL_law 1219 = .ok (.iload_n 3, 1) := by decide +kernel
theorem dL_law_1220 : decode cL_law 1220 = .ok (.iconst 2, 1) := by decide +kernel
theorem dL_law_1221 : decode cL_law 1221 = .ok (.iadd, 1) := by decide +kernel
theorem dL_law_1222 : decode cL_law 1222 = .ok (.iaload, 1) := by decide +kernel
theorem dL_law_1223 : decode cL_law 1223 = .ok (.aload_n 0, 1) := by decide +kernel
theorem dL_law_1224 : decode cL_law 1224 = .ok (.iload_n 3, 1) := by decide +kernel
theorem dL_law_1225 : decode cL_law 1225 = .ok (.iconst 3, 1) := by decide +kernel
theorem dL_law_1226 : decode cL_law 1226 = .ok (.iadd, 1) := by decide +kernel
theorem dL_law_1227 : decode cL_law 1227 = .ok (.iaload, 1) := by decide +kernel
theorem dL_law_1228 : decode cL_law 1228 = .ok (.invokevirtual 157, 3) := by decide +kernel
theorem dL_law_1231 : decode cL_law 1231 = .ok (.pop, 1) := by decide +kernel
theorem dL_law_1232 : decode cL_law 1232 = .ok (.goto 837, 3) := by decide +kernel
set_option maxRecDepth 20000 in
theorem mT_X11_firstStop : wIn lw_tbl vX11_firstStop := wIn.cons (List.mem_of_getElem? (i := 950) (by decide +kernel)) (wIn.app (wIn.r _ [941, 942, 98, 857, 858, 115, 859] (by decide +kernel)) mT_X11_leastSteps)
set_option maxRecDepth 20000 in
theorem mT_X11_rounds : wIn lw_tbl vX11_rounds := wIn.cons (List.mem_of_getElem? (i := 947) (by decide +kernel)) (wIn.app (wIn.r _ [733, 735, 14, 98, 937, 939, 22, 814, 815, 117, 948, 949] (by decide +kernel)) (wIn.app mT_X11_isEave (wIn.app mT_X11_areEaves (wIn.app mT_J6_bitCount_0f7a4 mT_X11_firstStop))))
theorem gL_X11_rounds : GoodIn lw_tbl (wsV RL 153 RX11 yX11_rounds vX11_rounds) := goodIn_app (goodIn_r _ [944, 945, 946, 98] (by decide +kernel) (by decide +kernel)) (fun w h => ⟨mT_X11_rounds w h, gs_X11_rounds w h⟩)
set_option maxRecDepth 20000 in
theorem mT_X12_rounds : wIn lw_tbl vX12_rounds := wIn.cons (List.mem_of_getElem? (i := 1721) (by decide +kernel)) (wIn.app (wIn.r _ [1706, 1708, 76, 110, 1600, 1601, 1387, 1388, 1710, 1712, 77, 1548, 1549, 1714, 1716, 78, 1280] (by decide +kernel)) (wIn.app iT_12 (wIn.app mT_X12_isRound (wIn.app mT_X12_bits (wIn.app mT_X12_in (wIn.app mT_X12_layRounds (wIn.app mT_X12_bit mT_X12_roundBy)))))))
theorem gL_X12_rounds : GoodIn lw_tbl (wsV RL 157 RX12 yX12_rounds vX12_rounds) := goodIn_app (goodIn_r _ [1718, 1719, 1720, 110] (by decide +kernel) (by decide +kernel)) (fun w h => ⟨mT_X12_rounds w h, gs_X12_rounds w h⟩)
set_option maxHeartbeats 8000000 in
set_option maxRecDepth 100000 in
theorem law_c34 {p : Program} {e : Env} {s : State} {m : MethodId} {below : List Frame} {meth : Method} {c : Code} (l : Launch) {b L : Nat} {xs : Nat → Int32} {D : va_G} {cs : Nat → ClassId} {ad : Nat → Nat} {kS : kSt} {K : sK} {g : Nat → va_E} {H : Heap} {locs : List Loc} (hL : L ≤ 3072) (C0 : lw_At p s m meth c b L xs) (X : CxL p s m b meth c D cs) (Z : SX ad kS s s.heap) (hj : wJ ad 218) (hA : ∀ i, i < 218 → AL s (ad i)) (hKO : KO K) (hR : KR K) (hW : WF (shp ad K) ad cs g) (hP : va_P D vwCl (wL ad g 218) H) (hS : va_S (AL s) s.heap H locs) (ls : Array Slot) (ii : Int32) (hi0 : 0 ≤ ii.toInt) (hi1 : ii.toInt + 6 ≤ L) (hl : lv_has ls 4 [(3, .int ii), (2, .ref (ad 197)), (1, .ref (ad 0)), (0, .ref b)]) (kk : ∀ (K : sK) (g : Nat → va_E) (H : Heap) (locs : List Loc) (ls : Array Slot), KO K → KR K → WF (shp ad K) ad cs g → va_P D vwCl (wL ad g 218) H → va_S (AL s) s.heap H locs → lv_has ls 4 [(3, .int ii), (2, .ref (ad 197)), (1, .ref (ad 0)), (0, .ref b)] → W p l e room_1 s m #[Value.ref b] below meth c H locs 218 6259 (lw_Z below #[Value.ref b] s) (F0 m 2069 ls [])) : W p l e room_1 s m #[Value.ref b] below meth c H locs 218 6259 (lw_Z below #[Value.ref b] s) (F0 m 1192 ls []) := by
  have hx := X.1
  have hb : c.code = cL_law := X.2.1
  obtain ⟨-, -, -, -, -, -, hX, hbl, -, -⟩ := id C0
  have hbA : ¬ AL s b := Nat.not_le.mpr hbl
  refine lv_aload_n hx hb dL_law_1192 rfl (lv_at hl 2 rfl) ?_
  refine lv_aload_n hx hb dL_law_1193 rfl (lv_at hl 3 rfl) ?_
  refine lv_iload_n hx hb dL_law_1194 rfl (lv_at hl 0 rfl) ?_
  refine lv_iconst (v := 1) hx hb dL_law_1195 (by decide) ?_
  refine lv_iadd hx hb dL_law_1196 ?_
  refine lv_topi (fun z_1 ez_1 => ?_)
  have hz_1 : z_1.toInt = ii.toInt + 1 := n_add rfl (by decide : (1 : Int32).toInt = 1) ez_1 (by omega) (by omega)
  refine va_sld hx hb hX hbl hbA hS (i := z_1) (n_in (rfl : z_1.toInt = z_1.toInt) (by omega) (by omega)) dL_law_1197 ?_
  refine lv_topi (fun x_2 ex_2 => ?_)
  refine lv_aload_n hx hb dL_law_1198 rfl (lv_at hl 3 rfl) ?_
  refine lv_iload_n hx hb dL_law_1199 rfl (lv_at hl 0 rfl) ?_
  refine lv_iconst (v := 2) hx hb dL_law_1200 (by decide) ?_
  refine lv_iadd hx hb dL_law_1201 ?_
  refine lv_topi (fun z_3 ez_3 => ?_)
  have hz_3 : z_3.toInt = ii.toInt + 2 := n_add rfl (by decide : (2 : Int32).toInt = 2) ez_3 (by omega) (by omega)
  refine va_sld hx hb hX hbl hbA hS (i := z_3) (n_in (rfl : z_3.toInt = z_3.toInt) (by omega) (by omega)) dL_law_1202 ?_
  refine lv_topi (fun x_4 ex_4 => ?_)
  refine lv_aload_n hx hb dL_law_1203 rfl (lv_at hl 3 rfl) ?_
  refine lv_iload_n hx hb dL_law_1204 rfl (lv_at hl 0 rfl) ?_
  refine lv_iconst (v := 3) hx hb dL_law_1205 (by decide) ?_
  refine lv_iadd hx hb dL_law_1206 ?_
  refine lv_topi (fun z_5 ez_5 => ?_)
  have hz_5 : z_5.toInt = ii.toInt + 3 := n_add rfl (by decide : (3 : Int32).toInt = 3) ez_5 (by omega) (by omega)
  refine va_sld hx hb hX hbl hbA hS (i := z_5) (n_in (rfl : z_5.toInt = z_5.toInt) (by omega) (by omega)) dL_law_1207 ?_
  refine lv_topi (fun x_6 ex_6 => ?_)
  obtain ⟨fso_7, hgo_7, -⟩ := hW.obj (i := 0) (by decide) (sh_0 ad _)
  refine s_calli (q := (RX11, TX11, 14)) (As := [.int x_2, .int x_4, .int x_6]) (rest := []) X Z (s_X11_rounds l D cs ad kS K hKO hj g hW x_2 x_4 x_6) (cwV 3 X.2.2.2.2.1 gL_X11_rounds rfl rfl rfl (by decide +kernel) ⟨Nat.le_of_ble_eq_true rfl, Nat.le_of_ble_eq_true rfl⟩) (by decide) hgo_7 rfl hP hA (fun a h _ => hS.2.1 a h (Nat.not_le.mpr h)) hS rfl hl.1 rfl (Nat.le_of_ble_eq_true rfl) dL_law_1208 ⟨Nat.le_of_ble_eq_true rfl, Nat.le_of_ble_eq_true rfl⟩ (fun r_9 g_8 H locs hw_10 hP hS => ?_)
  rw [hw_10] at hP
  refine lv_pop hx hb dL_law_1211 rfl ?_
  refine lv_aload_n hx hb dL_law_1212 rfl (lv_at hl 1 rfl) ?_
  refine lv_aload_n hx hb dL_law_1213 rfl (lv_at hl 3 rfl) ?_
  refine lv_iload_n hx hb dL_law_1214 rfl (lv_at hl 0 rfl) ?_
  refine lv_iconst (v := 1) hx hb dL_law_1215 (by decide) ?_
  refine lv_iadd hx hb dL_law_1216 ?_
  refine lv_topi (fun z_11 ez_11 => ?_)
  have hz_11 : z_11.toInt = ii.toInt + 1 := n_add rfl (by decide : (1 : Int32).toInt = 1) ez_11 (by omega) (by omega)
  refine va_sld hx hb hX hbl hbA hS (i := z_11) (n_in (rfl : z_11.toInt = z_11.toInt) (by omega) (by omega)) dL_law_1217 ?_
  refine lv_topi (fun x_12 ex_12 => ?_)
  obtain rfl : x_2 = x_12 := by rw [ex_2, ex_12, ez_1, ez_11]
  refine lv_aload_n hx hb dL_law_1218 rfl (lv_at hl 3 rfl) ?_
  refine lv_iload_n hx hb dL_law_1219 rfl (lv_at hl 0 rfl) ?_
  refine lv_iconst (v := 2) hx hb dL_law_1220 (by decide) ?_
  refine lv_iadd hx hb dL_law_1221 ?_
  refine lv_topi (fun z_13 ez_13 => ?_)
  have hz_13 : z_13.toInt = ii.toInt + 2 := n_add rfl (by decide : (2 : Int32).toInt = 2) ez_13 (by omega) (by omega)
  refine va_sld hx hb hX hbl hbA hS (i := z_13) (n_in (rfl : z_13.toInt = z_13.toInt) (by omega) (by omega)) dL_law_1222 ?_
  refine lv_topi (fun x_14 ex_14 => ?_)
  obtain rfl : x_4 = x_14 := by rw [ex_4, ex_14, ez_3, ez_13]
  refine lv_aload_n hx hb dL_law_1223 rfl (lv_at hl 3 rfl) ?_
  refine lv_iload_n hx hb dL_law_1224 rfl (lv_at hl 0 rfl) ?_
  refine lv_iconst (v := 3) hx hb dL_law_1225 (by decide) ?_
  refine lv_iadd hx hb dL_law_1226 ?_
  refine lv_topi (fun z_15 ez_15 => ?_)
  have hz_15 : z_15.toInt = ii.toInt + 3 := n_add rfl (by decide : (3 : Int32).toInt = 3) ez_15 (by omega) (by omega)
  refine va_sld hx hb hX hbl hbA hS (i := z_15) (n_in (rfl : z_15.toInt = z_15.toInt) (by omega) (by omega)) dL_law_1227 ?_
  refine lv_topi (fun x_16 ex_16 => ?_)
  obtain rfl : x_6 = x_16 := by rw [ex_6, ex_16, ez_5, ez_15]
  obtain ⟨fso_17, hgo_17, -⟩ := hW.obj (i := 197) (by decide) (sh_197 ad _)
  refine s_calli (q := (RX12, TX12, 40)) (As := [.int x_2, .int x_4, .int x_6]) (rest := []) X Z (s_X12_rounds l D cs ad kS K hKO hj g hW x_2 x_4 x_6) (cwV 3 X.2.2.2.2.1 gL_X12_rounds rfl rfl rfl (by decide +kernel) ⟨Nat.le_of_ble_eq_true rfl, Nat.le_of_ble_eq_true rfl⟩) (by decide) hgo_17 rfl hP hA (fun a h _ => hS.2.1 a h (Nat.not_le.mpr h)) hS rfl hl.1 rfl (Nat.le_of_ble_eq_true rfl) dL_law_1228 ⟨Nat.le_of_ble_eq_true rfl, Nat.le_of_ble_eq_true rfl⟩ (fun r_19 g_18 H locs hw_20 hP hS => ?_)
  obtain ⟨hw_20W, hw_20f⟩ := hw_20
  refine lv_pop hx hb dL_law_1231 rfl ?_
  refine lv_goto (tgt := 2069) hx hb dL_law_1232 (by decide) ?_
  exact kk K g_18 _ _ ls hKO hR hw_20W hP hS hl

theorem dL_law_1235 : decode cL_law 1235 = .ok (.aload_n 1, 1) := by decide +kernel
theorem dL_law_1236 : decode cL_law 1236 = .ok (.aload_n 0, 1) := by decide +kernel
theorem dL_law_1237 : decode cL_law 1237 = .ok (.iload_n 3, 1) := by decide +kernel
theorem dL_law_1238 : decode cL_law 1238 = .ok (.iconst 1, 1) := by decide +kernel
theorem dL_law_1239 : decode cL_law 1239 = .ok (.iadd, 1) := by decide +kernel
theorem dL_law_1240 : decode cL_law 1240 = .ok (.iaload, 1) := by decide +kernel
theorem dL_law_1241 : decode cL_law 1241 = .ok (.invokevirtual 158, 3) := by decide +kernel
theorem dL_law_1244 : decode cL_law 1244 = .ok (.pop, 1) := by decide +kernel
theorem dL_law_1245 : decode cL_law 1245 = .ok (.aload_n 2, 1) := by decide +kernel
theorem dL_law_1246 : decode cL_law 1246 = .ok (.aload_n 0, 1) := by decide +kernel
theorem dL_law_1247 : decode cL_law 1247 = .ok (.iload_n 3, 1) := by decide +kernel
theorem dL_law_1248 : decode cL_law 1248 = .ok (.iconst 1, 1) := by decide +kernel
theorem dL_law_1249 : decode cL_law 1249 = .ok (.iadd, 1) := by decide +kernel
theorem dL_law_1250 : decode cL_law 1250 = .ok (.iaload, 1) := by decide +kernel
theorem dL_law_1251 : decode cL_law 1251 = .ok (.invokevirtual 161, 3) := by decide +kernel
theorem dL_law_1254 : decode cL_law 1254 = .ok (.pop, 1) := by decide +kernel
theorem dL_law_1255 : decode cL_law 1255 = .ok (.goto 814, 3) := by decide +kernel
set_option maxRecDepth 20000 in
theorem mT_X11_isSlot : wIn lw_tbl vX11_isSlot := wIn.cons (List.mem_of_getElem? (i := 961) (by decide +kernel)) (wIn.r _ [] (by decide +kernel))
set_option maxRecDepth 20000 in
theorem mT_J7_fill_53178 : wIn lw_tbl vJ7_fill_53178 := wIn.cons (List.mem_of_getElem? (i := 968) (by decide +kernel)) (wIn.r _ [] (by decide +kernel))
set_option maxRecDepth 20000 in
theorem mT_X3_note : wIn lw_tbl vX3_note := wIn.cons (List.mem_of_getElem? (i := 973) (by decide +kernel)) (wIn.app (wIn.r _ [370, 372] (by decide +kernel)) iT_3)
set_option maxRecDepth 20000 in
theorem mT_X3_read : wIn lw_tbl vX3_read := wIn.cons (List.mem_of_getElem? (i := 965) (by decide +kernel)) (wIn.app (wIn.r _ [370, 966, 967, 118, 372, 325, 319, 969, 970, 972, 24, 104] (by decide +kernel)) (wIn.app iT_3 (wIn.app iT_5 (wIn.app mT_J7_fill_53178 mT_X3_note))))
set_option maxRecDepth 20000 in
theorem mT_X11_refusal : wIn lw_tbl vX11_refusal := wIn.cons (List.mem_of_getElem? (i := 958) (by decide +kernel)) (wIn.app (wIn.r _ [959, 960, 98, 810, 812, 17, 490, 322, 493, 486, 225, 962, 963, 964, 104] (by decide +kernel)) (wIn.app iT_11 (wIn.app iT_5 (wIn.app iT_6 (wIn.app mT_X11_isSlot (wIn.app mT_X11_isTold mT_X3_read))))))
set_option maxRecDepth 20000 in
theorem mT_X10_passUnder : wIn lw_tbl vX10_passUnder := wIn.cons (List.mem_of_getElem? (i := 987) (by decide +kernel)) (wIn.app (wIn.r _ [219, 247, 351, 255, 701, 702, 703, 103] (by decide +kernel)) (wIn.app iT_6 (wIn.app iT_10 mT_X10_fallOf)))
set_option maxRecDepth 20000 in
theorem mT_X3_fits : wIn lw_tbl vX3_fits := wIn.cons (List.mem_of_getElem? (i := 991) (by decide +kernel)) (wIn.app (wIn.r _ [372, 222, 370, 352] (by decide +kernel)) (wIn.app iT_3 (wIn.app iT_6 iT_10)))
set_option maxRecDepth 20000 in
theorem mT_X4_note : wIn lw_tbl vX4_note := wIn.cons (List.mem_of_getElem? (i := 995) (by decide +kernel)) (wIn.app (wIn.r _ [386, 348, 350, 388, 223, 390, 353] (by decide +kernel)) (wIn.app iT_4 (wIn.app iT_10 iT_6)))
set_option maxRecDepth 20000 in
theorem mT_X4_searchUnder : wIn lw_tbl vX4_searchUnder := wIn.cons (List.mem_of_getElem? (i := 983) (by decide +kernel)) (wIn.app (wIn.r _ [348, 208, 350, 984, 985, 986, 103, 988, 989, 990, 104, 992, 994, 26, 105] (by decide +kernel)) (wIn.app iT_10 (wIn.app iT_6 (wIn.app mT_X10_passUnder (wIn.app mT_X3_fits mT_X4_note)))))
set_option maxRecDepth 20000 in
theorem mT_X4_search : wIn lw_tbl vX4_search := wIn.cons (List.mem_of_getElem? (i := 977) (by decide +kernel)) (wIn.app (wIn.r _ [386, 388, 390, 978, 967, 118, 344, 979, 698, 699, 103, 216, 980, 982, 25, 105] (by decide +kernel)) (wIn.app iT_4 (wIn.app iT_10 (wIn.app iT_6 (wIn.app mT_J7_fill_53178 (wIn.app mT_X10_passOver mT_X4_searchUnder))))))
set_option maxRecDepth 20000 in
theorem mT_X11_slams : wIn lw_tbl vX11_slams := wIn.cons (List.mem_of_getElem? (i := 954) (by decide +kernel)) (wIn.app (wIn.r _ [486, 212, 955, 957, 23, 98, 494, 492, 493, 974, 975, 976, 105, 387] (by decide +kernel)) (wIn.app iT_11 (wIn.app iT_6 (wIn.app iT_4 (wIn.app mT_X11_refusal mT_X4_search)))))
theorem gL_X11_slams : GoodIn lw_tbl (wsV RL 158 RX11 yX11_slams vX11_slams) := goodIn_app (goodIn_r _ [951, 952, 953, 98] (by decide +kernel) (by decide +kernel)) (fun w h => ⟨mT_X11_slams w h, gs_X11_slams w h⟩)
set_option maxRecDepth 20000 in
theorem mT_X12_isSlot : wIn lw_tbl vX12_isSlot := wIn.cons (List.mem_of_getElem? (i := 1736) (by decide +kernel)) (wIn.app (wIn.r _ [1737, 1387, 1388, 110] (by decide +kernel)) mT_X12_in)
set_option maxRecDepth 20000 in
theorem mT_X12_numberAt : wIn lw_tbl vX12_numberAt := wIn.cons (List.mem_of_getElem? (i := 1741) (by decide +kernel)) (wIn.app (wIn.r _ [1299] (by decide +kernel)) iT_12)
set_option maxRecDepth 20000 in
theorem mT_X12_asksSeen : wIn lw_tbl vX12_asksSeen := wIn.cons (List.mem_of_getElem? (i := 1733) (by decide +kernel)) (wIn.app (wIn.r _ [1734, 1735, 110, 1596, 1598, 68, 1297, 1738, 1740, 81, 1516, 1518, 58, 1742, 1387, 1388] (by decide +kernel)) (wIn.app iT_12 (wIn.app mT_X12_isSlot (wIn.app mT_X12_isStreet (wIn.app mT_X12_numberAt (wIn.app mT_X12_isIcicle mT_X12_in))))))
set_option maxRecDepth 20000 in
theorem mT_X12_isSeen : wIn lw_tbl vX12_isSeen := wIn.cons (List.mem_of_getElem? (i := 1746) (by decide +kernel)) (wIn.app (wIn.r _ [1297, 1277, 1738, 1740, 81, 110] (by decide +kernel)) (wIn.app iT_12 mT_X12_numberAt))
set_option maxRecDepth 20000 in
theorem mT_X12_laySlams : wIn lw_tbl vX12_laySlams := wIn.cons (List.mem_of_getElem? (i := 1729) (by decide +kernel)) (wIn.app (wIn.r _ [1262, 1730, 1732, 80, 110, 1544, 1546, 62, 1283, 1278, 1276, 1551, 1553, 63, 1743, 1745, 82, 1281, 1282, 1277] (by decide +kernel)) (wIn.app iT_12 (wIn.app mT_X12_asksSeen (wIn.app mT_X12_layOff (wIn.app mT_X12_layFalls mT_X12_isSeen)))))
set_option maxRecDepth 20000 in
theorem mT_X12_slams : wIn lw_tbl vX12_slams := wIn.cons (List.mem_of_getElem? (i := 1725) (by decide +kernel)) (wIn.app (wIn.r _ [1726, 1728, 79, 110, 1283] (by decide +kernel)) (wIn.app iT_12 mT_X12_laySlams))
theorem gL_X12_slams : GoodIn lw_tbl (wsV RL 161 RX12 yX12_slams vX12_slams) := goodIn_app (goodIn_r _ [1722, 1723, 1724, 110] (by decide +kernel) (by decide +kernel)) (fun w h => ⟨mT_X12_slams w h, gs_X12_slams w h⟩)
set_option maxHeartbeats 8000000 in
set_option maxRecDepth 100000 in
theorem law_c35 {p : Program} {e : Env} {s : State} {m : MethodId} {below : List Frame} {meth : Method} {c : Code} (l : Launch) {b L : Nat} {xs : Nat → Int32} {D : va_G} {cs : Nat → ClassId} {ad : Nat → Nat} {kS : kSt} {K : sK} {g : Nat → va_E} {H : Heap} {locs : List Loc} (hL : L ≤ 3072) (C0 : lw_At p s m meth c b L xs) (X : CxL p s m b meth c D cs) (Z : SX ad kS s s.heap) (hj : wJ ad 218) (hA : ∀ i, i < 218 → AL s (ad i)) (hKO : KO K) (hR : KR K) (hW : WF (shp ad K) ad cs g) (hP : va_P D vwCl (wL ad g 218) H) (hS : va_S (AL s) s.heap H locs) (ls : Array Slot) (ii : Int32) (hi0 : 0 ≤ ii.toInt) (hi1 : ii.toInt + 6 ≤ L) (hl : lv_has ls 4 [(3, .int ii), (2, .ref (ad 197)), (1, .ref (ad 0)), (0, .ref b)]) (kk : ∀ (K : sK) (g : Nat → va_E) (H : Heap) (locs : List Loc) (ls : Array Slot), KO K → KR K → WF (shp ad K) ad cs g → va_P D vwCl (wL ad g 218) H → va_S (AL s) s.heap H locs → lv_has ls 4 [(3, .int ii), (2, .ref (ad 197)), (1, .ref (ad 0)), (0, .ref b)] → W p l e room_1 s m #[Value.ref b] below meth c H locs 218 6259 (lw_Z below #[Value.ref b] s) (F0 m 2069 ls [])) : W p l e room_1 s m #[Value.ref b] below meth c H locs 218 6259 (lw_Z below #[Value.ref b] s) (F0 m 1235 ls []) := by
  have hx := X.1
  have hb : c.code = cL_law := X.2.1
  obtain ⟨-, -, -, -, -, -, hX, hbl, -, -⟩ := id C0
  have hbA : ¬ AL s b := Nat.not_le.mpr hbl
  refine lv_aload_n hx hb dL_law_1235 rfl (lv_at hl 2 rfl) ?_
  refine lv_aload_n hx hb dL_law_1236 rfl (lv_at hl 3 rfl) ?_
  refine lv_iload_n hx hb dL_law_1237 rfl (lv_at hl 0 rfl) ?_
  refine lv_iconst (v := 1) hx hb dL_law_1238 (by decide) ?_
  refine lv_iadd hx hb dL_law_1239 ?_
  refine lv_topi (fun z_1 ez_1 => ?_)
  have hz_1 : z_1.toInt = ii.toInt + 1 := n_add rfl (by decide : (1 : Int32).toInt = 1) ez_1 (by omega) (by omega)
  refine va_sld hx hb hX hbl hbA hS (i := z_1) (n_in (rfl : z_1.toInt = z_1.toInt) (by omega) (by omega)) dL_law_1240 ?_
  refine lv_topi (fun x_2 ex_2 => ?_)
  obtain ⟨fso_3, hgo_3, -⟩ := hW.obj (i := 0) (by decide) (sh_0 ad _)
  refine s_calli (q := (RX11, TX11, 14)) (As := [.int x_2]) (rest := []) X Z (s_X11_slams l D cs ad kS K hKO hj g hW x_2) (cwV 1 X.2.2.2.2.1 gL_X11_slams rfl rfl rfl (by decide +kernel) ⟨Nat.le_of_ble_eq_true rfl, Nat.le_of_ble_eq_true rfl⟩) (by decide) hgo_3 rfl hP hA (fun a h _ => hS.2.1 a h (Nat.not_le.mpr h)) hS rfl hl.1 rfl (Nat.le_of_ble_eq_true rfl) dL_law_1241 ⟨Nat.le_of_ble_eq_true rfl, Nat.le_of_ble_eq_true rfl⟩ (fun r_5 g_4 H locs hw_6 hP hS => ?_)
  obtain ⟨hw_6W, hw_6f⟩ := hw_6
  refine lv_pop hx hb dL_law_1244 rfl ?_
  refine lv_aload_n hx hb dL_law_1245 rfl (lv_at hl 1 rfl) ?_
  refine lv_aload_n hx hb dL_law_1246 rfl (lv_at hl 3 rfl) ?_
  refine lv_iload_n hx hb dL_law_1247 rfl (lv_at hl 0 rfl) ?_
  refine lv_iconst (v := 1) hx hb dL_law_1248 (by decide) ?_
  refine lv_iadd hx hb dL_law_1249 ?_
  refine lv_topi (fun z_7 ez_7 => ?_)
  have hz_7 : z_7.toInt = ii.toInt + 1 := n_add rfl (by decide : (1 : Int32).toInt = 1) ez_7 (by omega) (by omega)
  refine va_sld hx hb hX hbl hbA hS (i := z_7) (n_in (rfl : z_7.toInt = z_7.toInt) (by omega) (by omega)) dL_law_1250 ?_
  refine lv_topi (fun x_8 ex_8 => ?_)
  obtain rfl : x_2 = x_8 := by rw [ex_2, ex_8, ez_1, ez_7]
  obtain ⟨fso_9, hgo_9, -⟩ := hw_6W.obj (i := 197) (by decide) (sh_197 ad _)
  refine s_calli (q := (RX12, TX12, 40)) (As := [.int x_2]) (rest := []) X Z (s_X12_slams l D cs ad kS K hKO hj g_4 hw_6W x_2) (cwV 1 X.2.2.2.2.1 gL_X12_slams rfl rfl rfl (by decide +kernel) ⟨Nat.le_of_ble_eq_true rfl, Nat.le_of_ble_eq_true rfl⟩) (by decide) hgo_9 rfl hP hA (fun a h _ => hS.2.1 a h (Nat.not_le.mpr h)) hS rfl hl.1 rfl (Nat.le_of_ble_eq_true rfl) dL_law_1251 ⟨Nat.le_of_ble_eq_true rfl, Nat.le_of_ble_eq_true rfl⟩ (fun r_11 g_10 H locs hw_12 hP hS => ?_)
  obtain ⟨hw_12W, hw_12f⟩ := hw_12
  refine lv_pop hx hb dL_law_1254 rfl ?_
  refine lv_goto (tgt := 2069) hx hb dL_law_1255 (by decide) ?_
  exact kk K g_10 _ _ ls hKO hR hw_12W hP hS hl

theorem dL_law_1258 : decode cL_law 1258 = .ok (.aload_n 1, 1) := by decide +kernel
theorem dL_law_1259 : decode cL_law 1259 = .ok (.aload_n 0, 1) := by decide +kernel
theorem dL_law_1260 : decode cL_law 1260 = .ok (.iload_n 3, 1) := by decide +kernel
theorem dL_law_1261 : decode cL_law 1261 = .ok (.iconst 1, 1) := by decide +kernel
theorem dL_law_1262 : decode cL_law 1262 = .ok (.iadd, 1) := by decide +kernel
theorem dL_law_1263 : decode cL_law 1263 = .ok (.iaload, 1) := by decide +kernel
theorem dL_law_1264 : decode cL_law 1264 = .ok (.invokevirtual 162, 3) := by decide +kernel
theorem dL_law_1267 : decode cL_law 1267 = .ok (.pop, 1) := by decide +kernel
theorem dL_law_1268 : decode cL_law 1268 = .ok (.aload_n 2, 1) := by decide +kernel
theorem dL_law_1269 : decode cL_law 1269 = .ok (.aload_n 0, 1) := by decide +kernel
theorem dL_law_1270 : decode cL_law 1270 = .ok (.iload_n 3, 1) := by decide +kernel
theorem dL_law_1271 : decode cL_law 1271 = .ok (.iconst 1, 1) := by decide +kernel
theorem dL_law_1272 : decode cL_law 1272 = .ok (.iadd, 1) := by decide +kernel
theorem dL_law_1273 : decode cL_law 1273 = .ok (.iaload, 1) := by decide +kernel
theorem dL_law_1274 : decode cL_law 1274 = .ok (.invokevirtual 165, 3) := by decide +kernel
theorem dL_law_1277 : decode cL_law 1277 = .ok (.pop, 1) := by decide +kernel
theorem dL_law_1278 : decode cL_law 1278 = .ok (.goto 791, 3) := by decide +kernel
set_option maxRecDepth 20000 in
theorem mT_X11_slam : wIn lw_tbl vX11_slam := wIn.cons (List.mem_of_getElem? (i := 999) (by decide +kernel)) (wIn.app (wIn.r _ [486, 212, 955, 957, 23, 98, 494, 492, 493, 974, 975, 976, 105, 389] (by decide +kernel)) (wIn.app iT_11 (wIn.app iT_6 (wIn.app iT_4 (wIn.app mT_X11_refusal mT_X4_search)))))
theorem gL_X11_slam : GoodIn lw_tbl (wsV RL 162 RX11 yX11_slam vX11_slam) := goodIn_app (goodIn_r _ [996, 997, 998, 98] (by decide +kernel) (by decide +kernel)) (fun w h => ⟨mT_X11_slam w h, gs_X11_slam w h⟩)
set_option maxRecDepth 20000 in
theorem mT_X12_slam : wIn lw_tbl vX12_slam := wIn.cons (List.mem_of_getElem? (i := 1750) (by decide +kernel)) (wIn.app (wIn.r _ [1726, 1728, 79, 110, 1283, 1281] (by decide +kernel)) (wIn.app iT_12 mT_X12_laySlams))
theorem gL_X12_slam : GoodIn lw_tbl (wsV RL 165 RX12 yX12_slam vX12_slam) := goodIn_app (goodIn_r _ [1747, 1748, 1749, 110] (by decide +kernel) (by decide +kernel)) (fun w h => ⟨mT_X12_slam w h, gs_X12_slam w h⟩)
set_option maxHeartbeats 8000000 in
set_option maxRecDepth 100000 in
theorem law_c36 {p : Program} {e : Env} {s : State} {m : MethodId} {below : List Frame} {meth : Method} {c : Code} (l : Launch) {b L : Nat} {xs : Nat → Int32} {D : va_G} {cs : Nat → ClassId} {ad : Nat → Nat} {kS : kSt} {K : sK} {g : Nat → va_E} {H : Heap} {locs : List Loc} (hL : L ≤ 3072) (C0 : lw_At p s m meth c b L xs) (X : CxL p s m b meth c D cs) (Z : SX ad kS s s.heap) (hj : wJ ad 218) (hA : ∀ i, i < 218 → AL s (ad i)) (hKO : KO K) (hR : KR K) (hW : WF (shp ad K) ad cs g) (hP : va_P D vwCl (wL ad g 218) H) (hS : va_S (AL s) s.heap H locs) (ls : Array Slot) (ii : Int32) (hi0 : 0 ≤ ii.toInt) (hi1 : ii.toInt + 6 ≤ L) (hl : lv_has ls 4 [(3, .int ii), (2, .ref (ad 197)), (1, .ref (ad 0)), (0, .ref b)]) (kk : ∀ (K : sK) (g : Nat → va_E) (H : Heap) (locs : List Loc) (ls : Array Slot), KO K → KR K → WF (shp ad K) ad cs g → va_P D vwCl (wL ad g 218) H → va_S (AL s) s.heap H locs → lv_has ls 4 [(3, .int ii), (2, .ref (ad 197)), (1, .ref (ad 0)), (0, .ref b)] → W p l e room_1 s m #[Value.ref b] below meth c H locs 218 6259 (lw_Z below #[Value.ref b] s) (F0 m 2069 ls [])) : W p l e room_1 s m #[Value.ref b] below meth c H locs 218 6259 (lw_Z below #[Value.ref b] s) (F0 m 1258 ls []) := by
  have hx := X.1
  have hb : c.code = cL_law := X.2.1
  obtain ⟨-, -, -, -, -, -, hX, hbl, -, -⟩ := id C0
  have hbA : ¬ AL s b := Nat.not_le.mpr hbl
  refine lv_aload_n hx hb dL_law_1258 rfl (lv_at hl 2 rfl) ?_
  refine lv_aload_n hx hb dL_law_1259 rfl (lv_at hl 3 rfl) ?_
  refine lv_iload_n hx hb dL_law_1260 rfl (lv_at hl 0 rfl) ?_
  refine lv_iconst (v := 1) hx hb dL_law_1261 (by decide) ?_
  refine lv_iadd hx hb dL_law_1262 ?_
  refine lv_topi (fun z_1 ez_1 => ?_)
  have hz_1 : z_1.toInt = ii.toInt + 1 := n_add rfl (by decide : (1 : Int32).toInt = 1) ez_1 (by omega) (by omega)
  refine va_sld hx hb hX hbl hbA hS (i := z_1) (n_in (rfl : z_1.toInt = z_1.toInt) (by omega) (by omega)) dL_law_1263 ?_
  refine lv_topi (fun x_2 ex_2 => ?_)
  obtain ⟨fso_3, hgo_3, -⟩ := hW.obj (i := 0) (by decide) (sh_0 ad _)
  refine s_calli (q := (RX11, TX11, 14)) (As := [.int x_2]) (rest := []) X Z (s_X11_slam l D cs ad kS K hKO hj g hW x_2) (cwV 1 X.2.2.2.2.1 gL_X11_slam rfl rfl rfl (by decide +kernel) ⟨Nat.le_of_ble_eq_true rfl, Nat.le_of_ble_eq_true rfl⟩) (by decide) hgo_3 rfl hP hA (fun a h _ => hS.2.1 a h (Nat.not_le.mpr h)) hS rfl hl.1 rfl (Nat.le_of_ble_eq_true rfl) dL_law_1264 ⟨Nat.le_of_ble_eq_true rfl, Nat.le_of_ble_eq_true rfl⟩ (fun r_5 g_4 H locs hw_6 hP hS => ?_)
  obtain ⟨hw_6W, hw_6f⟩ := hw_6
  refine lv_pop hx hb dL_law_1267 rfl ?_
  refine lv_aload_n hx hb dL_law_1268 rfl (lv_at hl 1 rfl) ?_
  refine lv_aload_n hx hb dL_law_1269 rfl (lv_at hl 3 rfl) ?_
  refine lv_iload_n hx hb dL_law_1270 rfl (lv_at hl 0 rfl) ?_
  refine lv_iconst (v := 1) hx hb dL_law_1271 (by decide) ?_
  refine lv_iadd hx hb dL_law_1272 ?_
  refine lv_topi (fun z_7 ez_7 => ?_)
  have hz_7 : z_7.toInt = ii.toInt + 1 := n_add rfl (by decide : (1 : Int32).toInt = 1) ez_7 (by omega) (by omega)
  refine va_sld hx hb hX hbl hbA hS (i := z_7) (n_in (rfl : z_7.toInt = z_7.toInt) (by omega) (by omega)) dL_law_1273 ?_
  refine lv_topi (fun x_8 ex_8 => ?_)
  obtain rfl : x_2 = x_8 := by rw [ex_2, ex_8, ez_1, ez_7]
  obtain ⟨fso_9, hgo_9, -⟩ := hw_6W.obj (i := 197) (by decide) (sh_197 ad _)
  refine s_calli (q := (RX12, TX12, 40)) (As := [.int x_2]) (rest := []) X Z (s_X12_slam l D cs ad kS K hKO hj g_4 hw_6W x_2) (cwV 1 X.2.2.2.2.1 gL_X12_slam rfl rfl rfl (by decide +kernel) ⟨Nat.le_of_ble_eq_true rfl, Nat.le_of_ble_eq_true rfl⟩) (by decide) hgo_9 rfl hP hA (fun a h _ => hS.2.1 a h (Nat.not_le.mpr h)) hS rfl hl.1 rfl (Nat.le_of_ble_eq_true rfl) dL_law_1274 ⟨Nat.le_of_ble_eq_true rfl, Nat.le_of_ble_eq_true rfl⟩ (fun r_11 g_10 H locs hw_12 hP hS => ?_)
  obtain ⟨hw_12W, hw_12f⟩ := hw_12
  refine lv_pop hx hb dL_law_1277 rfl ?_
  refine lv_goto (tgt := 2069) hx hb dL_law_1278 (by decide) ?_
  exact kk K g_10 _ _ ls hKO hR hw_12W hP hS hl

theorem dL_law_1281 : decode cL_law 1281 = .ok (.aload_n 1, 1) := by decide +kernel
theorem dL_law_1282 : decode cL_law 1282 = .ok (.aload_n 0, 1) := by decide +kernel
theorem dL_law_1283 : decode cL_law 1283 = .ok (.iload_n 3, 1) := by decide +kernel
theorem dL_law_1284 : decode cL_law 1284 = .ok (.iconst 1, 1) := by decide +kernel
theorem dL_law_1285 : decode cL_law 1285 = .ok (.iadd, 1) := by decide +kernel
theorem dL_law_1286 : decode cL_law 1286 = .ok (.iaload, 1) := by decide +kernel
theorem dL_law_1287 : decode cL_law 1287 = .ok (.invokevirtual 166, 3) := by decide +kernel
theorem dL_law_1290 : decode cL_law 1290 = .ok (.pop, 1) := by decide +kernel
theorem dL_law_1291 : decode cL_law 1291 = .ok (.aload_n 2, 1) := by decide +kernel
theorem dL_law_1292 : decode cL_law 1292 = .ok (.aload_n 0, 1) := by decide +kernel
theorem dL_law_1293 : decode cL_law 1293 = .ok (.iload_n 3, 1) := by decide +kernel
theorem dL_law_1294 : decode cL_law 1294 = .ok (.iconst 1, 1) := by decide +kernel
theorem dL_law_1295 : decode cL_law 1295 = .ok (.iadd, 1) := by decide +kernel
theorem dL_law_1296 : decode cL_law 1296 = .ok (.iaload, 1) := by decide +kernel
theorem dL_law_1297 : decode cL_law 1297 = .ok (.invokevirtual 169, 3) := by decide +kernel
theorem dL_law_1300 : decode cL_law 1300 = .ok (.pop, 1) := by decide +kernel
theorem dL_law_1301 : decode cL_law 1301 = .ok (.goto 768, 3) := by decide +kernel
set_option maxRecDepth 20000 in
theorem mT_X11_calm : wIn lw_tbl vX11_calm := wIn.cons (List.mem_of_getElem? (i := 1003) (by decide +kernel)) (wIn.app (wIn.r _ [486, 212, 955, 957, 23, 98, 493, 491, 1004, 989, 990, 104] (by decide +kernel)) (wIn.app iT_11 (wIn.app iT_6 (wIn.app mT_X11_refusal mT_X3_fits))))
theorem gL_X11_calm : GoodIn lw_tbl (wsV RL 166 RX11 yX11_calm vX11_calm) := goodIn_app (goodIn_r _ [1000, 1001, 1002, 98] (by decide +kernel) (by decide +kernel)) (fun w h => ⟨mT_X11_calm w h, gs_X11_calm w h⟩)
set_option maxRecDepth 20000 in
theorem mT_X12_calm : wIn lw_tbl vX12_calm := wIn.cons (List.mem_of_getElem? (i := 1754) (by decide +kernel)) (wIn.app (wIn.r _ [1262, 1730, 1732, 80, 110, 1540, 1542, 61, 1743, 1745, 82] (by decide +kernel)) (wIn.app iT_12 (wIn.app mT_X12_asksSeen (wIn.app mT_X12_layAll mT_X12_isSeen))))
theorem gL_X12_calm : GoodIn lw_tbl (wsV RL 169 RX12 yX12_calm vX12_calm) := goodIn_app (goodIn_r _ [1751, 1752, 1753, 110] (by decide +kernel) (by decide +kernel)) (fun w h => ⟨mT_X12_calm w h, gs_X12_calm w h⟩)
set_option maxHeartbeats 8000000 in
set_option maxRecDepth 100000 in
theorem law_c37 {p : Program} {e : Env} {s : State} {m : MethodId} {below : List Frame} {meth : Method} {c : Code} (l : Launch) {b L : Nat} {xs : Nat → Int32} {D : va_G} {cs : Nat → ClassId} {ad : Nat → Nat} {kS : kSt} {K : sK} {g : Nat → va_E} {H : Heap} {locs : List Loc} (hL : L ≤ 3072) (C0 : lw_At p s m meth c b L xs) (X : CxL p s m b meth c D cs) (Z : SX ad kS s s.heap) (hj : wJ ad 218) (hA : ∀ i, i < 218 → AL s (ad i)) (hKO : KO K) (hR : KR K) (hW : WF (shp ad K) ad cs g) (hP : va_P D vwCl (wL ad g 218) H) (hS : va_S (AL s) s.heap H locs) (ls : Array Slot) (ii : Int32) (hi0 : 0 ≤ ii.toInt) (hi1 : ii.toInt + 6 ≤ L) (hl : lv_has ls 4 [(3, .int ii), (2, .ref (ad 197)), (1, .ref (ad 0)), (0, .ref b)]) (kk : ∀ (K : sK) (g : Nat → va_E) (H : Heap) (locs : List Loc) (ls : Array Slot), KO K → KR K → WF (shp ad K) ad cs g → va_P D vwCl (wL ad g 218) H → va_S (AL s) s.heap H locs → lv_has ls 4 [(3, .int ii), (2, .ref (ad 197)), (1, .ref (ad 0)), (0, .ref b)] → W p l e room_1 s m #[Value.ref b] below meth c H locs 218 6259 (lw_Z below #[Value.ref b] s) (F0 m 2069 ls [])) : W p l e room_1 s m #[Value.ref b] below meth c H locs 218 6259 (lw_Z below #[Value.ref b] s) (F0 m 1281 ls []) := by
  have hx := X.1
  have hb : c.code = cL_law := X.2.1
  obtain ⟨-, -, -, -, -, -, hX, hbl, -, -⟩ := id C0
  have hbA : ¬ AL s b := Nat.not_le.mpr hbl
  refine lv_aload_n hx hb dL_law_1281 rfl (lv_at hl 2 rfl) ?_
  refine lv_aload_n hx hb dL_law_1282 rfl (lv_at hl 3 rfl) ?_
  refine lv_iload_n hx hb dL_law_1283 rfl (lv_at hl 0 rfl) ?_
  refine lv_iconst (v := 1) hx hb dL_law_1284 (by decide) ?_
  refine lv_iadd hx hb dL_law_1285 ?_
  refine lv_topi (fun z_1 ez_1 => ?_)
  have hz_1 : z_1.toInt = ii.toInt + 1 := n_add rfl (by decide : (1 : Int32).toInt = 1) ez_1 (by omega) (by omega)
  refine va_sld hx hb hX hbl hbA hS (i := z_1) (n_in (rfl : z_1.toInt = z_1.toInt) (by omega) (by omega)) dL_law_1286 ?_
  refine lv_topi (fun x_2 ex_2 => ?_)
  obtain ⟨fso_3, hgo_3, -⟩ := hW.obj (i := 0) (by decide) (sh_0 ad _)
  refine s_calli (q := (RX11, TX11, 14)) (As := [.int x_2]) (rest := []) X Z (s_X11_calm l D cs ad kS K hKO hj g hW x_2) (cwV 1 X.2.2.2.2.1 gL_X11_calm rfl rfl rfl (by decide +kernel) ⟨Nat.le_of_ble_eq_true rfl, Nat.le_of_ble_eq_true rfl⟩) (by decide) hgo_3 rfl hP hA (fun a h _ => hS.2.1 a h (Nat.not_le.mpr h)) hS rfl hl.1 rfl (Nat.le_of_ble_eq_true rfl) dL_law_1287 ⟨Nat.le_of_ble_eq_true rfl, Nat.le_of_ble_eq_true rfl⟩ (fun r_5 g_4 H locs hw_6 hP hS => ?_)
  obtain ⟨hw_6W, hw_6f⟩ := hw_6
  refine lv_pop hx hb dL_law_1290 rfl ?_
  refine lv_aload_n hx hb dL_law_1291 rfl (lv_at hl 1 rfl) ?_
  refine lv_aload_n hx hb dL_law_1292 rfl (lv_at hl 3 rfl) ?_
  refine lv_iload_n hx hb dL_law_1293 rfl (lv_at hl 0 rfl) ?_
  refine lv_iconst (v := 1) hx hb dL_law_1294 (by decide) ?_
  refine lv_iadd hx hb dL_law_1295 ?_
  refine lv_topi (fun z_7 ez_7 => ?_)
  have hz_7 : z_7.toInt = ii.toInt + 1 := n_add rfl (by decide : (1 : Int32).toInt = 1) ez_7 (by omega) (by omega)
  refine va_sld hx hb hX hbl hbA hS (i := z_7) (n_in (rfl : z_7.toInt = z_7.toInt) (by omega) (by omega)) dL_law_1296 ?_
  refine lv_topi (fun x_8 ex_8 => ?_)
  obtain rfl : x_2 = x_8 := by rw [ex_2, ex_8, ez_1, ez_7]
  obtain ⟨fso_9, hgo_9, -⟩ := hw_6W.obj (i := 197) (by decide) (sh_197 ad _)
  refine s_calli (q := (RX12, TX12, 40)) (As := [.int x_2]) (rest := []) X Z (s_X12_calm l D cs ad kS K hKO hj g_4 hw_6W x_2) (cwV 1 X.2.2.2.2.1 gL_X12_calm rfl rfl rfl (by decide +kernel) ⟨Nat.le_of_ble_eq_true rfl, Nat.le_of_ble_eq_true rfl⟩) (by decide) hgo_9 rfl hP hA (fun a h _ => hS.2.1 a h (Nat.not_le.mpr h)) hS rfl hl.1 rfl (Nat.le_of_ble_eq_true rfl) dL_law_1297 ⟨Nat.le_of_ble_eq_true rfl, Nat.le_of_ble_eq_true rfl⟩ (fun r_11 g_10 H locs hw_12 hP hS => ?_)
  obtain ⟨hw_12W, hw_12f⟩ := hw_12
  refine lv_pop hx hb dL_law_1300 rfl ?_
  refine lv_goto (tgt := 2069) hx hb dL_law_1301 (by decide) ?_
  exact kk K g_10 _ _ ls hKO hR hw_12W hP hS hl

theorem dL_law_1304 : decode cL_law 1304 = .ok (.aload_n 1, 1) := by decide +kernel
theorem dL_law_1305 : decode cL_law 1305 = .ok (.aload_n 0, 1) := by decide +kernel
theorem dL_law_1306 : decode cL_law 1306 = .ok (.iload_n 3, 1) := by decide +kernel
theorem dL_law_1307 : decode cL_law 1307 = .ok (.iconst 1, 1) := by decide +kernel
theorem dL_law_1308 : decode cL_law 1308 = .ok (.iadd, 1) := by decide +kernel
theorem dL_law_1309 : decode cL_law 1309 = .ok (.iaload, 1) := by decide +kernel
theorem dL_law_1310 : decode cL_law 1310 = .ok (.invokevirtual 170, 3) := by decide +kernel
theorem dL_law_1313 : decode cL_law 1313 = .ok (.pop, 1) := by decide +kernel
theorem dL_law_1314 : decode cL_law 1314 = .ok (.aload_n 2, 1) := by decide +kernel
theorem dL_law_1315 : decode cL_law 1315 = .ok (.aload_n 0, 1) := by decide +kernel
theorem dL_law_1316 : decode cL_law 1316 = .ok (.iload_n 3, 1) := by decide +kernel
theorem dL_law_1317 : decode cL_law 1317 = .ok (.iconst 1, 1) := by decide +kernel
theorem dL_law_1318 : decode cL_law 1318 = .ok (.iadd, 1) := by decide +kernel
theorem dL_law_1319 : decode cL_law 1319 = .ok (.iaload, 1) := by decide +kernel
theorem dL_law_1320 : decode cL_law 1320 = .ok (.invokevirtual 173, 3) := by decide +kernel
theorem dL_law_1323 : decode cL_law 1323 = .ok (.pop, 1) := by decide +kernel
theorem dL_law_1324 : decode cL_law 1324 = .ok (.goto 745, 3) := by decide +kernel
set_option maxRecDepth 20000 in
theorem mT_X4_bestQuestion : wIn lw_tbl vX4_bestQuestion := wIn.cons (List.mem_of_getElem? (i := 1012) (by decide +kernel)) (wIn.app (wIn.r _ [386, 223, 208, 390, 1013, 783, 115, 784] (by decide +kernel)) (wIn.app iT_4 iT_6))
set_option maxRecDepth 20000 in
theorem mT_X11_ask : wIn lw_tbl vX11_ask := wIn.cons (List.mem_of_getElem? (i := 1008) (by decide +kernel)) (wIn.app (wIn.r _ [486, 212, 955, 957, 23, 98, 494, 492, 493, 974, 975, 976, 105, 1009, 1010, 1011] (by decide +kernel)) (wIn.app iT_11 (wIn.app iT_6 (wIn.app mT_X11_refusal (wIn.app mT_X4_search mT_X4_bestQuestion)))))
theorem gL_X11_ask : GoodIn lw_tbl (wsV RL 170 RX11 yX11_ask vX11_ask) := goodIn_app (goodIn_r _ [1005, 1006, 1007, 98] (by decide +kernel) (by decide +kernel)) (fun w h => ⟨mT_X11_ask w h, gs_X11_ask w h⟩)
set_option maxRecDepth 20000 in
theorem mT_X12_ask : wIn lw_tbl vX12_ask := wIn.cons (List.mem_of_getElem? (i := 1758) (by decide +kernel)) (wIn.app (wIn.r _ [1726, 1728, 79, 110, 1283, 1262, 1278, 1282, 1571, 783, 115, 784] (by decide +kernel)) (wIn.app iT_12 mT_X12_laySlams))
theorem gL_X12_ask : GoodIn lw_tbl (wsV RL 173 RX12 yX12_ask vX12_ask) := goodIn_app (goodIn_r _ [1755, 1756, 1757, 110] (by decide +kernel) (by decide +kernel)) (fun w h => ⟨mT_X12_ask w h, gs_X12_ask w h⟩)
set_option maxHeartbeats 8000000 in
set_option maxRecDepth 100000 in
theorem law_c38 {p : Program} {e : Env} {s : State} {m : MethodId} {below : List Frame} {meth : Method} {c : Code} (l : Launch) {b L : Nat} {xs : Nat → Int32} {D : va_G} {cs : Nat → ClassId} {ad : Nat → Nat} {kS : kSt} {K : sK} {g : Nat → va_E} {H : Heap} {locs : List Loc} (hL : L ≤ 3072) (C0 : lw_At p s m meth c b L xs) (X : CxL p s m b meth c D cs) (Z : SX ad kS s s.heap) (hj : wJ ad 218) (hA : ∀ i, i < 218 → AL s (ad i)) (hKO : KO K) (hR : KR K) (hW : WF (shp ad K) ad cs g) (hP : va_P D vwCl (wL ad g 218) H) (hS : va_S (AL s) s.heap H locs) (ls : Array Slot) (ii : Int32) (hi0 : 0 ≤ ii.toInt) (hi1 : ii.toInt + 6 ≤ L) (hl : lv_has ls 4 [(3, .int ii), (2, .ref (ad 197)), (1, .ref (ad 0)), (0, .ref b)]) (kk : ∀ (K : sK) (g : Nat → va_E) (H : Heap) (locs : List Loc) (ls : Array Slot), KO K → KR K → WF (shp ad K) ad cs g → va_P D vwCl (wL ad g 218) H → va_S (AL s) s.heap H locs → lv_has ls 4 [(3, .int ii), (2, .ref (ad 197)), (1, .ref (ad 0)), (0, .ref b)] → W p l e room_1 s m #[Value.ref b] below meth c H locs 218 6259 (lw_Z below #[Value.ref b] s) (F0 m 2069 ls [])) : W p l e room_1 s m #[Value.ref b] below meth c H locs 218 6259 (lw_Z below #[Value.ref b] s) (F0 m 1304 ls []) := by
  have hx := X.1
  have hb : c.code = cL_law := X.2.1
  obtain ⟨-, -, -, -, -, -, hX, hbl, -, -⟩ := id C0
  have hbA : ¬ AL s b := Nat.not_le.mpr hbl
  refine lv_aload_n hx hb dL_law_1304 rfl (lv_at hl 2 rfl) ?_
  refine lv_aload_n hx hb dL_law_1305 rfl (lv_at hl 3 rfl) ?_
  refine lv_iload_n hx hb dL_law_1306 rfl (lv_at hl 0 rfl) ?_
  refine lv_iconst (v := 1) hx hb dL_law_1307 (by decide) ?_
  refine lv_iadd hx hb dL_law_1308 ?_
  refine lv_topi (fun z_1 ez_1 => ?_)
  have hz_1 : z_1.toInt = ii.toInt + 1 := n_add rfl (by decide : (1 : Int32).toInt = 1) ez_1 (by omega) (by omega)
  refine va_sld hx hb hX hbl hbA hS (i := z_1) (n_in (rfl : z_1.toInt = z_1.toInt) (by omega) (by omega)) dL_law_1309 ?_
  refine lv_topi (fun x_2 ex_2 => ?_)
  obtain ⟨fso_3, hgo_3, -⟩ := hW.obj (i := 0) (by decide) (sh_0 ad _)
  refine s_calli (q := (RX11, TX11, 14)) (As := [.int x_2]) (rest := []) X Z (s_X11_ask l D cs ad kS K hKO hj g hW x_2) (cwV 1 X.2.2.2.2.1 gL_X11_ask rfl rfl rfl (by decide +kernel) ⟨Nat.le_of_ble_eq_true rfl, Nat.le_of_ble_eq_true rfl⟩) (by decide) hgo_3 rfl hP hA (fun a h _ => hS.2.1 a h (Nat.not_le.mpr h)) hS rfl hl.1 rfl (Nat.le_of_ble_eq_true rfl) dL_law_1310 ⟨Nat.le_of_ble_eq_true rfl, Nat.le_of_ble_eq_true rfl⟩ (fun r_5 g_4 H locs hw_6 hP hS => ?_)
  obtain ⟨hw_6W, hw_6f⟩ := hw_6
  refine lv_pop hx hb dL_law_1313 rfl ?_
  refine lv_aload_n hx hb dL_law_1314 rfl (lv_at hl 1 rfl) ?_
  refine lv_aload_n hx hb dL_law_1315 rfl (lv_at hl 3 rfl) ?_
  refine lv_iload_n hx hb dL_law_1316 rfl (lv_at hl 0 rfl) ?_
  refine lv_iconst (v := 1) hx hb dL_law_1317 (by decide) ?_
  refine lv_iadd hx hb dL_law_1318 ?_
  refine lv_topi (fun z_7 ez_7 => ?_)
  have hz_7 : z_7.toInt = ii.toInt + 1 := n_add rfl (by decide : (1 : Int32).toInt = 1) ez_7 (by omega) (by omega)
  refine va_sld hx hb hX hbl hbA hS (i := z_7) (n_in (rfl : z_7.toInt = z_7.toInt) (by omega) (by omega)) dL_law_1319 ?_
  refine lv_topi (fun x_8 ex_8 => ?_)
  obtain rfl : x_2 = x_8 := by rw [ex_2, ex_8, ez_1, ez_7]
  obtain ⟨fso_9, hgo_9, -⟩ := hw_6W.obj (i := 197) (by decide) (sh_197 ad _)
  refine s_calli (q := (RX12, TX12, 40)) (As := [.int x_2]) (rest := []) X Z (s_X12_ask l D cs ad kS K hKO hj g_4 hw_6W x_2) (cwV 1 X.2.2.2.2.1 gL_X12_ask rfl rfl rfl (by decide +kernel) ⟨Nat.le_of_ble_eq_true rfl, Nat.le_of_ble_eq_true rfl⟩) (by decide) hgo_9 rfl hP hA (fun a h _ => hS.2.1 a h (Nat.not_le.mpr h)) hS rfl hl.1 rfl (Nat.le_of_ble_eq_true rfl) dL_law_1320 ⟨Nat.le_of_ble_eq_true rfl, Nat.le_of_ble_eq_true rfl⟩ (fun r_11 g_10 H locs hw_12 hP hS => ?_)
  obtain ⟨hw_12W, hw_12f⟩ := hw_12
  refine lv_pop hx hb dL_law_1323 rfl ?_
  refine lv_goto (tgt := 2069) hx hb dL_law_1324 (by decide) ?_
  exact kk K g_10 _ _ ls hKO hR hw_12W hP hS hl

theorem dL_law_1327 : decode cL_law 1327 = .ok (.aload_n 1, 1) := by decide +kernel
theorem dL_law_1328 : decode cL_law 1328 = .ok (.aload_n 0, 1) := by decide +kernel
theorem dL_law_1329 : decode cL_law 1329 = .ok (.iload_n 3, 1) := by decide +kernel
theorem dL_law_1330 : decode cL_law 1330 = .ok (.iconst 1, 1) := by decide +kernel
theorem dL_law_1331 : decode cL_law 1331 = .ok (.iadd, 1) := by decide +kernel
theorem dL_law_1332 : decode cL_law 1332 = .ok (.iaload, 1) := by decide +kernel
theorem dL_law_1333 : decode cL_law 1333 = .ok (.aload_n 0, 1) := by decide +kernel
theorem dL_law_1334 : decode cL_law 1334 = .ok (.iload_n 3, 1) := by decide +kernel
theorem dL_law_1335 : decode cL_law 1335 = .ok (.iconst 2, 1) := by decide +kernel
theorem dL_law_1336 : decode cL_law 1336 = .ok (.iadd, 1) := by decide +kernel
theorem dL_law_1337 : decode cL_law 1337 = .ok (.iaload, 1) := by decide +kernel
theorem dL_law_1338 : decode cL_law 1338 = .ok (.invokevirtual 174, 3) := by decide +kernel
theorem dL_law_1341 : decode cL_law 1341 = .ok (.pop, 1) := by decide +kernel
theorem dL_law_1342 : decode cL_law 1342 = .ok (.aload_n 2, 1) := by decide +kernel
theorem dL_law_1343 : decode cL_law 1343 = .ok (.aload_n 0, 1) := by decide +kernel
theorem dL_law_1344 : decode cL_law 1344 = .ok (.iload_n 3, 1) := by decide +kernel
theorem dL_law_1345 : decode cL_law 1345 = .ok (.iconst 1, 1) := by decide +kernel
theorem dL_law_1346 : decode cL_law 1346 = .ok (.iadd, 1) := by decide +kernel
theorem dL_law_1347 : decode cL_law 1347 = .ok (.iaload, 1) := by decide +kernel
theorem dL_law_1348 : decode cL_law 1348 = .ok (.aload_n 0, 1) := by decide +kernel
theorem dL_law_1349 : decode cL_law 1349 = .ok (.iload_n 3, 1) := by decide +kernel
theorem dL_law_1350 : decode cL_law 1350 = .ok (.iconst 2, 1) := by decide +kernel
theorem dL_law_1351 : decode cL_law 1351 = .ok (.iadd, 1) := by decide +kernel
theorem dL_law_1352 : decode cL_law 1352 = .ok (.iaload, 1) := by decide +kernel
theorem dL_law_1353 : decode cL_law 1353 = .ok (.invokevirtual 177, 3) := by decide +kernel
theorem dL_law_1356 : decode cL_law 1356 = .ok (.pop, 1) := by decide +kernel
theorem dL_law_1357 : decode cL_law 1357 = .ok (.goto 712, 3) := by decide +kernel
set_option maxRecDepth 20000 in
theorem mT_X11_weatherRefusal : wIn lw_tbl vX11_weatherRefusal := wIn.cons (List.mem_of_getElem? (i := 1021) (by decide +kernel)) (wIn.app (wIn.r _ [486, 212, 860, 650, 115, 651, 955, 957, 23, 98] (by decide +kernel)) (wIn.app iT_11 (wIn.app iT_6 mT_X11_refusal)))
set_option maxRecDepth 20000 in
theorem mT_X9_sumNeeded : wIn lw_tbl vX9_sumNeeded := wIn.cons (List.mem_of_getElem? (i := 1030) (by decide +kernel)) (wIn.app (wIn.r _ [242, 248, 256] (by decide +kernel)) iT_6)
set_option maxRecDepth 20000 in
theorem mT_X9_bound : wIn lw_tbl vX9_bound := wIn.cons (List.mem_of_getElem? (i := 1034) (by decide +kernel)) (wIn.app (wIn.r _ [408, 406, 1026, 650, 115, 651, 405, 1027, 783, 784] (by decide +kernel)) iT_9)
set_option maxRecDepth 20000 in
theorem mT_X9_goingsBy : wIn lw_tbl vX9_goingsBy := wIn.cons (List.mem_of_getElem? (i := 1043) (by decide +kernel)) (wIn.app (wIn.r _ [405, 406, 407] (by decide +kernel)) iT_9)
set_option maxRecDepth 20000 in
theorem mT_X9_countGoings : wIn lw_tbl vX9_countGoings := wIn.cons (List.mem_of_getElem? (i := 1038) (by decide +kernel)) (wIn.app (wIn.r _ [407, 408, 1039, 967, 118, 1040, 1042, 30, 106] (by decide +kernel)) (wIn.app iT_9 (wIn.app mT_J7_fill_53178 mT_X9_goingsBy)))
set_option maxRecDepth 20000 in
theorem mT_X9_search : wIn lw_tbl vX9_search := wIn.cons (List.mem_of_getElem? (i := 1025) (by decide +kernel)) (wIn.app (wIn.r _ [1026, 650, 115, 651, 1027, 783, 784, 408, 405, 406, 221, 371, 1028, 1029, 106, 1031, 1033, 28, 373, 1035, 1037, 29] (by decide +kernel)) (wIn.app iT_9 (wIn.app iT_6 (wIn.app iT_3 (wIn.app mT_X9_sumNeeded (wIn.app mT_X9_bound mT_X9_countGoings))))))
set_option maxRecDepth 20000 in
theorem mT_X9_fitting : wIn lw_tbl vX9_fitting := wIn.cons (List.mem_of_getElem? (i := 1047) (by decide +kernel)) (wIn.app (wIn.r _ [407] (by decide +kernel)) iT_9)
set_option maxRecDepth 20000 in
theorem mT_X11_weathers : wIn lw_tbl vX11_weathers := wIn.cons (List.mem_of_getElem? (i := 1017) (by decide +kernel)) (wIn.app (wIn.r _ [1018, 1020, 27, 98, 495, 486, 493, 1022, 1023, 1024, 106, 1044, 1045, 1046] (by decide +kernel)) (wIn.app iT_11 (wIn.app mT_X11_weatherRefusal (wIn.app mT_X9_search mT_X9_fitting))))
theorem gL_X11_weathers : GoodIn lw_tbl (wsV RL 174 RX11 yX11_weathers vX11_weathers) := goodIn_app (goodIn_r _ [1014, 1015, 1016, 98] (by decide +kernel) (by decide +kernel)) (fun w h => ⟨mT_X11_weathers w h, gs_X11_weathers w h⟩)
set_option maxRecDepth 20000 in
theorem mT_X12_thawIn : wIn lw_tbl vX12_thawIn := wIn.cons (List.mem_of_getElem? (i := 1770) (by decide +kernel)) (wIn.r _ [] (by decide +kernel))
set_option maxRecDepth 20000 in
theorem mT_X12_layWeathers : wIn lw_tbl vX12_layWeathers := wIn.cons (List.mem_of_getElem? (i := 1766) (by decide +kernel)) (wIn.app (wIn.r _ [1767, 1387, 1388, 110, 1730, 1732, 80, 1284, 1285, 1668, 1286, 1287, 1278, 1768, 1769, 1276, 1505, 1507, 57, 1509, 1510, 1551, 1553, 63, 1743, 1745, 82, 1423, 650, 115, 651, 1571, 783, 784] (by decide +kernel)) (wIn.app iT_12 (wIn.app mT_X12_in (wIn.app mT_X12_asksSeen (wIn.app mT_X12_thawIn (wIn.app mT_X12_sunOf (wIn.app mT_X12_meltBy (wIn.app mT_X12_layFalls mT_X12_isSeen))))))))
set_option maxRecDepth 20000 in
theorem mT_X12_weathers : wIn lw_tbl vX12_weathers := wIn.cons (List.mem_of_getElem? (i := 1762) (by decide +kernel)) (wIn.app (wIn.r _ [1763, 1765, 83, 110, 1284] (by decide +kernel)) (wIn.app iT_12 mT_X12_layWeathers))
theorem gL_X12_weathers : GoodIn lw_tbl (wsV RL 177 RX12 yX12_weathers vX12_weathers) := goodIn_app (goodIn_r _ [1759, 1760, 1761, 110] (by decide +kernel) (by decide +kernel)) (fun w h => ⟨mT_X12_weathers w h, gs_X12_weathers w h⟩)
set_option maxHeartbeats 8000000 in
set_option maxRecDepth 100000 in
theorem law_c39 {p : Program} {e : Env} {s : State} {m : MethodId} {below : List Frame} {meth : Method} {c : Code} (l : Launch) {b L : Nat} {xs : Nat → Int32} {D : va_G} {cs : Nat → ClassId} {ad : Nat → Nat} {kS : kSt} {K : sK} {g : Nat → va_E} {H : Heap} {locs : List Loc} (hL : L ≤ 3072) (C0 : lw_At p s m meth c b L xs) (X : CxL p s m b meth c D cs) (Z : SX ad kS s s.heap) (hj : wJ ad 218) (hA : ∀ i, i < 218 → AL s (ad i)) (hKO : KO K) (hR : KR K) (hW : WF (shp ad K) ad cs g) (hP : va_P D vwCl (wL ad g 218) H) (hS : va_S (AL s) s.heap H locs) (ls : Array Slot) (ii : Int32) (hi0 : 0 ≤ ii.toInt) (hi1 : ii.toInt + 6 ≤ L) (hl : lv_has ls 4 [(3, .int ii), (2, .ref (ad 197)), (1, .ref (ad 0)), (0, .ref b)]) (kk : ∀ (K : sK) (g : Nat → va_E) (H : Heap) (locs : List Loc) (ls : Array Slot), KO K → KR K → WF (shp ad K) ad cs g → va_P D vwCl (wL ad g 218) H → va_S (AL s) s.heap H locs → lv_has ls 4 [(3, .int ii), (2, .ref (ad 197)), (1, .ref (ad 0)), (0, .ref b)] → W p l e room_1 s m #[Value.ref b] below meth c H locs 218 6259 (lw_Z below #[Value.ref b] s) (F0 m 2069 ls [])) : W p l e room_1 s m #[Value.ref b] below meth c H locs 218 6259 (lw_Z below #[Value.ref b] s) (F0 m 1327 ls []) := by
  have hx := X.1
  have hb : c.code = cL_law := X.2.1
  obtain ⟨-, -, -, -, -, -, hX, hbl, -, -⟩ := id C0
  have hbA : ¬ AL s b := Nat.not_le.mpr hbl
  refine lv_aload_n hx hb dL_law_1327 rfl (lv_at hl 2 rfl) ?_
  refine lv_aload_n hx hb dL_law_1328 rfl (lv_at hl 3 rfl) ?_
  refine lv_iload_n hx hb dL_law_1329 rfl (lv_at hl 0 rfl) ?_
  refine lv_iconst (v := 1) hx hb dL_law_1330 (by decide) ?_
  refine lv_iadd hx hb dL_law_1331 ?_
  refine lv_topi (fun z_1 ez_1 => ?_)
  have hz_1 : z_1.toInt = ii.toInt + 1 := n_add rfl (by decide : (1 : Int32).toInt = 1) ez_1 (by omega) (by omega)
  refine va_sld hx hb hX hbl hbA hS (i := z_1) (n_in (rfl : z_1.toInt = z_1.toInt) (by omega) (by omega)) dL_law_1332 ?_
  refine lv_topi (fun x_2 ex_2 => ?_)
  refine lv_aload_n hx hb dL_law_1333 rfl (lv_at hl 3 rfl) ?_
  refine lv_iload_n hx hb dL_law_1334 rfl (lv_at hl 0 rfl) ?_
  refine lv_iconst (v := 2) hx hb dL_law_1335 (by decide) ?_
  refine lv_iadd hx hb dL_law_1336 ?_
  refine lv_topi (fun z_3 ez_3 => ?_)
  have hz_3 : z_3.toInt = ii.toInt + 2 := n_add rfl (by decide : (2 : Int32).toInt = 2) ez_3 (by omega) (by omega)
  refine va_sld hx hb hX hbl hbA hS (i := z_3) (n_in (rfl : z_3.toInt = z_3.toInt) (by omega) (by omega)) dL_law_1337 ?_
  refine lv_topi (fun x_4 ex_4 => ?_)
  obtain ⟨fso_5, hgo_5, -⟩ := hW.obj (i := 0) (by decide) (sh_0 ad _)
  refine s_calli (q := (RX11, TX11, 14)) (As := [.int x_2, .int x_4]) (rest := []) X Z (s_X11_weathers l D cs ad kS K hKO hj g hW x_2 x_4) (cwV 2 X.2.2.2.2.1 gL_X11_weathers rfl rfl rfl (by decide +kernel) ⟨Nat.le_of_ble_eq_true rfl, Nat.le_of_ble_eq_true rfl⟩) (by decide) hgo_5 rfl hP hA (fun a h _ => hS.2.1 a h (Nat.not_le.mpr h)) hS rfl hl.1 rfl (Nat.le_of_ble_eq_true rfl) dL_law_1338 ⟨Nat.le_of_ble_eq_true rfl, Nat.le_of_ble_eq_true rfl⟩ (fun r_7 g_6 H locs hw_8 hP hS => ?_)
  obtain ⟨hw_8W, hw_8f⟩ := hw_8
  refine lv_pop hx hb dL_law_1341 rfl ?_
  refine lv_aload_n hx hb dL_law_1342 rfl (lv_at hl 1 rfl) ?_
  refine lv_aload_n hx hb dL_law_1343 rfl (lv_at hl 3 rfl) ?_
  refine lv_iload_n hx hb dL_law_1344 rfl (lv_at hl 0 rfl) ?_
  refine lv_iconst (v := 1) hx hb dL_law_1345 (by decide) ?_
  refine lv_iadd hx hb dL_law_1346 ?_
  refine lv_topi (fun z_9 ez_9 => ?_)
  have hz_9 : z_9.toInt = ii.toInt + 1 := n_add rfl (by decide : (1 : Int32).toInt = 1) ez_9 (by omega) (by omega)
  refine va_sld hx hb hX hbl hbA hS (i := z_9) (n_in (rfl : z_9.toInt = z_9.toInt) (by omega) (by omega)) dL_law_1347 ?_
  refine lv_topi (fun x_10 ex_10 => ?_)
  obtain rfl : x_2 = x_10 := by rw [ex_2, ex_10, ez_1, ez_9]
  refine lv_aload_n hx hb dL_law_1348 rfl (lv_at hl 3 rfl) ?_
  refine lv_iload_n hx hb dL_law_1349 rfl (lv_at hl 0 rfl) ?_
  refine lv_iconst (v := 2) hx hb dL_law_1350 (by decide) ?_
  refine lv_iadd hx hb dL_law_1351 ?_
  refine lv_topi (fun z_11 ez_11 => ?_)
  have hz_11 : z_11.toInt = ii.toInt + 2 := n_add rfl (by decide : (2 : Int32).toInt = 2) ez_11 (by omega) (by omega)
  refine va_sld hx hb hX hbl hbA hS (i := z_11) (n_in (rfl : z_11.toInt = z_11.toInt) (by omega) (by omega)) dL_law_1352 ?_
  refine lv_topi (fun x_12 ex_12 => ?_)
  obtain rfl : x_4 = x_12 := by rw [ex_4, ex_12, ez_3, ez_11]
  obtain ⟨fso_13, hgo_13, -⟩ := hw_8W.obj (i := 197) (by decide) (sh_197 ad _)
  refine s_calli (q := (RX12, TX12, 40)) (As := [.int x_2, .int x_4]) (rest := []) X Z (s_X12_weathers l D cs ad kS K hKO hj g_6 hw_8W x_2 x_4) (cwV 2 X.2.2.2.2.1 gL_X12_weathers rfl rfl rfl (by decide +kernel) ⟨Nat.le_of_ble_eq_true rfl, Nat.le_of_ble_eq_true rfl⟩) (by decide) hgo_13 rfl hP hA (fun a h _ => hS.2.1 a h (Nat.not_le.mpr h)) hS rfl hl.1 rfl (Nat.le_of_ble_eq_true rfl) dL_law_1353 ⟨Nat.le_of_ble_eq_true rfl, Nat.le_of_ble_eq_true rfl⟩ (fun r_15 g_14 H locs hw_16 hP hS => ?_)
  obtain ⟨hw_16W, hw_16f⟩ := hw_16
  refine lv_pop hx hb dL_law_1356 rfl ?_
  refine lv_goto (tgt := 2069) hx hb dL_law_1357 (by decide) ?_
  exact kk K g_14 _ _ ls hKO hR hw_16W hP hS hl

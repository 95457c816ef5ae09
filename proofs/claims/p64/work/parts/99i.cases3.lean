theorem dL_law_912 : decode cL_law 912 = .ok (.aload_n 1, 1) := by decide +kernel
theorem dL_law_913 : decode cL_law 913 = .ok (.aload_n 0, 1) := by decide +kernel
theorem dL_law_914 : decode cL_law 914 = .ok (.iload_n 3, 1) := by decide +kernel
theorem dL_law_915 : decode cL_law 915 = .ok (.iconst 1, 1) := by decide +kernel
theorem dL_law_916 : decode cL_law 916 = .ok (.iadd, 1) := by decide +kernel
theorem dL_law_917 : decode cL_law 917 = .ok (.iaload, 1) := by decide +kernel
theorem dL_law_918 : decode cL_law 918 = .ok (.aload_n 0, 1) := by decide +kernel
theorem dL_law_919 : decode cL_law 919 = .ok (.iload_n 3, 1) := by decide +kernel
theorem dL_law_920 : decode cL_law 920 = .ok (.iconst 2, 1) := by decide +kernel
theorem dL_law_921 : decode cL_law 921 = .ok (.iadd, 1) := by decide +kernel
theorem dL_law_922 : decode cL_law 922 = .ok (.iaload, 1) := by decide +kernel
theorem dL_law_923 : decode cL_law 923 = .ok (.invokevirtual 113, 3) := by decide +kernel
theorem dL_law_926 : decode cL_law 926 = .ok (.pop, 1) := by decide +kernel
theorem dL_law_927 : decode cL_law 927 = .ok (.aload_n 2, 1) := by decide +kernel
theorem dL_law_928 : decode cL_law 928 = .ok (.aload_n 0, 1) := by decide +kernel
theorem dL_law_929 : decode cL_law 929 = .ok (.iload_n 3, 1) := by decide +kernel
theorem dL_law_930 : decode cL_law 930 = .ok (.iconst 1, 1) := by decide +kernel
theorem dL_law_931 : decode cL_law 931 = .ok (.iadd, 1) := by decide +kernel
theorem dL_law_932 : decode cL_law 932 = .ok (.iaload, 1) := by decide +kernel
theorem dL_law_933 : decode cL_law 933 = .ok (.aload_n 0, 1) := by decide +kernel
theorem dL_law_934 : decode cL_law 934 = .ok (.iload_n 3, 1) := by decide +kernel
theorem dL_law_935 : decode cL_law 935 = .ok (.iconst 2, 1) := by decide +kernel
theorem dL_law_936 : decode cL_law 936 = .ok (.iadd, 1) := by decide +kernel
theorem dL_law_937 : decode cL_law 937 = .ok (.iaload, 1) := by decide +kernel
theorem dL_law_938 : decode cL_law 938 = .ok (.invokevirtual 116, 3) := by decide +kernel
theorem dL_law_941 : decode cL_law 941 = .ok (.pop, 1) := by decide +kernel
theorem dL_law_942 : decode cL_law 942 = .ok (.goto 1127, 3) := by decide +kernel
set_option maxRecDepth 20000 in
theorem mT_X11_leastSize : wIn lw_tbl vX11_leastSize := wIn.cons (List.mem_of_getElem? (i := 898) (by decide +kernel)) (wIn.app (wIn.r _ [491, 486, 250, 781, 706, 707, 103, 782, 783, 115, 784] (by decide +kernel)) (wIn.app iT_11 (wIn.app iT_6 mT_X10_lossOn)))
set_option maxRecDepth 20000 in
theorem mT_X11_mostSize : wIn lw_tbl vX11_mostSize := wIn.cons (List.mem_of_getElem? (i := 902) (by decide +kernel)) (wIn.app (wIn.r _ [491, 486, 250, 773, 774, 775, 103, 860, 650, 115, 651] (by decide +kernel)) (wIn.app iT_11 (wIn.app iT_6 mT_X10_lossThrough)))
set_option maxRecDepth 20000 in
theorem mT_X11_size : wIn lw_tbl vX11_size := wIn.cons (List.mem_of_getElem? (i := 894) (by decide +kernel)) (wIn.app (wIn.r _ [742, 744, 15, 98, 725, 727, 13, 895, 897, 18, 899, 901, 19] (by decide +kernel)) (wIn.app mT_X11_isIcicle (wIn.app mT_X11_isDay (wIn.app mT_X11_leastSize mT_X11_mostSize))))
theorem gL_X11_size : GoodIn lw_tbl (wsV RL 113 RX11 yX11_size vX11_size) := goodIn_app (goodIn_r _ [891, 892, 893, 98] (by decide +kernel) (by decide +kernel)) (fun w h => ⟨mT_X11_size w h, gs_X11_size w h⟩)
set_option maxRecDepth 20000 in
theorem mT_X12_areThen : wIn lw_tbl vX12_areThen := wIn.cons (List.mem_of_getElem? (i := 1659) (by decide +kernel)) (wIn.app (wIn.r _ [1516, 1518, 58, 110, 1489, 1491, 54, 1540, 1542, 61] (by decide +kernel)) (wIn.app mT_X12_isIcicle (wIn.app mT_X12_isDay mT_X12_layAll)))
set_option maxRecDepth 20000 in
theorem mT_X12_size : wIn lw_tbl vX12_size := wIn.cons (List.mem_of_getElem? (i := 1655) (by decide +kernel)) (wIn.app (wIn.r _ [1656, 1658, 73, 110, 1520, 1522, 59, 1555, 1557, 64] (by decide +kernel)) (wIn.app mT_X12_areThen (wIn.app mT_X12_of mT_X12_fallsBy)))
theorem gL_X12_size : GoodIn lw_tbl (wsV RL 116 RX12 yX12_size vX12_size) := goodIn_app (goodIn_r _ [1652, 1653, 1654, 110] (by decide +kernel) (by decide +kernel)) (fun w h => ⟨mT_X12_size w h, gs_X12_size w h⟩)
set_option maxHeartbeats 8000000 in
set_option maxRecDepth 100000 in
theorem law_c24 {p : Program} {e : Env} {s : State} {m : MethodId} {below : List Frame} {meth : Method} {c : Code} (l : Launch) {b L : Nat} {xs : Nat → Int32} {D : va_G} {cs : Nat → ClassId} {ad : Nat → Nat} {kS : kSt} {K : sK} {g : Nat → va_E} {H : Heap} {locs : List Loc} (hL : L ≤ 3072) (C0 : lw_At p s m meth c b L xs) (X : CxL p s m b meth c D cs) (Z : SX ad kS s s.heap) (hj : wJ ad 218) (hA : ∀ i, i < 218 → AL s (ad i)) (hKO : KO K) (hR : KR K) (hW : WF (shp ad K) ad cs g) (hP : va_P D vwCl (wL ad g 218) H) (hS : va_S (AL s) s.heap H locs) (ls : Array Slot) (ii : Int32) (hi0 : 0 ≤ ii.toInt) (hi1 : ii.toInt + 6 ≤ L) (hl : lv_has ls 4 [(3, .int ii), (2, .ref (ad 197)), (1, .ref (ad 0)), (0, .ref b)]) (kk : ∀ (K : sK) (g : Nat → va_E) (H : Heap) (locs : List Loc) (ls : Array Slot), KO K → KR K → WF (shp ad K) ad cs g → va_P D vwCl (wL ad g 218) H → va_S (AL s) s.heap H locs → lv_has ls 4 [(3, .int ii), (2, .ref (ad 197)), (1, .ref (ad 0)), (0, .ref b)] → W p l e room_1 s m #[Value.ref b] below meth c H locs 218 6259 (lw_Z below #[Value.ref b] s) (F0 m 2069 ls [])) : W p l e room_1 s m #[Value.ref b] below meth c H locs 218 6259 (lw_Z below #[Value.ref b] s) (F0 m 912 ls []) := by
  have hx := X.1
  have hb : c.code = cL_law := X.2.1
  obtain ⟨-, -, -, -, -, -, hX, hbl, -, -⟩ := id C0
  have hbA : ¬ AL s b := Nat.not_le.mpr hbl
  refine lv_aload_n hx hb dL_law_912 rfl (lv_at hl 2 rfl) ?_
  refine lv_aload_n hx hb dL_law_913 rfl (lv_at hl 3 rfl) ?_
  refine lv_iload_n hx hb dL_law_914 rfl (lv_at hl 0 rfl) ?_
  refine lv_iconst (v := 1) hx hb dL_law_915 (by decide) ?_
  refine lv_iadd hx hb dL_law_916 ?_
  refine lv_topi (fun z_1 ez_1 => ?_)
  have hz_1 : z_1.toInt = ii.toInt + 1 := n_add rfl (by decide : (1 : Int32).toInt = 1) ez_1 (by omega) (by omega)
  refine va_sld hx hb hX hbl hbA hS (i := z_1) (n_in (rfl : z_1.toInt = z_1.toInt) (by omega) (by omega)) dL_law_917 ?_
  refine lv_topi (fun x_2 ex_2 => ?_)
  refine lv_aload_n hx hb dL_law_918 rfl (lv_at hl 3 rfl) ?_
  refine lv_iload_n hx hb dL_law_919 rfl (lv_at hl 0 rfl) ?_
  refine lv_iconst (v := 2) hx hb dL_law_920 (by decide) ?_
  refine lv_iadd hx hb dL_law_921 ?_
  refine lv_topi (fun z_3 ez_3 => ?_)
  have hz_3 : z_3.toInt = ii.toInt + 2 := n_add rfl (by decide : (2 : Int32).toInt = 2) ez_3 (by omega) (by omega)
  refine va_sld hx hb hX hbl hbA hS (i := z_3) (n_in (rfl : z_3.toInt = z_3.toInt) (by omega) (by omega)) dL_law_922 ?_
  refine lv_topi (fun x_4 ex_4 => ?_)
  obtain ⟨fso_5, hgo_5, -⟩ := hW.obj (i := 0) (by decide) (sh_0 ad _)
  refine s_calli (q := (RX11, TX11, 14)) (As := [.int x_2, .int x_4]) (rest := []) X Z (s_X11_size l D cs ad kS K hKO hj g hW x_2 x_4) (cwV 2 X.2.2.2.2.1 gL_X11_size rfl rfl rfl (by decide +kernel) ⟨Nat.le_of_ble_eq_true rfl, Nat.le_of_ble_eq_true rfl⟩) (by decide) hgo_5 rfl hP hA (fun a h _ => hS.2.1 a h (Nat.not_le.mpr h)) hS rfl hl.1 rfl (Nat.le_of_ble_eq_true rfl) dL_law_923 ⟨Nat.le_of_ble_eq_true rfl, Nat.le_of_ble_eq_true rfl⟩ (fun r_7 g_6 H locs hw_8 hP hS => ?_)
  rw [hw_8] at hP
  refine lv_pop hx hb dL_law_926 rfl ?_
  refine lv_aload_n hx hb dL_law_927 rfl (lv_at hl 1 rfl) ?_
  refine lv_aload_n hx hb dL_law_928 rfl (lv_at hl 3 rfl) ?_
  refine lv_iload_n hx hb dL_law_929 rfl (lv_at hl 0 rfl) ?_
  refine lv_iconst (v := 1) hx hb dL_law_930 (by decide) ?_
  refine lv_iadd hx hb dL_law_931 ?_
  refine lv_topi (fun z_9 ez_9 => ?_)
  have hz_9 : z_9.toInt = ii.toInt + 1 := n_add rfl (by decide : (1 : Int32).toInt = 1) ez_9 (by omega) (by omega)
  refine va_sld hx hb hX hbl hbA hS (i := z_9) (n_in (rfl : z_9.toInt = z_9.toInt) (by omega) (by omega)) dL_law_932 ?_
  refine lv_topi (fun x_10 ex_10 => ?_)
  obtain rfl : x_2 = x_10 := by rw [ex_2, ex_10, ez_1, ez_9]
  refine lv_aload_n hx hb dL_law_933 rfl (lv_at hl 3 rfl) ?_
  refine lv_iload_n hx hb dL_law_934 rfl (lv_at hl 0 rfl) ?_
  refine lv_iconst (v := 2) hx hb dL_law_935 (by decide) ?_
  refine lv_iadd hx hb dL_law_936 ?_
  refine lv_topi (fun z_11 ez_11 => ?_)
  have hz_11 : z_11.toInt = ii.toInt + 2 := n_add rfl (by decide : (2 : Int32).toInt = 2) ez_11 (by omega) (by omega)
  refine va_sld hx hb hX hbl hbA hS (i := z_11) (n_in (rfl : z_11.toInt = z_11.toInt) (by omega) (by omega)) dL_law_937 ?_
  refine lv_topi (fun x_12 ex_12 => ?_)
  obtain rfl : x_4 = x_12 := by rw [ex_4, ex_12, ez_3, ez_11]
  obtain ⟨fso_13, hgo_13, -⟩ := hW.obj (i := 197) (by decide) (sh_197 ad _)
  refine s_calli (q := (RX12, TX12, 40)) (As := [.int x_2, .int x_4]) (rest := []) X Z (s_X12_size l D cs ad kS K hKO hj g hW x_2 x_4) (cwV 2 X.2.2.2.2.1 gL_X12_size rfl rfl rfl (by decide +kernel) ⟨Nat.le_of_ble_eq_true rfl, Nat.le_of_ble_eq_true rfl⟩) (by decide) hgo_13 rfl hP hA (fun a h _ => hS.2.1 a h (Nat.not_le.mpr h)) hS rfl hl.1 rfl (Nat.le_of_ble_eq_true rfl) dL_law_938 ⟨Nat.le_of_ble_eq_true rfl, Nat.le_of_ble_eq_true rfl⟩ (fun r_15 g_14 H locs hw_16 hP hS => ?_)
  obtain ⟨hw_16W, hw_16f⟩ := hw_16
  refine lv_pop hx hb dL_law_941 rfl ?_
  refine lv_goto (tgt := 2069) hx hb dL_law_942 (by decide) ?_
  exact kk K g_14 _ _ ls hKO hR hw_16W hP hS hl

theorem dL_law_945 : decode cL_law 945 = .ok (.aload_n 1, 1) := by decide +kernel
theorem dL_law_946 : decode cL_law 946 = .ok (.aload_n 0, 1) := by decide +kernel
theorem dL_law_947 : decode cL_law 947 = .ok (.iload_n 3, 1) := by decide +kernel
theorem dL_law_948 : decode cL_law 948 = .ok (.iconst 1, 1) := by decide +kernel
theorem dL_law_949 : decode cL_law 949 = .ok (.iadd, 1) := by decide +kernel
theorem dL_law_950 : decode cL_law 950 = .ok (.iaload, 1) := by decide +kernel
theorem dL_law_951 : decode cL_law 951 = .ok (.aload_n 0, 1) := by decide +kernel
theorem dL_law_952 : decode cL_law 952 = .ok (.iload_n 3, 1) := by decide +kernel
theorem dL_law_953 : decode cL_law 953 = .ok (.iconst 2, 1) := by decide +kernel
theorem dL_law_954 : decode cL_law 954 = .ok (.iadd, 1) := by decide +kernel
theorem dL_law_955 : decode cL_law 955 = .ok (.iaload, 1) := by decide +kernel
theorem dL_law_956 : decode cL_law 956 = .ok (.invokevirtual 117, 3) := by decide +kernel
theorem dL_law_959 : decode cL_law 959 = .ok (.pop, 1) := by decide +kernel
theorem dL_law_960 : decode cL_law 960 = .ok (.aload_n 2, 1) := by decide +kernel
theorem dL_law_961 : decode cL_law 961 = .ok (.aload_n 0, 1) := by decide +kernel
theorem dL_law_962 : decode cL_law 962 = .ok (.iload_n 3, 1) := by decide +kernel
theorem dL_law_963 : decode cL_law 963 = .ok (.iconst 1, 1) := by decide +kernel
theorem dL_law_964 : decode cL_law 964 = .ok (.iadd, 1) := by decide +kernel
theorem dL_law_965 : decode cL_law 965 = .ok (.iaload, 1) := by decide +kernel
theorem dL_law_966 : decode cL_law 966 = .ok (.aload_n 0, 1) := by decide +kernel
theorem dL_law_967 : decode cL_law 967 = .ok (.iload_n 3, 1) := by decide +kernel
theorem dL_law_968 : decode cL_law 968 = .ok (.iconst 2, 1) := by decide +kernel
theorem dL_law_969 : decode cL_law 969 = .ok (.iadd, 1) := by decide +kernel
theorem dL_law_970 : decode cL_law 970 = .ok (.iaload, 1) := by decide +kernel
theorem dL_law_971 : decode cL_law 971 = .ok (.invokevirtual 120, 3) := by decide +kernel
theorem dL_law_974 : decode cL_law 974 = .ok (.pop, 1) := by decide +kernel
theorem dL_law_975 : decode cL_law 975 = .ok (.goto 1094, 3) := by decide +kernel
set_option maxRecDepth 20000 in
theorem mT_X11_sizes : wIn lw_tbl vX11_sizes := wIn.cons (List.mem_of_getElem? (i := 906) (by decide +kernel)) (wIn.app (wIn.r _ [742, 744, 15, 98, 725, 727, 13, 899, 901, 19, 895, 897, 18, 782, 783, 115, 784] (by decide +kernel)) (wIn.app mT_X11_isIcicle (wIn.app mT_X11_isDay (wIn.app mT_X11_mostSize mT_X11_leastSize))))
theorem gL_X11_sizes : GoodIn lw_tbl (wsV RL 117 RX11 yX11_sizes vX11_sizes) := goodIn_app (goodIn_r _ [903, 904, 905, 98] (by decide +kernel) (by decide +kernel)) (fun w h => ⟨mT_X11_sizes w h, gs_X11_sizes w h⟩)
set_option maxRecDepth 20000 in
theorem mT_X12_sizes : wIn lw_tbl vX12_sizes := wIn.cons (List.mem_of_getElem? (i := 1663) (by decide +kernel)) (wIn.app (wIn.r _ [1656, 1658, 73, 110, 1520, 1522, 59, 1555, 1557, 64] (by decide +kernel)) (wIn.app mT_X12_areThen (wIn.app mT_X12_of mT_X12_fallsBy)))
theorem gL_X12_sizes : GoodIn lw_tbl (wsV RL 120 RX12 yX12_sizes vX12_sizes) := goodIn_app (goodIn_r _ [1660, 1661, 1662, 110] (by decide +kernel) (by decide +kernel)) (fun w h => ⟨mT_X12_sizes w h, gs_X12_sizes w h⟩)
set_option maxHeartbeats 8000000 in
set_option maxRecDepth 100000 in
theorem law_c25 {p : Program} {e : Env} {s : State} {m : MethodId} {below : List Frame} {meth : Method} {c : Code} (l : Launch) {b L : Nat} {xs : Nat → Int32} {D : va_G} {cs : Nat → ClassId} {ad : Nat → Nat} {kS : kSt} {K : sK} {g : Nat → va_E} {H : Heap} {locs : List Loc} (hL : L ≤ 3072) (C0 : lw_At p s m meth c b L xs) (X : CxL p s m b meth c D cs) (Z : SX ad kS s s.heap) (hj : wJ ad 218) (hA : ∀ i, i < 218 → AL s (ad i)) (hKO : KO K) (hR : KR K) (hW : WF (shp ad K) ad cs g) (hP : va_P D vwCl (wL ad g 218) H) (hS : va_S (AL s) s.heap H locs) (ls : Array Slot) (ii : Int32) (hi0 : 0 ≤ ii.toInt) (hi1 : ii.toInt + 6 ≤ L) (hl : lv_has ls 4 [(3, .int ii), (2, .ref (ad 197)), (1, .ref (ad 0)), (0, .ref b)]) (kk : ∀ (K : sK) (g : Nat → va_E) (H : Heap) (locs : List Loc) (ls : Array Slot), KO K → KR K → WF (shp ad K) ad cs g → va_P D vwCl (wL ad g 218) H → va_S (AL s) s.heap H locs → lv_has ls 4 [(3, .int ii), (2, .ref (ad 197)), (1, .ref (ad 0)), (0, .ref b)] → W p l e room_1 s m #[Value.ref b] below meth c H locs 218 6259 (lw_Z below #[Value.ref b] s) (F0 m 2069 ls [])) : W p l e room_1 s m #[Value.ref b] below meth c H locs 218 6259 (lw_Z below #[Value.ref b] s) (F0 m 945 ls []) := by
  have hx := X.1
  have hb : c.code = cL_law := X.2.1
  obtain ⟨-, -, -, -, -, -, hX, hbl, -, -⟩ := id C0
  have hbA : ¬ AL s b := Nat.not_le.mpr hbl
  refine lv_aload_n hx hb dL_law_945 rfl (lv_at hl 2 rfl) ?_
  refine lv_aload_n hx hb dL_law_946 rfl (lv_at hl 3 rfl) ?_
  refine lv_iload_n hx hb dL_law_947 rfl (lv_at hl 0 rfl) ?_
  refine lv_iconst (v := 1) hx hb dL_law_948 (by decide) ?_
  refine lv_iadd hx hb dL_law_949 ?_
  refine lv_topi (fun z_1 ez_1 => ?_)
  have hz_1 : z_1.toInt = ii.toInt + 1 := n_add rfl (by decide : (1 : Int32).toInt = 1) ez_1 (by omega) (by omega)
  refine va_sld hx hb hX hbl hbA hS (i := z_1) (n_in (rfl : z_1.toInt = z_1.toInt) (by omega) (by omega)) dL_law_950 ?_
  refine lv_topi (fun x_2 ex_2 => ?_)
  refine lv_aload_n hx hb dL_law_951 rfl (lv_at hl 3 rfl) ?_
  refine lv_iload_n hx hb dL_law_952 rfl (lv_at hl 0 rfl) ?_
  refine lv_iconst (v := 2) hx hb dL_law_953 (by decide) ?_
  refine lv_iadd hx hb dL_law_954 ?_
  refine lv_topi (fun z_3 ez_3 => ?_)
  have hz_3 : z_3.toInt = ii.toInt + 2 := n_add rfl (by decide : (2 : Int32).toInt = 2) ez_3 (by omega) (by omega)
  refine va_sld hx hb hX hbl hbA hS (i := z_3) (n_in (rfl : z_3.toInt = z_3.toInt) (by omega) (by omega)) dL_law_955 ?_
  refine lv_topi (fun x_4 ex_4 => ?_)
  obtain ⟨fso_5, hgo_5, -⟩ := hW.obj (i := 0) (by decide) (sh_0 ad _)
  refine s_calli (q := (RX11, TX11, 14)) (As := [.int x_2, .int x_4]) (rest := []) X Z (s_X11_sizes l D cs ad kS K hKO hj g hW x_2 x_4) (cwV 2 X.2.2.2.2.1 gL_X11_sizes rfl rfl rfl (by decide +kernel) ⟨Nat.le_of_ble_eq_true rfl, Nat.le_of_ble_eq_true rfl⟩) (by decide) hgo_5 rfl hP hA (fun a h _ => hS.2.1 a h (Nat.not_le.mpr h)) hS rfl hl.1 rfl (Nat.le_of_ble_eq_true rfl) dL_law_956 ⟨Nat.le_of_ble_eq_true rfl, Nat.le_of_ble_eq_true rfl⟩ (fun r_7 g_6 H locs hw_8 hP hS => ?_)
  rw [hw_8] at hP
  refine lv_pop hx hb dL_law_959 rfl ?_
  refine lv_aload_n hx hb dL_law_960 rfl (lv_at hl 1 rfl) ?_
  refine lv_aload_n hx hb dL_law_961 rfl (lv_at hl 3 rfl) ?_
  refine lv_iload_n hx hb dL_law_962 rfl (lv_at hl 0 rfl) ?_
  refine lv_iconst (v := 1) hx hb dL_law_963 (by decide) ?_
  refine lv_iadd hx hb dL_law_964 ?_
  refine lv_topi (fun z_9 ez_9 => ?_)
  have hz_9 : z_9.toInt = ii.toInt + 1 := n_add rfl (by decide : (1 : Int32).toInt = 1) ez_9 (by omega) (by omega)
  refine va_sld hx hb hX hbl hbA hS (i := z_9) (n_in (rfl : z_9.toInt = z_9.toInt) (by omega) (by omega)) dL_law_965 ?_
  refine lv_topi (fun x_10 ex_10 => ?_)
  obtain rfl : x_2 = x_10 := by rw [ex_2, ex_10, ez_1, ez_9]
  refine lv_aload_n hx hb dL_law_966 rfl (lv_at hl 3 rfl) ?_
  refine lv_iload_n hx hb dL_law_967 rfl (lv_at hl 0 rfl) ?_
  refine lv_iconst (v := 2) hx hb dL_law_968 (by decide) ?_
  refine lv_iadd hx hb dL_law_969 ?_
  refine lv_topi (fun z_11 ez_11 => ?_)
  have hz_11 : z_11.toInt = ii.toInt + 2 := n_add rfl (by decide : (2 : Int32).toInt = 2) ez_11 (by omega) (by omega)
  refine va_sld hx hb hX hbl hbA hS (i := z_11) (n_in (rfl : z_11.toInt = z_11.toInt) (by omega) (by omega)) dL_law_970 ?_
  refine lv_topi (fun x_12 ex_12 => ?_)
  obtain rfl : x_4 = x_12 := by rw [ex_4, ex_12, ez_3, ez_11]
  obtain ⟨fso_13, hgo_13, -⟩ := hW.obj (i := 197) (by decide) (sh_197 ad _)
  refine s_calli (q := (RX12, TX12, 40)) (As := [.int x_2, .int x_4]) (rest := []) X Z (s_X12_sizes l D cs ad kS K hKO hj g hW x_2 x_4) (cwV 2 X.2.2.2.2.1 gL_X12_sizes rfl rfl rfl (by decide +kernel) ⟨Nat.le_of_ble_eq_true rfl, Nat.le_of_ble_eq_true rfl⟩) (by decide) hgo_13 rfl hP hA (fun a h _ => hS.2.1 a h (Nat.not_le.mpr h)) hS rfl hl.1 rfl (Nat.le_of_ble_eq_true rfl) dL_law_971 ⟨Nat.le_of_ble_eq_true rfl, Nat.le_of_ble_eq_true rfl⟩ (fun r_15 g_14 H locs hw_16 hP hS => ?_)
  obtain ⟨hw_16W, hw_16f⟩ := hw_16
  refine lv_pop hx hb dL_law_974 rfl ?_
  refine lv_goto (tgt := 2069) hx hb dL_law_975 (by decide) ?_
  exact kk K g_14 _ _ ls hKO hR hw_16W hP hS hl

theorem dL_law_978 : decode cL_law 978 = .ok (.aload_n 1, 1) := by decide +kernel
theorem dL_law_979 : decode cL_law 979 = .ok (.aload_n 0, 1) := by decide +kernel
theorem dL_law_980 : decode cL_law 980 = .ok (.iload_n 3, 1) := by decide +kernel
theorem dL_law_981 : decode cL_law 981 = .ok (.iconst 1, 1) := by decide +kernel
theorem dL_law_982 : decode cL_law 982 = .ok (.iadd, 1) := by decide +kernel
theorem dL_law_983 : decode cL_law 983 = .ok (.iaload, 1) := by decide +kernel
theorem dL_law_984 : decode cL_law 984 = .ok (.aload_n 0, 1) := by decide +kernel
theorem dL_law_985 : decode cL_law 985 = .ok (.iload_n 3, 1) := by decide +kernel
theorem dL_law_986 : decode cL_law 986 = .ok (.iconst 2, 1) := by decide +kernel
theorem dL_law_987 : decode cL_law 987 = .ok (.iadd, 1) := by decide +kernel
theorem dL_law_988 : decode cL_law 988 = .ok (.iaload, 1) := by decide +kernel
theorem dL_law_989 : decode cL_law 989 = .ok (.invokevirtual 121, 3) := by decide +kernel
theorem dL_law_992 : decode cL_law 992 = .ok (.pop, 1) := by decide +kernel
theorem dL_law_993 : decode cL_law 993 = .ok (.aload_n 2, 1) := by decide +kernel
theorem dL_law_994 : decode cL_law 994 = .ok (.aload_n 0, 1) := by decide +kernel
theorem dL_law_995 : decode cL_law 995 = .ok (.iload_n 3, 1) := by decide +kernel
theorem dL_law_996 : decode cL_law 996 = .ok (.iconst 1, 1) := by decide +kernel
theorem dL_law_997 : decode cL_law 997 = .ok (.iadd, 1) := by decide +kernel
theorem dL_law_998 : decode cL_law 998 = .ok (.iaload, 1) := by decide +kernel
theorem dL_law_999 : decode cL_law 999 = .ok (.aload_n 0, 1) := by decide +kernel
theorem dL_law_1000 : decode cL_law 1000 = .ok (.iload_n 3, 1) := by decide +kernel
theorem dL_law_1001 : decode cL_law 1001 = .ok (.iconst 2, 1) := by decide +kernel
theorem dL_law_1002 : decode cL_law 1002 = .ok (.iadd, 1) := by decide +kernel
theorem dL_law_1003 : decode cL_law 1003 = .ok (.iaload, 1) := by decide +kernel
theorem dL_law_1004 : decode cL_law 1004 = .ok (.invokevirtual 124, 3) := by decide +kernel
theorem dL_law_1007 : decode cL_law 1007 = .ok (.pop, 1) := by decide +kernel
theorem dL_law_1008 : decode cL_law 1008 = .ok (.goto 1061, 3) := by decide +kernel
set_option maxRecDepth 20000 in
theorem mT_X11_place : wIn lw_tbl vX11_place := wIn.cons (List.mem_of_getElem? (i := 910) (by decide +kernel)) (wIn.app (wIn.r _ [742, 744, 15, 98, 725, 727, 13, 486, 218, 491, 258, 911, 702, 703, 103, 857, 858, 115, 859] (by decide +kernel)) (wIn.app iT_11 (wIn.app iT_6 (wIn.app mT_X11_isIcicle (wIn.app mT_X11_isDay mT_X10_fallOf)))))
theorem gL_X11_place : GoodIn lw_tbl (wsV RL 121 RX11 yX11_place vX11_place) := goodIn_app (goodIn_r _ [907, 908, 909, 98] (by decide +kernel) (by decide +kernel)) (fun w h => ⟨mT_X11_place w h, gs_X11_place w h⟩)
set_option maxRecDepth 20000 in
theorem mT_X12_place : wIn lw_tbl vX12_place := wIn.cons (List.mem_of_getElem? (i := 1667) (by decide +kernel)) (wIn.app (wIn.r _ [1656, 1658, 73, 110, 1668, 1262, 1520, 1522, 59, 1555, 1557, 64, 1627, 858, 115, 859] (by decide +kernel)) (wIn.app iT_12 (wIn.app mT_X12_areThen (wIn.app mT_X12_of mT_X12_fallsBy))))
theorem gL_X12_place : GoodIn lw_tbl (wsV RL 124 RX12 yX12_place vX12_place) := goodIn_app (goodIn_r _ [1664, 1665, 1666, 110] (by decide +kernel) (by decide +kernel)) (fun w h => ⟨mT_X12_place w h, gs_X12_place w h⟩)
set_option maxHeartbeats 8000000 in
set_option maxRecDepth 100000 in
theorem law_c26 {p : Program} {e : Env} {s : State} {m : MethodId} {below : List Frame} {meth : Method} {c : Code} (l : Launch) {b L : Nat} {xs : Nat → Int32} {D : va_G} {cs : Nat → ClassId} {ad : Nat → Nat} {kS : kSt} {K : sK} {g : Nat → va_E} {H : Heap} {locs : List Loc} (hL : L ≤ 3072) (C0 : lw_At p s m meth c b L xs) (X : CxL p s m b meth c D cs) (Z : SX ad kS s s.heap) (hj : wJ ad 218) (hA : ∀ i, i < 218 → AL s (ad i)) (hKO : KO K) (hR : KR K) (hW : WF (shp ad K) ad cs g) (hP : va_P D vwCl (wL ad g 218) H) (hS : va_S (AL s) s.heap H locs) (ls : Array Slot) (ii : Int32) (hi0 : 0 ≤ ii.toInt) (hi1 : ii.toInt + 6 ≤ L) (hl : lv_has ls 4 [(3, .int ii), (2, .ref (ad 197)), (1, .ref (ad 0)), (0, .ref b)]) (kk : ∀ (K : sK) (g : Nat → va_E) (H : Heap) (locs : List Loc) (ls : Array Slot), KO K → KR K → WF (shp ad K) ad cs g → va_P D vwCl (wL ad g 218) H → va_S (AL s) s.heap H locs → lv_has ls 4 [(3, .int ii), (2, .ref (ad 197)), (1, .ref (ad 0)), (0, .ref b)] → W p l e room_1 s m #[Value.ref b] below meth c H locs 218 6259 (lw_Z below #[Value.ref b] s) (F0 m 2069 ls [])) : W p l e room_1 s m #[Value.ref b] below meth c H locs 218 6259 (lw_Z below #[Value.ref b] s) (F0 m 978 ls []) := by
  have hx := X.1
  have hb : c.code = cL_law := X.2.1
  obtain ⟨-, -, -, -, -, -, hX, hbl, -, -⟩ := id C0
  have hbA : ¬ AL s b := Nat.not_le.mpr hbl
  refine lv_aload_n hx hb dL_law_978 rfl (lv_at hl 2 rfl) ?_
  refine lv_aload_n hx hb dL_law_979 rfl (lv_at hl 3 rfl) ?_
  refine lv_iload_n hx hb dL_law_980 rfl (lv_at hl 0 rfl) ?_
  refine lv_iconst (v := 1) hx hb dL_law_981 (by decide) ?_
  refine lv_iadd hx hb dL_law_982 ?_
  refine lv_topi (fun z_1 ez_1 => ?_)
  have hz_1 : z_1.toInt = ii.toInt + 1 := n_add rfl (by decide : (1 : Int32).toInt = 1) ez_1 (by omega) (by omega)
  refine va_sld hx hb hX hbl hbA hS (i := z_1) (n_in (rfl : z_1.toInt = z_1.toInt) (by omega) (by omega)) dL_law_983 ?_
  refine lv_topi (fun x_2 ex_2 => ?_)
  refine lv_aload_n hx hb dL_law_984 rfl (lv_at hl 3 rfl) ?_
  refine lv_iload_n hx hb dL_law_985 rfl (lv_at hl 0 rfl) ?_
  refine lv_iconst (v := 2) hx hb dL_law_986 (by decide) ?_
  refine lv_iadd hx hb dL_law_987 ?_
  refine lv_topi (fun z_3 ez_3 => ?_)
  have hz_3 : z_3.toInt = ii.toInt + 2 := n_add rfl (by decide : (2 : Int32).toInt = 2) ez_3 (by omega) (by omega)
  refine va_sld hx hb hX hbl hbA hS (i := z_3) (n_in (rfl : z_3.toInt = z_3.toInt) (by omega) (by omega)) dL_law_988 ?_
  refine lv_topi (fun x_4 ex_4 => ?_)
  obtain ⟨fso_5, hgo_5, -⟩ := hW.obj (i := 0) (by decide) (sh_0 ad _)
  refine s_calli (q := (RX11, TX11, 14)) (As := [.int x_2, .int x_4]) (rest := []) X Z (s_X11_place l D cs ad kS K hKO hj g hW x_2 x_4) (cwV 2 X.2.2.2.2.1 gL_X11_place rfl rfl rfl (by decide +kernel) ⟨Nat.le_of_ble_eq_true rfl, Nat.le_of_ble_eq_true rfl⟩) (by decide) hgo_5 rfl hP hA (fun a h _ => hS.2.1 a h (Nat.not_le.mpr h)) hS rfl hl.1 rfl (Nat.le_of_ble_eq_true rfl) dL_law_989 ⟨Nat.le_of_ble_eq_true rfl, Nat.le_of_ble_eq_true rfl⟩ (fun r_7 g_6 H locs hw_8 hP hS => ?_)
  rw [hw_8] at hP
  refine lv_pop hx hb dL_law_992 rfl ?_
  refine lv_aload_n hx hb dL_law_993 rfl (lv_at hl 1 rfl) ?_
  refine lv_aload_n hx hb dL_law_994 rfl (lv_at hl 3 rfl) ?_
  refine lv_iload_n hx hb dL_law_995 rfl (lv_at hl 0 rfl) ?_
  refine lv_iconst (v := 1) hx hb dL_law_996 (by decide) ?_
  refine lv_iadd hx hb dL_law_997 ?_
  refine lv_topi (fun z_9 ez_9 => ?_)
  have hz_9 : z_9.toInt = ii.toInt + 1 := n_add rfl (by decide : (1 : Int32).toInt = 1) ez_9 (by omega) (by omega)
  refine va_sld hx hb hX hbl hbA hS (i := z_9) (n_in (rfl : z_9.toInt = z_9.toInt) (by omega) (by omega)) dL_law_998 ?_
  refine lv_topi (fun x_10 ex_10 => ?_)
  obtain rfl : x_2 = x_10 := by rw [ex_2, ex_10, ez_1, ez_9]
  refine lv_aload_n hx hb dL_law_999 rfl (lv_at hl 3 rfl) ?_
  refine lv_iload_n hx hb dL_law_1000 rfl (lv_at hl 0 rfl) ?_
  refine lv_iconst (v := 2) hx hb dL_law_1001 (by decide) ?_
  refine lv_iadd hx hb dL_law_1002 ?_
  refine lv_topi (fun z_11 ez_11 => ?_)
  have hz_11 : z_11.toInt = ii.toInt + 2 := n_add rfl (by decide : (2 : Int32).toInt = 2) ez_11 (by omega) (by omega)
  refine va_sld hx hb hX hbl hbA hS (i := z_11) (n_in (rfl : z_11.toInt = z_11.toInt) (by omega) (by omega)) dL_law_1003 ?_
  refine lv_topi (fun x_12 ex_12 => ?_)
  obtain rfl : x_4 = x_12 := by rw [ex_4, ex_12, ez_3, ez_11]
  obtain ⟨fso_13, hgo_13, -⟩ := hW.obj (i := 197) (by decide) (sh_197 ad _)
  refine s_calli (q := (RX12, TX12, 40)) (As := [.int x_2, .int x_4]) (rest := []) X Z (s_X12_place l D cs ad kS K hKO hj g hW x_2 x_4) (cwV 2 X.2.2.2.2.1 gL_X12_place rfl rfl rfl (by decide +kernel) ⟨Nat.le_of_ble_eq_true rfl, Nat.le_of_ble_eq_true rfl⟩) (by decide) hgo_13 rfl hP hA (fun a h _ => hS.2.1 a h (Nat.not_le.mpr h)) hS rfl hl.1 rfl (Nat.le_of_ble_eq_true rfl) dL_law_1004 ⟨Nat.le_of_ble_eq_true rfl, Nat.le_of_ble_eq_true rfl⟩ (fun r_15 g_14 H locs hw_16 hP hS => ?_)
  obtain ⟨hw_16W, hw_16f⟩ := hw_16
  refine lv_pop hx hb dL_law_1007 rfl ?_
  refine lv_goto (tgt := 2069) hx hb dL_law_1008 (by decide) ?_
  exact kk K g_14 _ _ ls hKO hR hw_16W hP hS hl

theorem dL_law_1011 : decode cL_law 1011 = .ok (.aload_n 1, 1) := by decide +kernel
theorem dL_law_1012 : decode cL_law 1012 = .ok (.aload_n 0, 1) := by decide +kernel
theorem dL_law_1013 : decode cL_law 1013 = .ok (.iload_n 3, 1) := by decide +kernel
theorem dL_law_1014 : decode cL_law 1014 = .ok (.iconst 1, 1) := by decide +kernel
theorem dL_law_1015 : decode cL_law 1015 = .ok (.iadd, 1) := by decide +kernel
theorem dL_law_1016 : decode cL_law 1016 = .ok (.iaload, 1) := by decide +kernel
theorem dL_law_1017 : decode cL_law 1017 = .ok (.invokevirtual 125, 3) := by decide +kernel
theorem dL_law_1020 : decode cL_law 1020 = .ok (.pop, 1) := by decide +kernel
theorem dL_law_1021 : decode cL_law 1021 = .ok (.aload_n 2, 1) := by decide +kernel
theorem dL_law_1022 : decode cL_law 1022 = .ok (.aload_n 0, 1) := by decide +kernel
theorem dL_law_1023 : decode cL_law 1023 = .ok (.iload_n 3, 1) := by decide +kernel
theorem dL_law_1024 : decode cL_law 1024 = .ok (.iconst 1, 1) := by decide +kernel
theorem dL_law_1025 : decode cL_law 1025 = .ok (.iadd, 1) := by decide +kernel
theorem dL_law_1026 : decode cL_law 1026 = .ok (.iaload, 1) := by decide +kernel
theorem dL_law_1027 : decode cL_law 1027 = .ok (.invokevirtual 128, 3) := by decide +kernel
theorem dL_law_1030 : decode cL_law 1030 = .ok (.pop, 1) := by decide +kernel
theorem dL_law_1031 : decode cL_law 1031 = .ok (.goto 1038, 3) := by decide +kernel
set_option maxRecDepth 20000 in
theorem mT_X11_offIfHung : wIn lw_tbl vX11_offIfHung := wIn.cons (List.mem_of_getElem? (i := 923) (by decide +kernel)) (wIn.app (wIn.r _ [491, 354, 492, 924, 687, 686, 116, 486, 250, 911, 702, 703, 103, 881, 882, 883] (by decide +kernel)) (wIn.app iT_11 (wIn.app iT_10 (wIn.app iT_6 (wIn.app mT_X10_fallOf mT_X10_offTogether)))))
set_option maxRecDepth 20000 in
theorem mT_X11_bestLength : wIn lw_tbl vX11_bestLength := wIn.cons (List.mem_of_getElem? (i := 919) (by decide +kernel)) (wIn.app (wIn.r _ [920, 922, 21, 98] (by decide +kernel)) mT_X11_offIfHung)
set_option maxRecDepth 20000 in
theorem mT_X11_best : wIn lw_tbl vX11_best := wIn.cons (List.mem_of_getElem? (i := 915) (by decide +kernel)) (wIn.app (wIn.r _ [742, 744, 15, 98, 916, 918, 20] (by decide +kernel)) (wIn.app mT_X11_isIcicle mT_X11_bestLength))
theorem gL_X11_best : GoodIn lw_tbl (wsV RL 125 RX11 yX11_best vX11_best) := goodIn_app (goodIn_r _ [912, 913, 914, 98] (by decide +kernel) (by decide +kernel)) (fun w h => ⟨mT_X11_best w h, gs_X11_best w h⟩)
set_option maxRecDepth 20000 in
theorem mT_X12_bestOf : wIn lw_tbl vX12_bestOf := wIn.cons (List.mem_of_getElem? (i := 1676) (by decide +kernel)) (wIn.app (wIn.r _ [1540, 1542, 61, 110, 1668, 1279, 1277, 1520, 1522, 59, 1555, 1557, 64, 1644, 1646, 72] (by decide +kernel)) (wIn.app iT_12 (wIn.app mT_X12_layAll (wIn.app mT_X12_of (wIn.app mT_X12_fallsBy mT_X12_offAll)))))
set_option maxRecDepth 20000 in
theorem mT_X12_best : wIn lw_tbl vX12_best := wIn.cons (List.mem_of_getElem? (i := 1672) (by decide +kernel)) (wIn.app (wIn.r _ [1516, 1518, 58, 110, 1673, 1675, 74] (by decide +kernel)) (wIn.app mT_X12_isIcicle mT_X12_bestOf))
theorem gL_X12_best : GoodIn lw_tbl (wsV RL 128 RX12 yX12_best vX12_best) := goodIn_app (goodIn_r _ [1669, 1670, 1671, 110] (by decide +kernel) (by decide +kernel)) (fun w h => ⟨mT_X12_best w h, gs_X12_best w h⟩)
set_option maxHeartbeats 8000000 in
set_option maxRecDepth 100000 in
theorem law_c27 {p : Program} {e : Env} {s : State} {m : MethodId} {below : List Frame} {meth : Method} {c : Code} (l : Launch) {b L : Nat} {xs : Nat → Int32} {D : va_G} {cs : Nat → ClassId} {ad : Nat → Nat} {kS : kSt} {K : sK} {g : Nat → va_E} {H : Heap} {locs : List Loc} (hL : L ≤ 3072) (C0 : lw_At p s m meth c b L xs) (X : CxL p s m b meth c D cs) (Z : SX ad kS s s.heap) (hj : wJ ad 218) (hA : ∀ i, i < 218 → AL s (ad i)) (hKO : KO K) (hR : KR K) (hW : WF (shp ad K) ad cs g) (hP : va_P D vwCl (wL ad g 218) H) (hS : va_S (AL s) s.heap H locs) (ls : Array Slot) (ii : Int32) (hi0 : 0 ≤ ii.toInt) (hi1 : ii.toInt + 6 ≤ L) (hl : lv_has ls 4 [(3, .int ii), (2, .ref (ad 197)), (1, .ref (ad 0)), (0, .ref b)]) (kk : ∀ (K : sK) (g : Nat → va_E) (H : Heap) (locs : List Loc) (ls : Array Slot), KO K → KR K → WF (shp ad K) ad cs g → va_P D vwCl (wL ad g 218) H → va_S (AL s) s.heap H locs → lv_has ls 4 [(3, .int ii), (2, .ref (ad 197)), (1, .ref (ad 0)), (0, .ref b)] → W p l e room_1 s m #[Value.ref b] below meth c H locs 218 6259 (lw_Z below #[Value.ref b] s) (F0 m 2069 ls [])) : W p l e room_1 s m #[Value.ref b] below meth c H locs 218 6259 (lw_Z below #[Value.ref b] s) (F0 m 1011 ls []) := by
  have hx := X.1
  have hb : c.code = cL_law := X.2.1
  obtain ⟨-, -, -, -, -, -, hX, hbl, -, -⟩ := id C0
  have hbA : ¬ AL s b := Nat.not_le.mpr hbl
  refine lv_aload_n hx hb dL_law_1011 rfl (lv_at hl 2 rfl) ?_
  refine lv_aload_n hx hb dL_law_1012 rfl (lv_at hl 3 rfl) ?_
  refine lv_iload_n hx hb dL_law_1013 rfl (lv_at hl 0 rfl) ?_
  refine lv_iconst (v := 1) hx hb dL_law_1014 (by decide) ?_
  refine lv_iadd hx hb dL_law_1015 ?_
  refine lv_topi (fun z_1 ez_1 => ?_)
  have hz_1 : z_1.toInt = ii.toInt + 1 := n_add rfl (by decide : (1 : Int32).toInt = 1) ez_1 (by omega) (by omega)
  refine va_sld hx hb hX hbl hbA hS (i := z_1) (n_in (rfl : z_1.toInt = z_1.toInt) (by omega) (by omega)) dL_law_1016 ?_
  refine lv_topi (fun x_2 ex_2 => ?_)
  obtain ⟨fso_3, hgo_3, -⟩ := hW.obj (i := 0) (by decide) (sh_0 ad _)
  refine s_calli (q := (RX11, TX11, 14)) (As := [.int x_2]) (rest := []) X Z (s_X11_best l D cs ad kS K hKO hj g hW x_2) (cwV 1 X.2.2.2.2.1 gL_X11_best rfl rfl rfl (by decide +kernel) ⟨Nat.le_of_ble_eq_true rfl, Nat.le_of_ble_eq_true rfl⟩) (by decide) hgo_3 rfl hP hA (fun a h _ => hS.2.1 a h (Nat.not_le.mpr h)) hS rfl hl.1 rfl (Nat.le_of_ble_eq_true rfl) dL_law_1017 ⟨Nat.le_of_ble_eq_true rfl, Nat.le_of_ble_eq_true rfl⟩ (fun r_5 g_4 H locs hw_6 hP hS => ?_)
  obtain ⟨hw_6W, hw_6f⟩ := hw_6
  refine lv_pop hx hb dL_law_1020 rfl ?_
  refine lv_aload_n hx hb dL_law_1021 rfl (lv_at hl 1 rfl) ?_
  refine lv_aload_n hx hb dL_law_1022 rfl (lv_at hl 3 rfl) ?_
  refine lv_iload_n hx hb dL_law_1023 rfl (lv_at hl 0 rfl) ?_
  refine lv_iconst (v := 1) hx hb dL_law_1024 (by decide) ?_
  refine lv_iadd hx hb dL_law_1025 ?_
  refine lv_topi (fun z_7 ez_7 => ?_)
  have hz_7 : z_7.toInt = ii.toInt + 1 := n_add rfl (by decide : (1 : Int32).toInt = 1) ez_7 (by omega) (by omega)
  refine va_sld hx hb hX hbl hbA hS (i := z_7) (n_in (rfl : z_7.toInt = z_7.toInt) (by omega) (by omega)) dL_law_1026 ?_
  refine lv_topi (fun x_8 ex_8 => ?_)
  obtain rfl : x_2 = x_8 := by rw [ex_2, ex_8, ez_1, ez_7]
  obtain ⟨fso_9, hgo_9, -⟩ := hw_6W.obj (i := 197) (by decide) (sh_197 ad _)
  refine s_calli (q := (RX12, TX12, 40)) (As := [.int x_2]) (rest := []) X Z (s_X12_best l D cs ad kS K hKO hj g_4 hw_6W x_2) (cwV 1 X.2.2.2.2.1 gL_X12_best rfl rfl rfl (by decide +kernel) ⟨Nat.le_of_ble_eq_true rfl, Nat.le_of_ble_eq_true rfl⟩) (by decide) hgo_9 rfl hP hA (fun a h _ => hS.2.1 a h (Nat.not_le.mpr h)) hS rfl hl.1 rfl (Nat.le_of_ble_eq_true rfl) dL_law_1027 ⟨Nat.le_of_ble_eq_true rfl, Nat.le_of_ble_eq_true rfl⟩ (fun r_11 g_10 H locs hw_12 hP hS => ?_)
  obtain ⟨hw_12W, hw_12f⟩ := hw_12
  refine lv_pop hx hb dL_law_1030 rfl ?_
  refine lv_goto (tgt := 2069) hx hb dL_law_1031 (by decide) ?_
  exact kk K g_10 _ _ ls hKO hR hw_12W hP hS hl

theorem dL_law_1034 : decode cL_law 1034 = .ok (.aload_n 1, 1) := by decide +kernel
theorem dL_law_1035 : decode cL_law 1035 = .ok (.aload_n 0, 1) := by decide +kernel
theorem dL_law_1036 : decode cL_law 1036 = .ok (.iload_n 3, 1) := by decide +kernel
theorem dL_law_1037 : decode cL_law 1037 = .ok (.iconst 1, 1) := by decide +kernel
theorem dL_law_1038 : decode cL_law 1038 = .ok (.iadd, 1) := by decide +kernel
theorem dL_law_1039 : decode cL_law 1039 = .ok (.iaload, 1) := by decide +kernel
theorem dL_law_1040 : decode cL_law 1040 = .ok (.invokevirtual 129, 3) := by decide +kernel
theorem dL_law_1043 : decode cL_law 1043 = .ok (.pop, 1) := by decide +kernel
theorem dL_law_1044 : decode cL_law 1044 = .ok (.aload_n 2, 1) := by decide +kernel
theorem dL_law_1045 : decode cL_law 1045 = .ok (.aload_n 0, 1) := by decide +kernel
theorem dL_law_1046 : decode cL_law 1046 = .ok (.iload_n 3, 1) := by decide +kernel
theorem dL_law_1047 : decode cL_law 1047 = .ok (.iconst 1, 1) := by decide +kernel
theorem dL_law_1048 : decode cL_law 1048 = .ok (.iadd, 1) := by decide +kernel
theorem dL_law_1049 : decode cL_law 1049 = .ok (.iaload, 1) := by decide +kernel
theorem dL_law_1050 : decode cL_law 1050 = .ok (.invokevirtual 132, 3) := by decide +kernel
theorem dL_law_1053 : decode cL_law 1053 = .ok (.pop, 1) := by decide +kernel
theorem dL_law_1054 : decode cL_law 1054 = .ok (.goto 1015, 3) := by decide +kernel
set_option maxRecDepth 20000 in
theorem mT_X11_offs : wIn lw_tbl vX11_offs := wIn.cons (List.mem_of_getElem? (i := 928) (by decide +kernel)) (wIn.app (wIn.r _ [742, 744, 15, 98, 916, 918, 20, 920, 922, 21] (by decide +kernel)) (wIn.app mT_X11_isIcicle (wIn.app mT_X11_bestLength mT_X11_offIfHung)))
theorem gL_X11_offs : GoodIn lw_tbl (wsV RL 129 RX11 yX11_offs vX11_offs) := goodIn_app (goodIn_r _ [925, 926, 927, 98] (by decide +kernel) (by decide +kernel)) (fun w h => ⟨mT_X11_offs w h, gs_X11_offs w h⟩)
set_option maxRecDepth 20000 in
theorem mT_X12_offs : wIn lw_tbl vX12_offs := wIn.cons (List.mem_of_getElem? (i := 1680) (by decide +kernel)) (wIn.app (wIn.r _ [1516, 1518, 58, 110, 1673, 1675, 74, 1279] (by decide +kernel)) (wIn.app iT_12 (wIn.app mT_X12_isIcicle mT_X12_bestOf)))
theorem gL_X12_offs : GoodIn lw_tbl (wsV RL 132 RX12 yX12_offs vX12_offs) := goodIn_app (goodIn_r _ [1677, 1678, 1679, 110] (by decide +kernel) (by decide +kernel)) (fun w h => ⟨mT_X12_offs w h, gs_X12_offs w h⟩)
set_option maxHeartbeats 8000000 in
set_option maxRecDepth 100000 in
theorem law_c28 {p : Program} {e : Env} {s : State} {m : MethodId} {below : List Frame} {meth : Method} {c : Code} (l : Launch) {b L : Nat} {xs : Nat → Int32} {D : va_G} {cs : Nat → ClassId} {ad : Nat → Nat} {kS : kSt} {K : sK} {g : Nat → va_E} {H : Heap} {locs : List Loc} (hL : L ≤ 3072) (C0 : lw_At p s m meth c b L xs) (X : CxL p s m b meth c D cs) (Z : SX ad kS s s.heap) (hj : wJ ad 218) (hA : ∀ i, i < 218 → AL s (ad i)) (hKO : KO K) (hR : KR K) (hW : WF (shp ad K) ad cs g) (hP : va_P D vwCl (wL ad g 218) H) (hS : va_S (AL s) s.heap H locs) (ls : Array Slot) (ii : Int32) (hi0 : 0 ≤ ii.toInt) (hi1 : ii.toInt + 6 ≤ L) (hl : lv_has ls 4 [(3, .int ii), (2, .ref (ad 197)), (1, .ref (ad 0)), (0, .ref b)]) (kk : ∀ (K : sK) (g : Nat → va_E) (H : Heap) (locs : List Loc) (ls : Array Slot), KO K → KR K → WF (shp ad K) ad cs g → va_P D vwCl (wL ad g 218) H → va_S (AL s) s.heap H locs → lv_has ls 4 [(3, .int ii), (2, .ref (ad 197)), (1, .ref (ad 0)), (0, .ref b)] → W p l e room_1 s m #[Value.ref b] below meth c H locs 218 6259 (lw_Z below #[Value.ref b] s) (F0 m 2069 ls [])) : W p l e room_1 s m #[Value.ref b] below meth c H locs 218 6259 (lw_Z below #[Value.ref b] s) (F0 m 1034 ls []) := by
  have hx := X.1
  have hb : c.code = cL_law := X.2.1
  obtain ⟨-, -, -, -, -, -, hX, hbl, -, -⟩ := id C0
  have hbA : ¬ AL s b := Nat.not_le.mpr hbl
  refine lv_aload_n hx hb dL_law_1034 rfl (lv_at hl 2 rfl) ?_
  refine lv_aload_n hx hb dL_law_1035 rfl (lv_at hl 3 rfl) ?_
  refine lv_iload_n hx hb dL_law_1036 rfl (lv_at hl 0 rfl) ?_
  refine lv_iconst (v := 1) hx hb dL_law_1037 (by decide) ?_
  refine lv_iadd hx hb dL_law_1038 ?_
  refine lv_topi (fun z_1 ez_1 => ?_)
  have hz_1 : z_1.toInt = ii.toInt + 1 := n_add rfl (by decide : (1 : Int32).toInt = 1) ez_1 (by omega) (by omega)
  refine va_sld hx hb hX hbl hbA hS (i := z_1) (n_in (rfl : z_1.toInt = z_1.toInt) (by omega) (by omega)) dL_law_1039 ?_
  refine lv_topi (fun x_2 ex_2 => ?_)
  obtain ⟨fso_3, hgo_3, -⟩ := hW.obj (i := 0) (by decide) (sh_0 ad _)
  refine s_calli (q := (RX11, TX11, 14)) (As := [.int x_2]) (rest := []) X Z (s_X11_offs l D cs ad kS K hKO hj g hW x_2) (cwV 1 X.2.2.2.2.1 gL_X11_offs rfl rfl rfl (by decide +kernel) ⟨Nat.le_of_ble_eq_true rfl, Nat.le_of_ble_eq_true rfl⟩) (by decide) hgo_3 rfl hP hA (fun a h _ => hS.2.1 a h (Nat.not_le.mpr h)) hS rfl hl.1 rfl (Nat.le_of_ble_eq_true rfl) dL_law_1040 ⟨Nat.le_of_ble_eq_true rfl, Nat.le_of_ble_eq_true rfl⟩ (fun r_5 g_4 H locs hw_6 hP hS => ?_)
  obtain ⟨hw_6W, hw_6f⟩ := hw_6
  refine lv_pop hx hb dL_law_1043 rfl ?_
  refine lv_aload_n hx hb dL_law_1044 rfl (lv_at hl 1 rfl) ?_
  refine lv_aload_n hx hb dL_law_1045 rfl (lv_at hl 3 rfl) ?_
  refine lv_iload_n hx hb dL_law_1046 rfl (lv_at hl 0 rfl) ?_
  refine lv_iconst (v := 1) hx hb dL_law_1047 (by decide) ?_
  refine lv_iadd hx hb dL_law_1048 ?_
  refine lv_topi (fun z_7 ez_7 => ?_)
  have hz_7 : z_7.toInt = ii.toInt + 1 := n_add rfl (by decide : (1 : Int32).toInt = 1) ez_7 (by omega) (by omega)
  refine va_sld hx hb hX hbl hbA hS (i := z_7) (n_in (rfl : z_7.toInt = z_7.toInt) (by omega) (by omega)) dL_law_1049 ?_
  refine lv_topi (fun x_8 ex_8 => ?_)
  obtain rfl : x_2 = x_8 := by rw [ex_2, ex_8, ez_1, ez_7]
  obtain ⟨fso_9, hgo_9, -⟩ := hw_6W.obj (i := 197) (by decide) (sh_197 ad _)
  refine s_calli (q := (RX12, TX12, 40)) (As := [.int x_2]) (rest := []) X Z (s_X12_offs l D cs ad kS K hKO hj g_4 hw_6W x_2) (cwV 1 X.2.2.2.2.1 gL_X12_offs rfl rfl rfl (by decide +kernel) ⟨Nat.le_of_ble_eq_true rfl, Nat.le_of_ble_eq_true rfl⟩) (by decide) hgo_9 rfl hP hA (fun a h _ => hS.2.1 a h (Nat.not_le.mpr h)) hS rfl hl.1 rfl (Nat.le_of_ble_eq_true rfl) dL_law_1050 ⟨Nat.le_of_ble_eq_true rfl, Nat.le_of_ble_eq_true rfl⟩ (fun r_11 g_10 H locs hw_12 hP hS => ?_)
  obtain ⟨hw_12W, hw_12f⟩ := hw_12
  refine lv_pop hx hb dL_law_1053 rfl ?_
  refine lv_goto (tgt := 2069) hx hb dL_law_1054 (by decide) ?_
  exact kk K g_10 _ _ ls hKO hR hw_12W hP hS hl

theorem dL_law_1057 : decode cL_law 1057 = .ok (.aload_n 1, 1) := by decide +kernel
theorem dL_law_1058 : decode cL_law 1058 = .ok (.aload_n 0, 1) := by decide +kernel
theorem dL_law_1059 : decode cL_law 1059 = .ok (.iload_n 3, 1) := by decide +kernel
theorem dL_law_1060 : decode cL_law 1060 = .ok (.iconst 1, 1) := by decide +kernel
theorem dL_law_1061 : decode cL_law 1061 = .ok (.iadd, 1) := by decide +kernel
theorem dL_law_1062 : decode cL_law 1062 = .ok (.iaload, 1) := by decide +kernel
theorem dL_law_1063 : decode cL_law 1063 = .ok (.aload_n 0, 1) := by decide +kernel
theorem dL_law_1064 : decode cL_law 1064 = .ok (.iload_n 3, 1) := by decide +kernel
theorem dL_law_1065 : decode cL_law 1065 = .ok (.iconst 2, 1) := by decide +kernel
theorem dL_law_1066 : decode cL_law 1066 = .ok (.iadd, 1) := by decide +kernel
theorem dL_law_1067 : decode cL_law 1067 = .ok (.iaload, 1) := by decide +kernel
theorem dL_law_1068 : decode cL_law 1068 = .ok (.invokevirtual 133, 3) := by decide +kernel
theorem dL_law_1071 : decode cL_law 1071 = .ok (.pop, 1) := by decide +kernel
theorem dL_law_1072 : decode cL_law 1072 = .ok (.aload_n 2, 1) := by decide +kernel
theorem dL_law_1073 : decode cL_law 1073 = .ok (.aload_n 0, 1) := by decide +kernel
theorem dL_law_1074 : decode cL_law 1074 = .ok (.iload_n 3, 1) := by decide +kernel
theorem dL_law_1075 : decode cL_law 1075 = .ok (.iconst 1, 1) := by decide +kernel
theorem dL_law_1076 : decode cL_law 1076 = .ok (.iadd, 1) := by decide +kernel
theorem dL_law_1077 : decode cL_law 1077 = .ok (.iaload, 1) := by decide +kernel
theorem dL_law_1078 : decode cL_law 1078 = .ok (.aload_n 0, 1) := by decide +kernel
theorem dL_law_1079 : decode cL_law 1079 = .ok (.iload_n 3, 1) := by decide +kernel
theorem dL_law_1080 : decode cL_law 1080 = .ok (.iconst 2, 1) := by decide +kernel
theorem dL_law_1081 : decode cL_law 1081 = .ok (.iadd, 1) := by decide +kernel
theorem dL_law_1082 : decode cL_law 1082 = .ok (.iaload, 1) := by decide +kernel
theorem dL_law_1083 : decode cL_law 1083 = .ok (.invokevirtual 136, 3) := by decide +kernel
theorem dL_law_1086 : decode cL_law 1086 = .ok (.pop, 1) := by decide +kernel
theorem dL_law_1087 : decode cL_law 1087 = .ok (.goto 982, 3) := by decide +kernel
set_option maxRecDepth 20000 in
theorem mT_X11_doors : wIn lw_tbl vX11_doors := wIn.cons (List.mem_of_getElem? (i := 932) (by decide +kernel)) (wIn.app (wIn.r _ [742, 744, 15, 98, 725, 727, 13, 491, 769, 770, 771, 103, 486, 258, 250, 773, 774, 775, 197] (by decide +kernel)) (wIn.app iT_11 (wIn.app iT_6 (wIn.app mT_X11_isIcicle (wIn.app mT_X11_isDay (wIn.app mT_X10_fellBy mT_X10_lossThrough))))))
theorem gL_X11_doors : GoodIn lw_tbl (wsV RL 133 RX11 yX11_doors vX11_doors) := goodIn_app (goodIn_r _ [929, 930, 931, 98] (by decide +kernel) (by decide +kernel)) (fun w h => ⟨mT_X11_doors w h, gs_X11_doors w h⟩)
set_option maxRecDepth 20000 in
theorem mT_X12_doors : wIn lw_tbl vX12_doors := wIn.cons (List.mem_of_getElem? (i := 1684) (by decide +kernel)) (wIn.app (wIn.r _ [1656, 1658, 73, 110, 1520, 1522, 59, 1555, 1557, 64, 1276, 1262] (by decide +kernel)) (wIn.app iT_12 (wIn.app mT_X12_areThen (wIn.app mT_X12_of mT_X12_fallsBy))))
theorem gL_X12_doors : GoodIn lw_tbl (wsV RL 136 RX12 yX12_doors vX12_doors) := goodIn_app (goodIn_r _ [1681, 1682, 1683, 110] (by decide +kernel) (by decide +kernel)) (fun w h => ⟨mT_X12_doors w h, gs_X12_doors w h⟩)
set_option maxHeartbeats 8000000 in
set_option maxRecDepth 100000 in
theorem law_c29 {p : Program} {e : Env} {s : State} {m : MethodId} {below : List Frame} {meth : Method} {c : Code} (l : Launch) {b L : Nat} {xs : Nat → Int32} {D : va_G} {cs : Nat → ClassId} {ad : Nat → Nat} {kS : kSt} {K : sK} {g : Nat → va_E} {H : Heap} {locs : List Loc} (hL : L ≤ 3072) (C0 : lw_At p s m meth c b L xs) (X : CxL p s m b meth c D cs) (Z : SX ad kS s s.heap) (hj : wJ ad 218) (hA : ∀ i, i < 218 → AL s (ad i)) (hKO : KO K) (hR : KR K) (hW : WF (shp ad K) ad cs g) (hP : va_P D vwCl (wL ad g 218) H) (hS : va_S (AL s) s.heap H locs) (ls : Array Slot) (ii : Int32) (hi0 : 0 ≤ ii.toInt) (hi1 : ii.toInt + 6 ≤ L) (hl : lv_has ls 4 [(3, .int ii), (2, .ref (ad 197)), (1, .ref (ad 0)), (0, .ref b)]) (kk : ∀ (K : sK) (g : Nat → va_E) (H : Heap) (locs : List Loc) (ls : Array Slot), KO K → KR K → WF (shp ad K) ad cs g → va_P D vwCl (wL ad g 218) H → va_S (AL s) s.heap H locs → lv_has ls 4 [(3, .int ii), (2, .ref (ad 197)), (1, .ref (ad 0)), (0, .ref b)] → W p l e room_1 s m #[Value.ref b] below meth c H locs 218 6259 (lw_Z below #[Value.ref b] s) (F0 m 2069 ls [])) : W p l e room_1 s m #[Value.ref b] below meth c H locs 218 6259 (lw_Z below #[Value.ref b] s) (F0 m 1057 ls []) := by
  have hx := X.1
  have hb : c.code = cL_law := X.2.1
  obtain ⟨-, -, -, -, -, -, hX, hbl, -, -⟩ := id C0
  have hbA : ¬ AL s b := Nat.not_le.mpr hbl
  refine lv_aload_n hx hb dL_law_1057 rfl (lv_at hl 2 rfl) ?_
  refine lv_aload_n hx hb dL_law_1058 rfl (lv_at hl 3 rfl) ?_
  refine lv_iload_n hx hb dL_law_1059 rfl (lv_at hl 0 rfl) ?_
  refine lv_iconst (v := 1) hx hb dL_law_1060 (by decide) ?_
  refine lv_iadd hx hb dL_law_1061 ?_
  refine lv_topi (fun z_1 ez_1 => ?_)
  have hz_1 : z_1.toInt = ii.toInt + 1 := n_add rfl (by decide : (1 : Int32).toInt = 1) ez_1 (by omega) (by omega)
  refine va_sld hx hb hX hbl hbA hS (i := z_1) (n_in (rfl : z_1.toInt = z_1.toInt) (by omega) (by omega)) dL_law_1062 ?_
  refine lv_topi (fun x_2 ex_2 => ?_)
  refine lv_aload_n hx hb dL_law_1063 rfl (lv_at hl 3 rfl) ?_
  refine lv_iload_n hx hb dL_law_1064 rfl (lv_at hl 0 rfl) ?_
  refine lv_iconst (v := 2) hx hb dL_law_1065 (by decide) ?_
  refine lv_iadd hx hb dL_law_1066 ?_
  refine lv_topi (fun z_3 ez_3 => ?_)
  have hz_3 : z_3.toInt = ii.toInt + 2 := n_add rfl (by decide : (2 : Int32).toInt = 2) ez_3 (by omega) (by omega)
  refine va_sld hx hb hX hbl hbA hS (i := z_3) (n_in (rfl : z_3.toInt = z_3.toInt) (by omega) (by omega)) dL_law_1067 ?_
  refine lv_topi (fun x_4 ex_4 => ?_)
  obtain ⟨fso_5, hgo_5, -⟩ := hW.obj (i := 0) (by decide) (sh_0 ad _)
  refine s_calli (q := (RX11, TX11, 14)) (As := [.int x_2, .int x_4]) (rest := []) X Z (s_X11_doors l D cs ad kS K hKO hj g hW x_2 x_4) (cwV 2 X.2.2.2.2.1 gL_X11_doors rfl rfl rfl (by decide +kernel) ⟨Nat.le_of_ble_eq_true rfl, Nat.le_of_ble_eq_true rfl⟩) (by decide) hgo_5 rfl hP hA (fun a h _ => hS.2.1 a h (Nat.not_le.mpr h)) hS rfl hl.1 rfl (Nat.le_of_ble_eq_true rfl) dL_law_1068 ⟨Nat.le_of_ble_eq_true rfl, Nat.le_of_ble_eq_true rfl⟩ (fun r_7 g_6 H locs hw_8 hP hS => ?_)
  rw [hw_8] at hP
  refine lv_pop hx hb dL_law_1071 rfl ?_
  refine lv_aload_n hx hb dL_law_1072 rfl (lv_at hl 1 rfl) ?_
  refine lv_aload_n hx hb dL_law_1073 rfl (lv_at hl 3 rfl) ?_
  refine lv_iload_n hx hb dL_law_1074 rfl (lv_at hl 0 rfl) ?_
  refine lv_iconst (v := 1) hx hb dL_law_1075 (by decide) ?_
  refine lv_iadd hx hb dL_law_1076 ?_
  refine lv_topi (fun z_9 ez_9 => ?_)
  have hz_9 : z_9.toInt = ii.toInt + 1 := n_add rfl (by decide : (1 : Int32).toInt = 1) ez_9 (by omega) (by omega)
  refine va_sld hx hb hX hbl hbA hS (i := z_9) (n_in (rfl : z_9.toInt = z_9.toInt) (by omega) (by omega)) dL_law_1077 ?_
  refine lv_topi (fun x_10 ex_10 => ?_)
  obtain rfl : x_2 = x_10 := by rw [ex_2, ex_10, ez_1, ez_9]
  refine lv_aload_n hx hb dL_law_1078 rfl (lv_at hl 3 rfl) ?_
  refine lv_iload_n hx hb dL_law_1079 rfl (lv_at hl 0 rfl) ?_
  refine lv_iconst (v := 2) hx hb dL_law_1080 (by decide) ?_
  refine lv_iadd hx hb dL_law_1081 ?_
  refine lv_topi (fun z_11 ez_11 => ?_)
  have hz_11 : z_11.toInt = ii.toInt + 2 := n_add rfl (by decide : (2 : Int32).toInt = 2) ez_11 (by omega) (by omega)
  refine va_sld hx hb hX hbl hbA hS (i := z_11) (n_in (rfl : z_11.toInt = z_11.toInt) (by omega) (by omega)) dL_law_1082 ?_
  refine lv_topi (fun x_12 ex_12 => ?_)
  obtain rfl : x_4 = x_12 := by rw [ex_4, ex_12, ez_3, ez_11]
  obtain ⟨fso_13, hgo_13, -⟩ := hW.obj (i := 197) (by decide) (sh_197 ad _)
  refine s_calli (q := (RX12, TX12, 40)) (As := [.int x_2, .int x_4]) (rest := []) X Z (s_X12_doors l D cs ad kS K hKO hj g hW x_2 x_4) (cwV 2 X.2.2.2.2.1 gL_X12_doors rfl rfl rfl (by decide +kernel) ⟨Nat.le_of_ble_eq_true rfl, Nat.le_of_ble_eq_true rfl⟩) (by decide) hgo_13 rfl hP hA (fun a h _ => hS.2.1 a h (Nat.not_le.mpr h)) hS rfl hl.1 rfl (Nat.le_of_ble_eq_true rfl) dL_law_1083 ⟨Nat.le_of_ble_eq_true rfl, Nat.le_of_ble_eq_true rfl⟩ (fun r_15 g_14 H locs hw_16 hP hS => ?_)
  obtain ⟨hw_16W, hw_16f⟩ := hw_16
  refine lv_pop hx hb dL_law_1086 rfl ?_
  refine lv_goto (tgt := 2069) hx hb dL_law_1087 (by decide) ?_
  exact kk K g_14 _ _ ls hKO hR hw_16W hP hS hl

theorem dL_law_1090 : decode cL_law 1090 = .ok (.aload_n 1, 1) := by decide +kernel
theorem dL_law_1091 : decode cL_law 1091 = .ok (.aload_n 0, 1) := by decide +kernel
theorem dL_law_1092 : decode cL_law 1092 = .ok (.iload_n 3, 1) := by decide +kernel
theorem dL_law_1093 : decode cL_law 1093 = .ok (.iconst 1, 1) := by decide +kernel
theorem dL_law_1094 : decode cL_law 1094 = .ok (.iadd, 1) := by decide +kernel
theorem dL_law_1095 : decode cL_law 1095 = .ok (.iaload, 1) := by decide +kernel
theorem dL_law_1096 : decode cL_law 1096 = .ok (.invokevirtual 137, 3) := by decide +kernel
theorem dL_law_1099 : decode cL_law 1099 = .ok (.pop, 1) := by decide +kernel
theorem dL_law_1100 : decode cL_law 1100 = .ok (.aload_n 2, 1) := by decide +kernel
theorem dL_law_1101 : decode cL_law 1101 = .ok (.aload_n 0, 1) := by decide +kernel
theorem dL_law_1102 : decode cL_law 1102 = .ok (.iload_n 3, 1) := by decide +kernel
theorem dL_law_1103 : decode cL_law 1103 = .ok (.iconst 1, 1) := by decide +kernel
theorem dL_law_1104 : decode cL_law 1104 = .ok (.iadd, 1) := by decide +kernel
theorem dL_law_1105 : decode cL_law 1105 = .ok (.iaload, 1) := by decide +kernel
theorem dL_law_1106 : decode cL_law 1106 = .ok (.invokevirtual 140, 3) := by decide +kernel
theorem dL_law_1109 : decode cL_law 1109 = .ok (.pop, 1) := by decide +kernel
theorem dL_law_1110 : decode cL_law 1110 = .ok (.goto 959, 3) := by decide +kernel
set_option maxRecDepth 20000 in
theorem mT_X11_tells : wIn lw_tbl vX11_tells := wIn.cons (List.mem_of_getElem? (i := 864) (by decide +kernel)) (wIn.app (wIn.r _ [810, 812, 17, 98, 486, 212, 491, 836, 837, 838, 103] (by decide +kernel)) (wIn.app iT_11 (wIn.app iT_6 (wIn.app mT_X11_isTold mT_X10_timeAt))))
theorem gL_X11_tells : GoodIn lw_tbl (wsV RL 137 RX11 yX11_tells vX11_tells) := goodIn_app (goodIn_r _ [861, 862, 863, 98] (by decide +kernel) (by decide +kernel)) (fun w h => ⟨mT_X11_tells w h, gs_X11_tells w h⟩)
set_option maxRecDepth 20000 in
theorem mT_X12_tells : wIn lw_tbl vX12_tells := wIn.cons (List.mem_of_getElem? (i := 1688) (by decide +kernel)) (wIn.app (wIn.r _ [1596, 1598, 68, 110, 1689, 1387, 1388, 1540, 1542, 61, 1278, 1607, 1609, 69] (by decide +kernel)) (wIn.app iT_12 (wIn.app mT_X12_isStreet (wIn.app mT_X12_in (wIn.app mT_X12_layAll mT_X12_timeOf)))))
theorem gL_X12_tells : GoodIn lw_tbl (wsV RL 140 RX12 yX12_tells vX12_tells) := goodIn_app (goodIn_r _ [1685, 1686, 1687, 110] (by decide +kernel) (by decide +kernel)) (fun w h => ⟨mT_X12_tells w h, gs_X12_tells w h⟩)
set_option maxHeartbeats 8000000 in
set_option maxRecDepth 100000 in
theorem law_c30 {p : Program} {e : Env} {s : State} {m : MethodId} {below : List Frame} {meth : Method} {c : Code} (l : Launch) {b L : Nat} {xs : Nat → Int32} {D : va_G} {cs : Nat → ClassId} {ad : Nat → Nat} {kS : kSt} {K : sK} {g : Nat → va_E} {H : Heap} {locs : List Loc} (hL : L ≤ 3072) (C0 : lw_At p s m meth c b L xs) (X : CxL p s m b meth c D cs) (Z : SX ad kS s s.heap) (hj : wJ ad 218) (hA : ∀ i, i < 218 → AL s (ad i)) (hKO : KO K) (hR : KR K) (hW : WF (shp ad K) ad cs g) (hP : va_P D vwCl (wL ad g 218) H) (hS : va_S (AL s) s.heap H locs) (ls : Array Slot) (ii : Int32) (hi0 : 0 ≤ ii.toInt) (hi1 : ii.toInt + 6 ≤ L) (hl : lv_has ls 4 [(3, .int ii), (2, .ref (ad 197)), (1, .ref (ad 0)), (0, .ref b)]) (kk : ∀ (K : sK) (g : Nat → va_E) (H : Heap) (locs : List Loc) (ls : Array Slot), KO K → KR K → WF (shp ad K) ad cs g → va_P D vwCl (wL ad g 218) H → va_S (AL s) s.heap H locs → lv_has ls 4 [(3, .int ii), (2, .ref (ad 197)), (1, .ref (ad 0)), (0, .ref b)] → W p l e room_1 s m #[Value.ref b] below meth c H locs 218 6259 (lw_Z below #[Value.ref b] s) (F0 m 2069 ls [])) : W p l e room_1 s m #[Value.ref b] below meth c H locs 218 6259 (lw_Z below #[Value.ref b] s) (F0 m 1090 ls []) := by
  have hx := X.1
  have hb : c.code = cL_law := X.2.1
  obtain ⟨-, -, -, -, -, -, hX, hbl, -, -⟩ := id C0
  have hbA : ¬ AL s b := Nat.not_le.mpr hbl
  refine lv_aload_n hx hb dL_law_1090 rfl (lv_at hl 2 rfl) ?_
  refine lv_aload_n hx hb dL_law_1091 rfl (lv_at hl 3 rfl) ?_
  refine lv_iload_n hx hb dL_law_1092 rfl (lv_at hl 0 rfl) ?_
  refine lv_iconst (v := 1) hx hb dL_law_1093 (by decide) ?_
  refine lv_iadd hx hb dL_law_1094 ?_
  refine lv_topi (fun z_1 ez_1 => ?_)
  have hz_1 : z_1.toInt = ii.toInt + 1 := n_add rfl (by decide : (1 : Int32).toInt = 1) ez_1 (by omega) (by omega)
  refine va_sld hx hb hX hbl hbA hS (i := z_1) (n_in (rfl : z_1.toInt = z_1.toInt) (by omega) (by omega)) dL_law_1095 ?_
  refine lv_topi (fun x_2 ex_2 => ?_)
  obtain ⟨fso_3, hgo_3, -⟩ := hW.obj (i := 0) (by decide) (sh_0 ad _)
  refine s_calli (q := (RX11, TX11, 14)) (As := [.int x_2]) (rest := []) X Z (s_X11_tells l D cs ad kS K hKO hj g hW x_2) (cwV 1 X.2.2.2.2.1 gL_X11_tells rfl rfl rfl (by decide +kernel) ⟨Nat.le_of_ble_eq_true rfl, Nat.le_of_ble_eq_true rfl⟩) (by decide) hgo_3 rfl hP hA (fun a h _ => hS.2.1 a h (Nat.not_le.mpr h)) hS rfl hl.1 rfl (Nat.le_of_ble_eq_true rfl) dL_law_1096 ⟨Nat.le_of_ble_eq_true rfl, Nat.le_of_ble_eq_true rfl⟩ (fun r_5 g_4 H locs hw_6 hP hS => ?_)
  rw [hw_6] at hP
  refine lv_pop hx hb dL_law_1099 rfl ?_
  refine lv_aload_n hx hb dL_law_1100 rfl (lv_at hl 1 rfl) ?_
  refine lv_aload_n hx hb dL_law_1101 rfl (lv_at hl 3 rfl) ?_
  refine lv_iload_n hx hb dL_law_1102 rfl (lv_at hl 0 rfl) ?_
  refine lv_iconst (v := 1) hx hb dL_law_1103 (by decide) ?_
  refine lv_iadd hx hb dL_law_1104 ?_
  refine lv_topi (fun z_7 ez_7 => ?_)
  have hz_7 : z_7.toInt = ii.toInt + 1 := n_add rfl (by decide : (1 : Int32).toInt = 1) ez_7 (by omega) (by omega)
  refine va_sld hx hb hX hbl hbA hS (i := z_7) (n_in (rfl : z_7.toInt = z_7.toInt) (by omega) (by omega)) dL_law_1105 ?_
  refine lv_topi (fun x_8 ex_8 => ?_)
  obtain rfl : x_2 = x_8 := by rw [ex_2, ex_8, ez_1, ez_7]
  obtain ⟨fso_9, hgo_9, -⟩ := hW.obj (i := 197) (by decide) (sh_197 ad _)
  refine s_calli (q := (RX12, TX12, 40)) (As := [.int x_2]) (rest := []) X Z (s_X12_tells l D cs ad kS K hKO hj g hW x_2) (cwV 1 X.2.2.2.2.1 gL_X12_tells rfl rfl rfl (by decide +kernel) ⟨Nat.le_of_ble_eq_true rfl, Nat.le_of_ble_eq_true rfl⟩) (by decide) hgo_9 rfl hP hA (fun a h _ => hS.2.1 a h (Nat.not_le.mpr h)) hS rfl hl.1 rfl (Nat.le_of_ble_eq_true rfl) dL_law_1106 ⟨Nat.le_of_ble_eq_true rfl, Nat.le_of_ble_eq_true rfl⟩ (fun r_11 g_10 H locs hw_12 hP hS => ?_)
  obtain ⟨hw_12W, hw_12f⟩ := hw_12
  refine lv_pop hx hb dL_law_1109 rfl ?_
  refine lv_goto (tgt := 2069) hx hb dL_law_1110 (by decide) ?_
  exact kk K g_10 _ _ ls hKO hR hw_12W hP hS hl

theorem dL_law_1113 : decode cL_law 1113 = .ok (.aload_n 1, 1) := by decide +kernel
theorem dL_law_1114 : decode cL_law 1114 = .ok (.aload_n 0, 1) := by decide +kernel
theorem dL_law_1115 : decode cL_law 1115 = .ok (.iload_n 3, 1) := by decide +kernel
theorem dL_law_1116 : decode cL_law 1116 = .ok (.iconst 1, 1) := by decide +kernel
theorem dL_law_1117 : decode cL_law 1117 = .ok (.iadd, 1) := by decide +kernel
theorem dL_law_1118 : decode cL_law 1118 = .ok (.iaload, 1) := by decide +kernel
theorem dL_law_1119 : decode cL_law 1119 = .ok (.aload_n 0, 1) := by decide +kernel
theorem dL_law_1120 : decode cL_law 1120 = .ok (.iload_n 3, 1) := by decide +kernel
theorem dL_law_1121 : decode cL_law 1121 = .ok (.iconst 2, 1) := by decide +kernel
theorem dL_law_1122 : decode cL_law 1122 = .ok (.iadd, 1) := by decide +kernel
theorem dL_law_1123 : decode cL_law 1123 = .ok (.iaload, 1) := by decide +kernel
theorem dL_law_1124 : decode cL_law 1124 = .ok (.invokevirtual 141, 3) := by decide +kernel
theorem dL_law_1127 : decode cL_law 1127 = .ok (.pop, 1) := by decide +kernel
theorem dL_law_1128 : decode cL_law 1128 = .ok (.aload_n 2, 1) := by decide +kernel
theorem dL_law_1129 : decode cL_law 1129 = .ok (.aload_n 0, 1) := by decide +kernel
theorem dL_law_1130 : decode cL_law 1130 = .ok (.iload_n 3, 1) := by decide +kernel
theorem dL_law_1131 : decode cL_law 1131 = .ok (.iconst 1, 1) := by decide +kernel
theorem dL_law_1132 : decode cL_law 1132 = .ok (.iadd, 1) := by decide +kernel
theorem dL_law_1133 : decode cL_law 1133 = .ok (.iaload, 1) := by decide +kernel
theorem dL_law_1134 : decode cL_law 1134 = .ok (.aload_n 0, 1) := by decide +kernel
theorem dL_law_1135 : decode cL_law 1135 = .ok (.iload_n 3, 1) := by decide +kernel
theorem dL_law_1136 : decode cL_law 1136 = .ok (.iconst 2, 1) := by decide +kernel
theorem dL_law_1137 : decode cL_law 1137 = .ok (.iadd, 1) := by decide +kernel
theorem dL_law_1138 : decode cL_law 1138 = .ok (.iaload, 1) := by decide +kernel
theorem dL_law_1139 : decode cL_law 1139 = .ok (.invokevirtual 144, 3) := by decide +kernel
theorem dL_law_1142 : decode cL_law 1142 = .ok (.pop, 1) := by decide +kernel
theorem dL_law_1143 : decode cL_law 1143 = .ok (.goto 926, 3) := by decide +kernel
set_option maxRecDepth 20000 in
theorem mT_X10_fallsUnder : wIn lw_tbl vX10_fallsUnder := wIn.cons (List.mem_of_getElem? (i := 827) (by decide +kernel)) (wIn.app (wIn.r _ [219, 247, 351] (by decide +kernel)) (wIn.app iT_6 iT_10))
set_option maxRecDepth 20000 in
theorem mT_X11_next : wIn lw_tbl vX11_next := wIn.cons (List.mem_of_getElem? (i := 823) (by decide +kernel)) (wIn.app (wIn.r _ [733, 735, 14, 98, 725, 727, 13, 486, 212, 491, 824, 825, 826, 103] (by decide +kernel)) (wIn.app iT_11 (wIn.app iT_6 (wIn.app mT_X11_isEave (wIn.app mT_X11_isDay mT_X10_fallsUnder)))))
theorem gL_X11_next : GoodIn lw_tbl (wsV RL 141 RX11 yX11_next vX11_next) := goodIn_app (goodIn_r _ [820, 821, 822, 98] (by decide +kernel) (by decide +kernel)) (fun w h => ⟨mT_X11_next w h, gs_X11_next w h⟩)
set_option maxRecDepth 20000 in
theorem mT_X12_dropsAt : wIn lw_tbl vX12_dropsAt := wIn.cons (List.mem_of_getElem? (i := 1697) (by decide +kernel)) (wIn.app (wIn.r _ [1262, 1520, 1522, 59, 110, 1277] (by decide +kernel)) (wIn.app iT_12 mT_X12_of))
set_option maxRecDepth 20000 in
theorem mT_X12_next : wIn lw_tbl vX12_next := wIn.cons (List.mem_of_getElem? (i := 1693) (by decide +kernel)) (wIn.app (wIn.r _ [1501, 1503, 56, 110, 1489, 1491, 54, 1540, 1542, 61, 1278, 1694, 1696, 75] (by decide +kernel)) (wIn.app iT_12 (wIn.app mT_X12_isEave (wIn.app mT_X12_isDay (wIn.app mT_X12_layAll mT_X12_dropsAt)))))
theorem gL_X12_next : GoodIn lw_tbl (wsV RL 144 RX12 yX12_next vX12_next) := goodIn_app (goodIn_r _ [1690, 1691, 1692, 110] (by decide +kernel) (by decide +kernel)) (fun w h => ⟨mT_X12_next w h, gs_X12_next w h⟩)
set_option maxHeartbeats 8000000 in
set_option maxRecDepth 100000 in
theorem law_c31 {p : Program} {e : Env} {s : State} {m : MethodId} {below : List Frame} {meth : Method} {c : Code} (l : Launch) {b L : Nat} {xs : Nat → Int32} {D : va_G} {cs : Nat → ClassId} {ad : Nat → Nat} {kS : kSt} {K : sK} {g : Nat → va_E} {H : Heap} {locs : List Loc} (hL : L ≤ 3072) (C0 : lw_At p s m meth c b L xs) (X : CxL p s m b meth c D cs) (Z : SX ad kS s s.heap) (hj : wJ ad 218) (hA : ∀ i, i < 218 → AL s (ad i)) (hKO : KO K) (hR : KR K) (hW : WF (shp ad K) ad cs g) (hP : va_P D vwCl (wL ad g 218) H) (hS : va_S (AL s) s.heap H locs) (ls : Array Slot) (ii : Int32) (hi0 : 0 ≤ ii.toInt) (hi1 : ii.toInt + 6 ≤ L) (hl : lv_has ls 4 [(3, .int ii), (2, .ref (ad 197)), (1, .ref (ad 0)), (0, .ref b)]) (kk : ∀ (K : sK) (g : Nat → va_E) (H : Heap) (locs : List Loc) (ls : Array Slot), KO K → KR K → WF (shp ad K) ad cs g → va_P D vwCl (wL ad g 218) H → va_S (AL s) s.heap H locs → lv_has ls 4 [(3, .int ii), (2, .ref (ad 197)), (1, .ref (ad 0)), (0, .ref b)] → W p l e room_1 s m #[Value.ref b] below meth c H locs 218 6259 (lw_Z below #[Value.ref b] s) (F0 m 2069 ls [])) : W p l e room_1 s m #[Value.ref b] below meth c H locs 218 6259 (lw_Z below #[Value.ref b] s) (F0 m 1113 ls []) := by
  have hx := X.1
  have hb : c.code = cL_law := X.2.1
  obtain ⟨-, -, -, -, -, -, hX, hbl, -, -⟩ := id C0
  have hbA : ¬ AL s b := Nat.not_le.mpr hbl
  refine lv_aload_n hx hb dL_law_1113 rfl (lv_at hl 2 rfl) ?_
  refine lv_aload_n hx hb dL_law_1114 rfl (lv_at hl 3 rfl) ?_
  refine lv_iload_n hx hb dL_law_1115 rfl (lv_at hl 0 rfl) ?_
  refine lv_iconst (v := 1) hx hb dL_law_1116 (by decide) ?_
  refine lv_iadd hx hb dL_law_1117 ?_
  refine lv_topi (fun z_1 ez_1 => ?_)
  have hz_1 : z_1.toInt = ii.toInt + 1 := n_add rfl (by decide : (1 : Int32).toInt = 1) ez_1 (by omega) (by omega)
  refine va_sld hx hb hX hbl hbA hS (i := z_1) (n_in (rfl : z_1.toInt = z_1.toInt) (by omega) (by omega)) dL_law_1118 ?_
  refine lv_topi (fun x_2 ex_2 => ?_)
  refine lv_aload_n hx hb dL_law_1119 rfl (lv_at hl 3 rfl) ?_
  refine lv_iload_n hx hb dL_law_1120 rfl (lv_at hl 0 rfl) ?_
  refine lv_iconst (v := 2) hx hb dL_law_1121 (by decide) ?_
  refine lv_iadd hx hb dL_law_1122 ?_
  refine lv_topi (fun z_3 ez_3 => ?_)
  have hz_3 : z_3.toInt = ii.toInt + 2 := n_add rfl (by decide : (2 : Int32).toInt = 2) ez_3 (by omega) (by omega)
  refine va_sld hx hb hX hbl hbA hS (i := z_3) (n_in (rfl : z_3.toInt = z_3.toInt) (by omega) (by omega)) dL_law_1123 ?_
  refine lv_topi (fun x_4 ex_4 => ?_)
  obtain ⟨fso_5, hgo_5, -⟩ := hW.obj (i := 0) (by decide) (sh_0 ad _)
  refine s_calli (q := (RX11, TX11, 14)) (As := [.int x_2, .int x_4]) (rest := []) X Z (s_X11_next l D cs ad kS K hKO hj g hW x_2 x_4) (cwV 2 X.2.2.2.2.1 gL_X11_next rfl rfl rfl (by decide +kernel) ⟨Nat.le_of_ble_eq_true rfl, Nat.le_of_ble_eq_true rfl⟩) (by decide) hgo_5 rfl hP hA (fun a h _ => hS.2.1 a h (Nat.not_le.mpr h)) hS rfl hl.1 rfl (Nat.le_of_ble_eq_true rfl) dL_law_1124 ⟨Nat.le_of_ble_eq_true rfl, Nat.le_of_ble_eq_true rfl⟩ (fun r_7 g_6 H locs hw_8 hP hS => ?_)
  rw [hw_8] at hP
  refine lv_pop hx hb dL_law_1127 rfl ?_
  refine lv_aload_n hx hb dL_law_1128 rfl (lv_at hl 1 rfl) ?_
  refine lv_aload_n hx hb dL_law_1129 rfl (lv_at hl 3 rfl) ?_
  refine lv_iload_n hx hb dL_law_1130 rfl (lv_at hl 0 rfl) ?_
  refine lv_iconst (v := 1) hx hb dL_law_1131 (by decide) ?_
  refine lv_iadd hx hb dL_law_1132 ?_
  refine lv_topi (fun z_9 ez_9 => ?_)
  have hz_9 : z_9.toInt = ii.toInt + 1 := n_add rfl (by decide : (1 : Int32).toInt = 1) ez_9 (by omega) (by omega)
  refine va_sld hx hb hX hbl hbA hS (i := z_9) (n_in (rfl : z_9.toInt = z_9.toInt) (by omega) (by omega)) dL_law_1133 ?_
  refine lv_topi (fun x_10 ex_10 => ?_)
  obtain rfl : x_2 = x_10 := by rw [ex_2, ex_10, ez_1, ez_9]
  refine lv_aload_n hx hb dL_law_1134 rfl (lv_at hl 3 rfl) ?_
  refine lv_iload_n hx hb dL_law_1135 rfl (lv_at hl 0 rfl) ?_
  refine lv_iconst (v := 2) hx hb dL_law_1136 (by decide) ?_
  refine lv_iadd hx hb dL_law_1137 ?_
  refine lv_topi (fun z_11 ez_11 => ?_)
  have hz_11 : z_11.toInt = ii.toInt + 2 := n_add rfl (by decide : (2 : Int32).toInt = 2) ez_11 (by omega) (by omega)
  refine va_sld hx hb hX hbl hbA hS (i := z_11) (n_in (rfl : z_11.toInt = z_11.toInt) (by omega) (by omega)) dL_law_1138 ?_
  refine lv_topi (fun x_12 ex_12 => ?_)
  obtain rfl : x_4 = x_12 := by rw [ex_4, ex_12, ez_3, ez_11]
  obtain ⟨fso_13, hgo_13, -⟩ := hW.obj (i := 197) (by decide) (sh_197 ad _)
  refine s_calli (q := (RX12, TX12, 40)) (As := [.int x_2, .int x_4]) (rest := []) X Z (s_X12_next l D cs ad kS K hKO hj g hW x_2 x_4) (cwV 2 X.2.2.2.2.1 gL_X12_next rfl rfl rfl (by decide +kernel) ⟨Nat.le_of_ble_eq_true rfl, Nat.le_of_ble_eq_true rfl⟩) (by decide) hgo_13 rfl hP hA (fun a h _ => hS.2.1 a h (Nat.not_le.mpr h)) hS rfl hl.1 rfl (Nat.le_of_ble_eq_true rfl) dL_law_1139 ⟨Nat.le_of_ble_eq_true rfl, Nat.le_of_ble_eq_true rfl⟩ (fun r_15 g_14 H locs hw_16 hP hS => ?_)
  obtain ⟨hw_16W, hw_16f⟩ := hw_16
  refine lv_pop hx hb dL_law_1142 rfl ?_
  refine lv_goto (tgt := 2069) hx hb dL_law_1143 (by decide) ?_
  exact kk K g_14 _ _ ls hKO hR hw_16W hP hS hl

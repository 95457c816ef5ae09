theorem dX11_feed_0 : decode cX11_feed 0 = .ok (.aload_n 0, 1) := by decide +kernel
theorem dX11_feed_1 : decode cX11_feed 1 = .ok (.getfield 12, 3) := by decide +kernel
theorem dX11_feed_4 : decode cX11_feed 4 = .ok (.getfield 93, 3) := by decide +kernel
theorem dX11_feed_7 : decode cX11_feed 7 = .ok (.sipush 980, 3) := by decide +kernel
theorem dX11_feed_10 : decode cX11_feed 10 = .ok (.if_icmp .le 5, 3) := by decide +kernel
theorem dX11_feed_13 : decode cX11_feed 13 = .ok (.iconst (-1), 1) := by decide +kernel
theorem dX11_feed_14 : decode cX11_feed 14 = .ok (.ireturn, 1) := by decide +kernel
theorem dX11_feed_15 : decode cX11_feed 15 = .ok (.aload_n 0, 1) := by decide +kernel
theorem dX11_feed_16 : decode cX11_feed 16 = .ok (.getfield 12, 3) := by decide +kernel
theorem dX11_feed_19 : decode cX11_feed 19 = .ok (.iload_n 1, 1) := by decide +kernel
theorem dX11_feed_20 : decode cX11_feed 20 = .ok (.invokevirtual 97, 3) := by decide +kernel
theorem dX11_feed_23 : decode cX11_feed 23 = .ok (.aload_n 0, 1) := by decide +kernel
theorem dX11_feed_24 : decode cX11_feed 24 = .ok (.getfield 12, 3) := by decide +kernel
theorem dX11_feed_27 : decode cX11_feed 27 = .ok (.iload_n 2, 1) := by decide +kernel
theorem dX11_feed_28 : decode cX11_feed 28 = .ok (.invokevirtual 97, 3) := by decide +kernel
theorem dX11_feed_31 : decode cX11_feed 31 = .ok (.aload_n 0, 1) := by decide +kernel
theorem dX11_feed_32 : decode cX11_feed 32 = .ok (.getfield 12, 3) := by decide +kernel
theorem dX11_feed_35 : decode cX11_feed 35 = .ok (.iload_n 3, 1) := by decide +kernel
theorem dX11_feed_36 : decode cX11_feed 36 = .ok (.invokevirtual 97, 3) := by decide +kernel
theorem dX11_feed_39 : decode cX11_feed 39 = .ok (.aload_n 0, 1) := by decide +kernel
theorem dX11_feed_40 : decode cX11_feed 40 = .ok (.getfield 12, 3) := by decide +kernel
theorem dX11_feed_43 : decode cX11_feed 43 = .ok (.iload 4, 2) := by decide +kernel
theorem dX11_feed_45 : decode cX11_feed 45 = .ok (.invokevirtual 97, 3) := by decide +kernel
theorem dX11_feed_48 : decode cX11_feed 48 = .ok (.aload_n 0, 1) := by decide +kernel
theorem dX11_feed_49 : decode cX11_feed 49 = .ok (.getfield 12, 3) := by decide +kernel
theorem dX11_feed_52 : decode cX11_feed 52 = .ok (.iload 5, 2) := by decide +kernel
theorem dX11_feed_54 : decode cX11_feed 54 = .ok (.invokevirtual 97, 3) := by decide +kernel
theorem dX11_feed_57 : decode cX11_feed 57 = .ok (.aload_n 0, 1) := by decide +kernel
theorem dX11_feed_58 : decode cX11_feed 58 = .ok (.getfield 12, 3) := by decide +kernel
theorem dX11_feed_61 : decode cX11_feed 61 = .ok (.getfield 93, 3) := by decide +kernel
theorem dX11_feed_64 : decode cX11_feed 64 = .ok (.ireturn, 1) := by decide +kernel
noncomputable def vX11_feed : List Cond := .code yX11_feed cX11_feed 6 (some .int) :: (([.fieldLink RX11 12 "IcicleClock" "tape" "LIcicleClock$Tape;", .fieldLink RX11 93 "IcicleClock$Tape" "filled" "I", .methodLink RX11 97 yX7_putFour, .instanceMethod yX7_putFour, .selects RX7 yX7_putFour yX7_putFour, .initialized RX7] : List Cond) ++ (wsX110 ++ (wsX70 ++ vX7_putFour)))
theorem iX11_feed_11 : ∀ w ∈ wsX110, w ∈ vX11_feed := fun _ h => List.mem_cons_of_mem _ (List.mem_append_right _ (List.mem_append_left _ h))
theorem iX11_feed_7 : ∀ w ∈ wsX70, w ∈ vX11_feed := fun _ h => List.mem_cons_of_mem _ (List.mem_append_right _ (List.mem_append_right _ (List.mem_append_left _ h)))
theorem gs_X11_feed : Gd vX11_feed := Gd.cons (by decide +kernel) (Gd.app (Gd.r (by decide +kernel)) (Gd.app gwX_11 (Gd.app gwX_7 gs_X7_putFour)))
theorem gg_X11_feed_X7_putFour : GoodIn vX11_feed (wsV RX11 97 RX7 yX7_putFour vX7_putFour) := goodIn_app (goodIn_r _ [3, 4, 5, 6] (by decide +kernel) (by decide +kernel)) (fun w h => ⟨List.mem_cons_of_mem _ (List.mem_append_right _ (List.mem_append_right _ (List.mem_append_right _ (h)))), gs_X7_putFour w h⟩)
set_option maxHeartbeats 4000000 in
set_option maxRecDepth 100000 in
theorem s_X11_feed (l : Launch) (D : va_G) (cs : Nat → ClassId) (ad : Nat → Nat) (kS : kSt) (K : sK) (hKO : KO K) (hj : wJ ad 218) (g : Nat → va_E) (hW : WF (shp ad K) ad cs g) (a1 : Int32) (a2 : Int32) (a3 : Int32) (a4 : Int32) (a5 : Int32) : sI l yX11_feed vX11_feed { frames := 1, cells := 0, slots := 0, locals := 22 } D cs ad kS [.ref (ad 0), .int a1, .int a2, .int a3, .int a4, .int a5] g (fun r g2 => WF (shp ad K) ad cs g2 ∧ (∀ j, j ≠ 1 ∧ j ≠ 2 → g2 j = g j)) := by
  refine Met.startS (cc := cX11_feed) (maxL := 6) (ret := (some .int)) RX11 rfl (by decide) rfl (Nat.le_of_ble_eq_true rfl) ?_
  intro p e s m below meth c ls X Z hP hl
  have hx := X.1
  have hb := X.2.1
  have hS : va_S (wA ad 218) s.heap s.heap [] := va_S.rf
  have hA : ∀ i, i < 218 → wA ad 218 (ad i) := fun i h => ⟨i, h, rfl⟩
  have hfr : ∀ j, j ≠ 1 ∧ j ≠ 2 → g j = g j := fun _ _ => rfl
  have hl : lv_has ls 6 [(0, .ref (ad 0)), (1, .int a1), (2, .int a2), (3, .int a3), (4, .int a4), (5, .int a5)] := hl
  refine lv_aload_n hx hb dX11_feed_0 rfl (lv_at hl 0 rfl) ?_
  obtain ⟨fsc_1, hgc_1, hOc_1⟩ := hW.obj (i := 0) (by decide) (sh_0 ad K)
  have hk_2 := hOc_1.ref 0 rfl
  refine q_get X iX11_feed_11 hP (by decide) hgc_1 rfl 0 (by decide) (List.mem_of_getElem? (i := 1) rfl) (v := .ref (ad 1)) hk_2 dX11_feed_1 ?_
  obtain ⟨fsc_3, hgc_3, hOc_3⟩ := hW.obj (i := 1) (by decide) (sh_1 ad K)
  obtain ⟨x_5, hk_4, hlx_5, hhx_5⟩ := hOc_3.int 1 rfl
  refine q_get X iX11_feed_7 hP (by decide) hgc_3 rfl 1 (by decide) (List.mem_of_getElem? (i := 2) rfl) (v := .int x_5) hk_4 dX11_feed_4 ?_
  refine lv_sipush (v := 980) hx hb dX11_feed_7 (by decide) ?_
  refine lv_icmp_le (tgt := 15) hx hb dX11_feed_10 (by decide) (fun hc_6 => ?_) (fun hc_6 => ?_)
  · have hhc_6 := n_le (rfl : x_5.toInt = x_5.toInt) (by decide : (980 : Int32).toInt = 980) hc_6
    refine lv_aload_n hx hb dX11_feed_15 rfl (lv_at hl 0 rfl) ?_
    refine q_get X iX11_feed_11 hP (by decide) hgc_1 rfl 0 (by decide) (List.mem_of_getElem? (i := 1) rfl) (v := .ref (ad 1)) hk_2 dX11_feed_16 ?_
    refine lv_iload_n hx hb dX11_feed_19 rfl (lv_at hl 1 rfl) ?_
    refine s_callv (q := (RX7, TX7, 7)) (As := [.int a1]) (rest := []) X Z (s_X7_putFour l D cs ad kS K hKO hj g hW a1) (cwV 1 X.2.2.2.2.1 gg_X11_feed_X7_putFour rfl rfl rfl (by decide +kernel) ⟨Nat.le_of_ble_eq_true rfl, Nat.le_of_ble_eq_true rfl⟩) (by decide) hgc_3 rfl hP hA hS.2.1 hS rfl hl.1 rfl (Nat.le_of_ble_eq_true rfl) dX11_feed_20 ⟨Nat.le_of_ble_eq_true rfl, Nat.le_of_ble_eq_true rfl⟩ (fun g_8 H locs hw_7 hP hS => ?_)
    obtain ⟨hw_7W, hw_7f⟩ := hw_7
    have hfr_10 : ∀ j, j ≠ 1 ∧ j ≠ 2 → g_8 j = g j := fun j hj => (hw_7f j (by omega)).trans (hfr j hj)
    have hg_11 := (hw_7f 0 (by omega)).trans hgc_1
    refine lv_aload_n hx hb dX11_feed_23 rfl (lv_at hl 0 rfl) ?_
    refine q_get X iX11_feed_11 hP (by decide) hg_11 rfl 0 (by decide) (List.mem_of_getElem? (i := 1) rfl) (v := .ref (ad 1)) hk_2 dX11_feed_24 ?_
    refine lv_iload_n hx hb dX11_feed_27 rfl (lv_at hl 2 rfl) ?_
    obtain ⟨fsc_15, hgc_15, hOc_15⟩ := hw_7W.obj (i := 1) (by decide) (sh_1 ad K)
    refine s_callv (q := (RX7, TX7, 7)) (As := [.int a2]) (rest := []) X Z (s_X7_putFour l D cs ad kS K hKO hj g_8 hw_7W a2) (cwV 1 X.2.2.2.2.1 gg_X11_feed_X7_putFour rfl rfl rfl (by decide +kernel) ⟨Nat.le_of_ble_eq_true rfl, Nat.le_of_ble_eq_true rfl⟩) (by decide) hgc_15 rfl hP hA hS.2.1 hS rfl hl.1 rfl (Nat.le_of_ble_eq_true rfl) dX11_feed_28 ⟨Nat.le_of_ble_eq_true rfl, Nat.le_of_ble_eq_true rfl⟩ (fun g_13 H locs hw_12 hP hS => ?_)
    obtain ⟨hw_12W, hw_12f⟩ := hw_12
    have hfr_16 : ∀ j, j ≠ 1 ∧ j ≠ 2 → g_13 j = g j := fun j hj => (hw_12f j (by omega)).trans (hfr_10 j hj)
    have hg_17 := (hw_12f 0 (by omega)).trans hg_11
    refine lv_aload_n hx hb dX11_feed_31 rfl (lv_at hl 0 rfl) ?_
    refine q_get X iX11_feed_11 hP (by decide) hg_17 rfl 0 (by decide) (List.mem_of_getElem? (i := 1) rfl) (v := .ref (ad 1)) hk_2 dX11_feed_32 ?_
    refine lv_iload_n hx hb dX11_feed_35 rfl (lv_at hl 3 rfl) ?_
    obtain ⟨fsc_21, hgc_21, hOc_21⟩ := hw_12W.obj (i := 1) (by decide) (sh_1 ad K)
    refine s_callv (q := (RX7, TX7, 7)) (As := [.int a3]) (rest := []) X Z (s_X7_putFour l D cs ad kS K hKO hj g_13 hw_12W a3) (cwV 1 X.2.2.2.2.1 gg_X11_feed_X7_putFour rfl rfl rfl (by decide +kernel) ⟨Nat.le_of_ble_eq_true rfl, Nat.le_of_ble_eq_true rfl⟩) (by decide) hgc_21 rfl hP hA hS.2.1 hS rfl hl.1 rfl (Nat.le_of_ble_eq_true rfl) dX11_feed_36 ⟨Nat.le_of_ble_eq_true rfl, Nat.le_of_ble_eq_true rfl⟩ (fun g_19 H locs hw_18 hP hS => ?_)
    obtain ⟨hw_18W, hw_18f⟩ := hw_18
    have hfr_22 : ∀ j, j ≠ 1 ∧ j ≠ 2 → g_19 j = g j := fun j hj => (hw_18f j (by omega)).trans (hfr_16 j hj)
    have hg_23 := (hw_18f 0 (by omega)).trans hg_17
    refine lv_aload_n hx hb dX11_feed_39 rfl (lv_at hl 0 rfl) ?_
    refine q_get X iX11_feed_11 hP (by decide) hg_23 rfl 0 (by decide) (List.mem_of_getElem? (i := 1) rfl) (v := .ref (ad 1)) hk_2 dX11_feed_40 ?_
    refine lv_iload hx hb dX11_feed_43 (lv_at hl 4 rfl) ?_
    obtain ⟨fsc_27, hgc_27, hOc_27⟩ := hw_18W.obj (i := 1) (by decide) (sh_1 ad K)
    refine s_callv (q := (RX7, TX7, 7)) (As := [.int a4]) (rest := []) X Z (s_X7_putFour l D cs ad kS K hKO hj g_19 hw_18W a4) (cwV 1 X.2.2.2.2.1 gg_X11_feed_X7_putFour rfl rfl rfl (by decide +kernel) ⟨Nat.le_of_ble_eq_true rfl, Nat.le_of_ble_eq_true rfl⟩) (by decide) hgc_27 rfl hP hA hS.2.1 hS rfl hl.1 rfl (Nat.le_of_ble_eq_true rfl) dX11_feed_45 ⟨Nat.le_of_ble_eq_true rfl, Nat.le_of_ble_eq_true rfl⟩ (fun g_25 H locs hw_24 hP hS => ?_)
    obtain ⟨hw_24W, hw_24f⟩ := hw_24
    have hfr_28 : ∀ j, j ≠ 1 ∧ j ≠ 2 → g_25 j = g j := fun j hj => (hw_24f j (by omega)).trans (hfr_22 j hj)
    have hg_29 := (hw_24f 0 (by omega)).trans hg_23
    refine lv_aload_n hx hb dX11_feed_48 rfl (lv_at hl 0 rfl) ?_
    refine q_get X iX11_feed_11 hP (by decide) hg_29 rfl 0 (by decide) (List.mem_of_getElem? (i := 1) rfl) (v := .ref (ad 1)) hk_2 dX11_feed_49 ?_
    refine lv_iload hx hb dX11_feed_52 (lv_at hl 5 rfl) ?_
    obtain ⟨fsc_33, hgc_33, hOc_33⟩ := hw_24W.obj (i := 1) (by decide) (sh_1 ad K)
    refine s_callv (q := (RX7, TX7, 7)) (As := [.int a5]) (rest := []) X Z (s_X7_putFour l D cs ad kS K hKO hj g_25 hw_24W a5) (cwV 1 X.2.2.2.2.1 gg_X11_feed_X7_putFour rfl rfl rfl (by decide +kernel) ⟨Nat.le_of_ble_eq_true rfl, Nat.le_of_ble_eq_true rfl⟩) (by decide) hgc_33 rfl hP hA hS.2.1 hS rfl hl.1 rfl (Nat.le_of_ble_eq_true rfl) dX11_feed_54 ⟨Nat.le_of_ble_eq_true rfl, Nat.le_of_ble_eq_true rfl⟩ (fun g_31 H locs hw_30 hP hS => ?_)
    obtain ⟨hw_30W, hw_30f⟩ := hw_30
    have hfr_34 : ∀ j, j ≠ 1 ∧ j ≠ 2 → g_31 j = g j := fun j hj => (hw_30f j (by omega)).trans (hfr_28 j hj)
    have hg_35 := (hw_30f 0 (by omega)).trans hg_29
    refine lv_aload_n hx hb dX11_feed_57 rfl (lv_at hl 0 rfl) ?_
    refine q_get X iX11_feed_11 hP (by decide) hg_35 rfl 0 (by decide) (List.mem_of_getElem? (i := 1) rfl) (v := .ref (ad 1)) hk_2 dX11_feed_58 ?_
    obtain ⟨fsc_36, hgc_36, hOc_36⟩ := hw_30W.obj (i := 1) (by decide) (sh_1 ad K)
    obtain ⟨x_38, hk_37, hlx_38, hhx_38⟩ := hOc_36.int 1 rfl
    refine q_get X iX11_feed_7 hP (by decide) hgc_36 rfl 1 (by decide) (List.mem_of_getElem? (i := 2) rfl) (v := .int x_38) hk_37 dX11_feed_61 ?_
    exact q_iret X hP hS ⟨hw_30W, hfr_34⟩ dX11_feed_64
  · have hhc_6 := n_nle (rfl : x_5.toInt = x_5.toInt) (by decide : (980 : Int32).toInt = 980) hc_6
    refine lv_iconst (v := (-1)) hx hb dX11_feed_13 (by decide) ?_
    exact q_iret X hP hS ⟨hW, hfr⟩ dX11_feed_14

theorem dX11_end_0 : decode cX11_end 0 = .ok (.iload_n 1, 1) := by decide +kernel
theorem dX11_end_1 : decode cX11_end 1 = .ok (.ifCond .lt 14, 3) := by decide +kernel
theorem dX11_end_4 : decode cX11_end 4 = .ok (.iload_n 1, 1) := by decide +kernel
theorem dX11_end_5 : decode cX11_end 5 = .ok (.aload_n 0, 1) := by decide +kernel
theorem dX11_end_6 : decode cX11_end 6 = .ok (.getfield 12, 3) := by decide +kernel
theorem dX11_end_9 : decode cX11_end 9 = .ok (.getfield 93, 3) := by decide +kernel
theorem dX11_end_12 : decode cX11_end 12 = .ok (.if_icmp .le 5, 3) := by decide +kernel
theorem dX11_end_17 : decode cX11_end 17 = .ok (.aload_n 0, 1) := by decide +kernel
theorem dX11_end_18 : decode cX11_end 18 = .ok (.getfield 12, 3) := by decide +kernel
theorem dX11_end_21 : decode cX11_end 21 = .ok (.iload_n 1, 1) := by decide +kernel
theorem dX11_end_22 : decode cX11_end 22 = .ok (.putfield 93, 3) := by decide +kernel
theorem dX11_end_25 : decode cX11_end 25 = .ok (.iload_n 1, 1) := by decide +kernel
theorem dX11_end_26 : decode cX11_end 26 = .ok (.ireturn, 1) := by decide +kernel
theorem dX11_end_15 : decode cX11_end 15 = .ok (.iconst (-1), 1) := by decide +kernel
theorem dX11_end_16 : decode cX11_end 16 = .ok (.ireturn, 1) := by decide +kernel
noncomputable def vX11_end : List Cond := .code yX11_end cX11_end 2 (some .int) :: (([.fieldLink RX11 12 "IcicleClock" "tape" "LIcicleClock$Tape;", .fieldLink RX11 93 "IcicleClock$Tape" "filled" "I"] : List Cond) ++ (wsX110 ++ wsX70))
theorem iX11_end_11 : ∀ w ∈ wsX110, w ∈ vX11_end := fun _ h => List.mem_cons_of_mem _ (List.mem_append_right _ (List.mem_append_left _ h))
theorem iX11_end_7 : ∀ w ∈ wsX70, w ∈ vX11_end := fun _ h => List.mem_cons_of_mem _ (List.mem_append_right _ (List.mem_append_right _ (h)))
theorem gs_X11_end : Gd vX11_end := Gd.cons (by decide +kernel) (Gd.app (Gd.r (by decide +kernel)) (Gd.app gwX_11 gwX_7))
set_option maxHeartbeats 4000000 in
set_option maxRecDepth 100000 in
theorem s_X11_end (l : Launch) (D : va_G) (cs : Nat → ClassId) (ad : Nat → Nat) (kS : kSt) (K : sK) (hKO : KO K) (hj : wJ ad 218) (g : Nat → va_E) (hW : WF (shp ad K) ad cs g) (nn : Int32) : sI l yX11_end vX11_end { frames := 0, cells := 0, slots := 0, locals := 0 } D cs ad kS [.ref (ad 0), .int nn] g (fun r g2 => WF (shp ad K) ad cs g2 ∧ (∀ j, j ≠ 1 → g2 j = g j)) := by
  refine Met.startS (cc := cX11_end) (maxL := 2) (ret := (some .int)) RX11 rfl (by decide) rfl (Nat.le_of_ble_eq_true rfl) ?_
  intro p e s m below meth c ls X Z hP hl
  have hx := X.1
  have hb := X.2.1
  have hS : va_S (wA ad 218) s.heap s.heap [] := va_S.rf
  have hA : ∀ i, i < 218 → wA ad 218 (ad i) := fun i h => ⟨i, h, rfl⟩
  have hfr : ∀ j, j ≠ 1 → g j = g j := fun _ _ => rfl
  have hl : lv_has ls 2 [(0, .ref (ad 0)), (1, .int nn)] := hl
  refine lv_iload_n hx hb dX11_end_0 rfl (lv_at hl 1 rfl) ?_
  have HJ15 : ∀ (G15 : Nat → va_E) (H : Heap) (locs : List Loc) (ls : Array Slot), WF (shp ad K) ad cs G15 → (∀ j, j ≠ 1 → G15 j = g j) → va_P D vwCl (wL ad G15 218) H → va_S (wA ad 218) s.heap H locs → lv_has ls 2 [] → W p l e ({ frames := 0, cells := 0, slots := 0, locals := 0 } : Room) s m ([.ref (ad 0), .int nn] : List Value).toArray below meth c H locs 0 0 (MQ below (qI D ad 218 (fun r g2 => WF (shp ad K) ad cs g2 ∧ (∀ j, j ≠ 1 → g2 j = g j))) ([.ref (ad 0), .int nn] : List Value).toArray s 0 0 (wA ad 218)) (F0 m 15 ls []) := by
    intro G15 H locs ls hW15 hfr15 hP hS hl
    refine lv_iconst (v := (-1)) hx hb dX11_end_15 (by decide) ?_
    exact q_iret X hP hS ⟨hW15, hfr15⟩ dX11_end_16
  refine lv_if_lt (tgt := 15) hx hb dX11_end_1 (by decide) (fun hc_1 => ?_) (fun hc_1 => ?_)
  · have hhc_1 := n_lt (rfl : nn.toInt = nn.toInt) (by decide : (0 : Int32).toInt = 0) hc_1
    exact HJ15 g _ _ ls hW hfr hP hS (lv_sub hl [] rfl)
  · have hhc_1 := n_nlt (rfl : nn.toInt = nn.toInt) (by decide : (0 : Int32).toInt = 0) hc_1
    refine lv_iload_n hx hb dX11_end_4 rfl (lv_at hl 1 rfl) ?_
    refine lv_aload_n hx hb dX11_end_5 rfl (lv_at hl 0 rfl) ?_
    obtain ⟨fsc_2, hgc_2, hOc_2⟩ := hW.obj (i := 0) (by decide) (sh_0 ad K)
    have hk_3 := hOc_2.ref 0 rfl
    refine q_get X iX11_end_11 hP (by decide) hgc_2 rfl 0 (by decide) (List.mem_of_getElem? (i := 1) rfl) (v := .ref (ad 1)) hk_3 dX11_end_6 ?_
    obtain ⟨fsc_4, hgc_4, hOc_4⟩ := hW.obj (i := 1) (by decide) (sh_1 ad K)
    obtain ⟨x_6, hk_5, hlx_6, hhx_6⟩ := hOc_4.int 1 rfl
    refine q_get X iX11_end_7 hP (by decide) hgc_4 rfl 1 (by decide) (List.mem_of_getElem? (i := 2) rfl) (v := .int x_6) hk_5 dX11_end_9 ?_
    refine lv_icmp_le (tgt := 17) hx hb dX11_end_12 (by decide) (fun hc_7 => ?_) (fun hc_7 => ?_)
    · have hhc_7 := n_le (rfl : nn.toInt = nn.toInt) (rfl : x_6.toInt = x_6.toInt) hc_7
      have := n_hi nn
      refine lv_aload_n hx hb dX11_end_17 rfl (lv_at hl 0 rfl) ?_
      refine q_get X iX11_end_11 hP (by decide) hgc_2 rfl 0 (by decide) (List.mem_of_getElem? (i := 1) rfl) (v := .ref (ad 1)) hk_3 dX11_end_18 ?_
      refine lv_iload_n hx hb dX11_end_21 rfl (lv_at hl 1 rfl) ?_
      refine s_put X iX11_end_7 tyX7 tyX7_ok nmX7 hP hj hA hS (by decide) hgc_4 rfl 1 (by decide) (List.mem_of_getElem? (i := 2) rfl) rfl (ty := .int) (v := .int nn) (by decide +kernel) rfl rfl dX11_end_22 hW (sh_1 ad K) hOc_4 rfl ⟨nn, rfl, by omega, by omega⟩ (fun fsc_8 gc_8 H locs hOc_8 hkc_8 hnc_8 hgc_8 hfc_8 hWc_8 hP hS => ?_)
      have hg_10 := (hfc_8 0 (by decide)).trans hgc_2
      have hfr_9 : ∀ j, j ≠ 1 → gc_8 j = g j := fun j hj => (hfc_8 j (by omega)).trans (hfr j hj)
      refine lv_iload_n hx hb dX11_end_25 rfl (lv_at hl 1 rfl) ?_
      exact q_iret X hP hS ⟨hWc_8, hfr_9⟩ dX11_end_26
    · have hhc_7 := n_nle (rfl : nn.toInt = nn.toInt) (rfl : x_6.toInt = x_6.toInt) hc_7
      have := n_hi nn
      exact HJ15 g _ _ ls hW hfr hP hS (lv_sub hl [] rfl)

theorem dX11_street_0 : decode cX11_street 0 = .ok (.aload_n 0, 1) := by decide +kernel
theorem dX11_street_1 : decode cX11_street 1 = .ok (.getfield 12, 3) := by decide +kernel
theorem dX11_street_4 : decode cX11_street 4 = .ok (.aload_n 0, 1) := by decide +kernel
theorem dX11_street_5 : decode cX11_street 5 = .ok (.getfield 23, 3) := by decide +kernel
theorem dX11_street_8 : decode cX11_street 8 = .ok (.invokevirtual 101, 3) := by decide +kernel
theorem dX11_street_11 : decode cX11_street 11 = .ok (.ifCond .ne 6, 3) := by decide +kernel
theorem dX11_street_14 : decode cX11_street 14 = .ok (.bipush (-4), 2) := by decide +kernel
theorem dX11_street_16 : decode cX11_street 16 = .ok (.ireturn, 1) := by decide +kernel
theorem dX11_street_17 : decode cX11_street 17 = .ok (.aload_n 0, 1) := by decide +kernel
theorem dX11_street_18 : decode cX11_street 18 = .ok (.getfield 12, 3) := by decide +kernel
theorem dX11_street_21 : decode cX11_street 21 = .ok (.iconst 0, 1) := by decide +kernel
theorem dX11_street_22 : decode cX11_street 22 = .ok (.putfield 93, 3) := by decide +kernel
theorem dX11_street_25 : decode cX11_street 25 = .ok (.aload_n 0, 1) := by decide +kernel
theorem dX11_street_26 : decode cX11_street 26 = .ok (.getfield 19, 3) := by decide +kernel
theorem dX11_street_29 : decode cX11_street 29 = .ok (.aload_n 0, 1) := by decide +kernel
theorem dX11_street_30 : decode cX11_street 30 = .ok (.getfield 23, 3) := by decide +kernel
theorem dX11_street_33 : decode cX11_street 33 = .ok (.invokevirtual 105, 3) := by decide +kernel
theorem dX11_street_36 : decode cX11_street 36 = .ok (.aload_n 0, 1) := by decide +kernel
theorem dX11_street_37 : decode cX11_street 37 = .ok (.getfield 44, 3) := by decide +kernel
theorem dX11_street_40 : decode cX11_street 40 = .ok (.aload_n 0, 1) := by decide +kernel
theorem dX11_street_41 : decode cX11_street 41 = .ok (.getfield 19, 3) := by decide +kernel
theorem dX11_street_44 : decode cX11_street 44 = .ok (.invokevirtual 109, 3) := by decide +kernel
theorem dX11_street_47 : decode cX11_street 47 = .ok (.aload_n 0, 1) := by decide +kernel
theorem dX11_street_48 : decode cX11_street 48 = .ok (.getfield 19, 3) := by decide +kernel
theorem dX11_street_51 : decode cX11_street 51 = .ok (.getfield 112, 3) := by decide +kernel
theorem dX11_street_54 : decode cX11_street 54 = .ok (.ireturn, 1) := by decide +kernel
noncomputable def vX11_street : List Cond := .code yX11_street cX11_street 1 (some .int) :: (([.fieldLink RX11 12 "IcicleClock" "tape" "LIcicleClock$Tape;", .fieldLink RX11 23 "IcicleClock" "draft" "LIcicleClock$Street;", .methodLink RX11 101 yX7_readInto, .instanceMethod yX7_readInto, .selects RX7 yX7_readInto yX7_readInto, .initialized RX7, .fieldLink RX11 93 "IcicleClock$Tape" "filled" "I", .fieldLink RX11 19 "IcicleClock" "now" "LIcicleClock$Street;", .methodLink RX11 105 yX6_copyFrom, .instanceMethod yX6_copyFrom, .selects RX6 yX6_copyFrom yX6_copyFrom, .initialized RX6, .fieldLink RX11 44 "IcicleClock" "winter" "LIcicleClock$Winter;", .methodLink RX11 109 yX10_passOver, .instanceMethod yX10_passOver, .selects RX10 yX10_passOver yX10_passOver, .initialized RX10, .fieldLink RX11 112 "IcicleClock$Street" "lines" "I"] : List Cond) ++ (wsX110 ++ (wsX70 ++ (wsX60 ++ (vX7_readInto ++ (vX6_copyFrom ++ vX10_passOver))))))
theorem iX11_street_11 : ∀ w ∈ wsX110, w ∈ vX11_street := fun _ h => List.mem_cons_of_mem _ (List.mem_append_right _ (List.mem_append_left _ h))
theorem iX11_street_7 : ∀ w ∈ wsX70, w ∈ vX11_street := fun _ h => List.mem_cons_of_mem _ (List.mem_append_right _ (List.mem_append_right _ (List.mem_append_left _ h)))
theorem iX11_street_6 : ∀ w ∈ wsX60, w ∈ vX11_street := fun _ h => List.mem_cons_of_mem _ (List.mem_append_right _ (List.mem_append_right _ (List.mem_append_right _ (List.mem_append_left _ h))))
theorem gs_X11_street : Gd vX11_street := Gd.cons (by decide +kernel) (Gd.app (Gd.r (by decide +kernel)) (Gd.app gwX_11 (Gd.app gwX_7 (Gd.app gwX_6 (Gd.app gs_X7_readInto (Gd.app gs_X6_copyFrom gs_X10_passOver))))))
theorem gg_X11_street_X7_readInto : GoodIn vX11_street (wsV RX11 101 RX7 yX7_readInto vX7_readInto) := goodIn_app (goodIn_r _ [3, 4, 5, 6] (by decide +kernel) (by decide +kernel)) (fun w h => ⟨List.mem_cons_of_mem _ (List.mem_append_right _ (List.mem_append_right _ (List.mem_append_right _ (List.mem_append_right _ (List.mem_append_left _ h))))), gs_X7_readInto w h⟩)
theorem gg_X11_street_X6_copyFrom : GoodIn vX11_street (wsV RX11 105 RX6 yX6_copyFrom vX6_copyFrom) := goodIn_app (goodIn_r _ [9, 10, 11, 12] (by decide +kernel) (by decide +kernel)) (fun w h => ⟨List.mem_cons_of_mem _ (List.mem_append_right _ (List.mem_append_right _ (List.mem_append_right _ (List.mem_append_right _ (List.mem_append_right _ (List.mem_append_left _ h)))))), gs_X6_copyFrom w h⟩)
theorem gg_X11_street_X10_passOver : GoodIn vX11_street (wsV RX11 109 RX10 yX10_passOver vX10_passOver) := goodIn_app (goodIn_r _ [14, 15, 16, 17] (by decide +kernel) (by decide +kernel)) (fun w h => ⟨List.mem_cons_of_mem _ (List.mem_append_right _ (List.mem_append_right _ (List.mem_append_right _ (List.mem_append_right _ (List.mem_append_right _ (List.mem_append_right _ (h))))))), gs_X10_passOver w h⟩)
set_option maxHeartbeats 4000000 in
set_option maxRecDepth 100000 in
theorem s_X11_street (l : Launch) (D : va_G) (cs : Nat → ClassId) (ad : Nat → Nat) (kS : kSt) (K : sK) (hKO : KO K) (hj : wJ ad 218) (g : Nat → va_E) (hW : WF (shp ad K) ad cs g) : sI l yX11_street vX11_street { frames := 8, cells := 0, slots := 0, locals := 174 } D cs ad kS [.ref (ad 0)] g (fun r g2 => WF (shp ad K) ad cs g2 ∧ (∀ j, j ≠ 1 ∧ (j < 23 ∨ 23 + 20 ≤ j) ∧ (j < 3 ∨ 3 + 20 ≤ j) ∧ j ≠ 115 → g2 j = g j)) := by
  refine Met.startS (cc := cX11_street) (maxL := 1) (ret := (some .int)) RX11 rfl (by decide) rfl (Nat.le_of_ble_eq_true rfl) ?_
  intro p e s m below meth c ls X Z hP hl
  have hx := X.1
  have hb := X.2.1
  have hS : va_S (wA ad 218) s.heap s.heap [] := va_S.rf
  have hA : ∀ i, i < 218 → wA ad 218 (ad i) := fun i h => ⟨i, h, rfl⟩
  have hfr : ∀ j, j ≠ 1 ∧ (j < 23 ∨ 23 + 20 ≤ j) ∧ (j < 3 ∨ 3 + 20 ≤ j) ∧ j ≠ 115 → g j = g j := fun _ _ => rfl
  have hl : lv_has ls 1 [(0, .ref (ad 0))] := hl
  refine lv_aload_n hx hb dX11_street_0 rfl (lv_at hl 0 rfl) ?_
  obtain ⟨fsc_1, hgc_1, hOc_1⟩ := hW.obj (i := 0) (by decide) (sh_0 ad K)
  have hk_2 := hOc_1.ref 0 rfl
  refine q_get X iX11_street_11 hP (by decide) hgc_1 rfl 0 (by decide) (List.mem_of_getElem? (i := 1) rfl) (v := .ref (ad 1)) hk_2 dX11_street_1 ?_
  refine lv_aload_n hx hb dX11_street_4 rfl (lv_at hl 0 rfl) ?_
  have hk_3 := hOc_1.ref 2 rfl
  refine q_get X iX11_street_11 hP (by decide) hgc_1 rfl 2 (by decide) (List.mem_of_getElem? (i := 2) rfl) (v := .ref (ad 23)) hk_3 dX11_street_5 ?_
  obtain ⟨fsc_7, hgc_7, hOc_7⟩ := hW.obj (i := 1) (by decide) (sh_1 ad K)
  refine s_calli (q := (RX7, TX7, 7)) (As := [.ref (ad 23)]) (rest := []) X Z (s_X7_readInto l D cs ad kS K hKO hj g hW) (cwV 1 X.2.2.2.2.1 gg_X11_street_X7_readInto rfl rfl rfl (by decide +kernel) ⟨Nat.le_of_ble_eq_true rfl, Nat.le_of_ble_eq_true rfl⟩) (by decide) hgc_7 rfl hP hA hS.2.1 hS rfl hl.1 rfl (Nat.le_of_ble_eq_true rfl) dX11_street_8 ⟨Nat.le_of_ble_eq_true rfl, Nat.le_of_ble_eq_true rfl⟩ (fun r_6 g_5 H locs hw_4 hP hS => ?_)
  obtain ⟨hw_4W, hw_4f, hw_4⟩ := hw_4
  have hfr_8 : ∀ j, j ≠ 1 ∧ (j < 23 ∨ 23 + 20 ≤ j) ∧ (j < 3 ∨ 3 + 20 ≤ j) ∧ j ≠ 115 → g_5 j = g j := fun j hj => (hw_4f j (by omega)).trans (hfr j hj)
  have hg_9 := (hw_4f 0 (by omega)).trans hgc_1
  refine lv_if_ne (tgt := 17) hx hb dX11_street_11 (by decide) (fun hc_10 => ?_) (fun hc_10 => ?_)
  · have hhc_10 := n_ne (rfl : r_6.toInt = r_6.toInt) (by decide : (0 : Int32).toInt = 0) hc_10
    refine lv_aload_n hx hb dX11_street_17 rfl (lv_at hl 0 rfl) ?_
    refine q_get X iX11_street_11 hP (by decide) hg_9 rfl 0 (by decide) (List.mem_of_getElem? (i := 1) rfl) (v := .ref (ad 1)) hk_2 dX11_street_18 ?_
    refine lv_iconst (v := 0) hx hb dX11_street_21 (by decide) ?_
    obtain ⟨fsc_11, hgc_11, hOc_11⟩ := hw_4W.obj (i := 1) (by decide) (sh_1 ad K)
    refine s_put X iX11_street_7 tyX7 tyX7_ok nmX7 hP hj hA hS (by decide) hgc_11 rfl 1 (by decide) (List.mem_of_getElem? (i := 7) rfl) rfl (ty := .int) (v := .int 0) (by decide +kernel) rfl rfl dX11_street_22 hw_4W (sh_1 ad K) hOc_11 rfl ⟨0, rfl, by decide, by decide⟩ (fun fsc_12 gc_12 H locs hOc_12 hkc_12 hnc_12 hgc_12 hfc_12 hWc_12 hP hS => ?_)
    have hg_14 := (hfc_12 0 (by decide)).trans hg_9
    have hfr_13 : ∀ j, j ≠ 1 ∧ (j < 23 ∨ 23 + 20 ≤ j) ∧ (j < 3 ∨ 3 + 20 ≤ j) ∧ j ≠ 115 → gc_12 j = g j := fun j hj => (hfc_12 j (by omega)).trans (hfr_8 j hj)
    refine lv_aload_n hx hb dX11_street_25 rfl (lv_at hl 0 rfl) ?_
    have hk_15 := hOc_1.ref 1 rfl
    refine q_get X iX11_street_11 hP (by decide) hg_14 rfl 1 (by decide) (List.mem_of_getElem? (i := 8) rfl) (v := .ref (ad 3)) hk_15 dX11_street_26 ?_
    refine lv_aload_n hx hb dX11_street_29 rfl (lv_at hl 0 rfl) ?_
    refine q_get X iX11_street_11 hP (by decide) hg_14 rfl 2 (by decide) (List.mem_of_getElem? (i := 2) rfl) (v := .ref (ad 23)) hk_3 dX11_street_30 ?_
    obtain ⟨fsc_19, hgc_19, hOc_19⟩ := hWc_12.obj (i := 3) (by decide) (sh_3 ad K)
    refine s_callv (q := (RX6, TX6, 18)) (As := [.ref (ad 23)]) (rest := []) X Z (s_X6_copyFrom l D cs ad kS K hKO hj gc_12 hWc_12 3 23 (by omega) (by omega) (by omega)) (cwV 1 X.2.2.2.2.1 gg_X11_street_X6_copyFrom rfl rfl rfl (by decide +kernel) ⟨Nat.le_of_ble_eq_true rfl, Nat.le_of_ble_eq_true rfl⟩) (by decide) hgc_19 rfl hP hA hS.2.1 hS rfl hl.1 rfl (Nat.le_of_ble_eq_true rfl) dX11_street_33 ⟨Nat.le_of_ble_eq_true rfl, Nat.le_of_ble_eq_true rfl⟩ (fun g_17 H locs hw_16 hP hS => ?_)
    obtain ⟨hw_16W, hw_16f⟩ := hw_16
    have hfr_20 : ∀ j, j ≠ 1 ∧ (j < 23 ∨ 23 + 20 ≤ j) ∧ (j < 3 ∨ 3 + 20 ≤ j) ∧ j ≠ 115 → g_17 j = g j := fun j hj => (hw_16f j (by omega)).trans (hfr_13 j hj)
    have hg_21 := (hw_16f 0 (by omega)).trans hg_14
    have hg_22 := (hw_16f 1 (by omega)).trans hgc_12
    refine lv_aload_n hx hb dX11_street_36 rfl (lv_at hl 0 rfl) ?_
    have hk_23 := hOc_1.ref 6 rfl
    refine q_get X iX11_street_11 hP (by decide) hg_21 rfl 6 (by decide) (List.mem_of_getElem? (i := 13) rfl) (v := .ref (ad 114)) hk_23 dX11_street_37 ?_
    refine lv_aload_n hx hb dX11_street_40 rfl (lv_at hl 0 rfl) ?_
    refine q_get X iX11_street_11 hP (by decide) hg_21 rfl 1 (by decide) (List.mem_of_getElem? (i := 8) rfl) (v := .ref (ad 3)) hk_15 dX11_street_41 ?_
    obtain ⟨fsc_27, hgc_27, hOc_27⟩ := hw_16W.obj (i := 114) (by decide) (sh_114 ad K)
    refine s_callv (q := (RX10, TX10, 4)) (As := [.ref (ad 3)]) (rest := []) X Z (s_X10_passOver l D cs ad kS K hKO hj g_17 hw_16W 114 (by omega)) (cwV 1 X.2.2.2.2.1 gg_X11_street_X10_passOver rfl rfl rfl (by decide +kernel) ⟨Nat.le_of_ble_eq_true rfl, Nat.le_of_ble_eq_true rfl⟩) (by decide) hgc_27 rfl hP hA hS.2.1 hS rfl hl.1 rfl (Nat.le_of_ble_eq_true rfl) dX11_street_44 ⟨Nat.le_of_ble_eq_true rfl, Nat.le_of_ble_eq_true rfl⟩ (fun g_25 H locs hw_24 hP hS => ?_)
    obtain ⟨hw_24W, hw_24f⟩ := hw_24
    have hfr_28 : ∀ j, j ≠ 1 ∧ (j < 23 ∨ 23 + 20 ≤ j) ∧ (j < 3 ∨ 3 + 20 ≤ j) ∧ j ≠ 115 → g_25 j = g j := fun j hj => (hw_24f j (by omega)).trans (hfr_20 j hj)
    have hg_29 := (hw_24f 0 (by omega)).trans hg_21
    have hg_30 := (hw_24f 1 (by omega)).trans hg_22
    have hg_31 := (hw_24f 114 (by omega)).trans hgc_27
    refine lv_aload_n hx hb dX11_street_47 rfl (lv_at hl 0 rfl) ?_
    refine q_get X iX11_street_11 hP (by decide) hg_29 rfl 1 (by decide) (List.mem_of_getElem? (i := 8) rfl) (v := .ref (ad 3)) hk_15 dX11_street_48 ?_
    obtain ⟨fsc_32, hgc_32, hOc_32⟩ := hw_24W.obj (i := 3) (by decide) (sh_3 ad K)
    obtain ⟨x_34, hk_33, -⟩ := hOc_32.int 7 rfl
    refine q_get X iX11_street_6 hP (by decide) hgc_32 rfl 7 (by decide) (List.mem_of_getElem? (i := 18) rfl) (v := .int x_34) hk_33 dX11_street_51 ?_
    exact q_iret X hP hS ⟨hw_24W, hfr_28⟩ dX11_street_54
  · have hhc_10 := n_eq (rfl : r_6.toInt = r_6.toInt) (by decide : (0 : Int32).toInt = 0) hc_10
    refine lv_bipush (v := (-4)) hx hb dX11_street_14 (by decide) ?_
    exact q_iret X hP hS ⟨hw_4W, hfr_8⟩ dX11_street_16

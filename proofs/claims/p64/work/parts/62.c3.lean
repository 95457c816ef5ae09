theorem dX11_day_0 : decode cX11_day 0 = .ok (.aload_n 0, 1) := by decide +kernel
theorem dX11_day_1 : decode cX11_day 1 = .ok (.iload_n 1, 1) := by decide +kernel
theorem dX11_day_2 : decode cX11_day 2 = .ok (.invokevirtual 121, 3) := by decide +kernel
theorem dX11_day_5 : decode cX11_day 5 = .ok (.ifCond .eq 15, 3) := by decide +kernel
theorem dX11_day_8 : decode cX11_day 8 = .ok (.aload_n 0, 1) := by decide +kernel
theorem dX11_day_9 : decode cX11_day 9 = .ok (.getfield 19, 3) := by decide +kernel
theorem dX11_day_12 : decode cX11_day 12 = .ok (.getfield 125, 3) := by decide +kernel
theorem dX11_day_15 : decode cX11_day 15 = .ok (.iload_n 1, 1) := by decide +kernel
theorem dX11_day_16 : decode cX11_day 16 = .ok (.iaload, 1) := by decide +kernel
theorem dX11_day_17 : decode cX11_day 17 = .ok (.goto 6, 3) := by decide +kernel
theorem dX11_day_20 : decode cX11_day 20 = .ok (.sipush (-1000), 3) := by decide +kernel
theorem dX11_day_23 : decode cX11_day 23 = .ok (.ireturn, 1) := by decide +kernel
noncomputable def vX11_day : List Cond := .code yX11_day cX11_day 2 (some .int) :: (([.methodLink RX11 121 yX11_isDay, .instanceMethod yX11_isDay, .selects RX11 yX11_isDay yX11_isDay, .initialized RX11, .fieldLink RX11 19 "IcicleClock" "now" "LIcicleClock$Street;", .fieldLink RX11 125 "IcicleClock$Street" "thaw" "[I"] : List Cond) ++ (wsX110 ++ (wsX60 ++ vX11_isDay)))
theorem iX11_day_11 : ∀ w ∈ wsX110, w ∈ vX11_day := fun _ h => List.mem_cons_of_mem _ (List.mem_append_right _ (List.mem_append_left _ h))
theorem iX11_day_6 : ∀ w ∈ wsX60, w ∈ vX11_day := fun _ h => List.mem_cons_of_mem _ (List.mem_append_right _ (List.mem_append_right _ (List.mem_append_left _ h)))
theorem gs_X11_day : Gd vX11_day := Gd.cons (by decide +kernel) (Gd.app (Gd.r (by decide +kernel)) (Gd.app gwX_11 (Gd.app gwX_6 gs_X11_isDay)))
theorem gg_X11_day_X11_isDay : GoodIn vX11_day (wsV RX11 121 RX11 yX11_isDay vX11_isDay) := goodIn_app (goodIn_r _ [1, 2, 3, 4] (by decide +kernel) (by decide +kernel)) (fun w h => ⟨List.mem_cons_of_mem _ (List.mem_append_right _ (List.mem_append_right _ (List.mem_append_right _ (h)))), gs_X11_isDay w h⟩)
set_option maxHeartbeats 4000000 in
set_option maxRecDepth 100000 in
theorem s_X11_day (l : Launch) (D : va_G) (cs : Nat → ClassId) (ad : Nat → Nat) (kS : kSt) (K : sK) (hKO : KO K) (hj : wJ ad 218) (g : Nat → va_E) (hW : WF (shp ad K) ad cs g) (dy : Int32) : sI l yX11_day vX11_day { frames := 1, cells := 0, slots := 0, locals := 21 } D cs ad kS [.ref (ad 0), .int dy] g (fun r g2 => g2 = g) := by
  refine Met.startS (cc := cX11_day) (maxL := 2) (ret := (some .int)) RX11 rfl (by decide) rfl (Nat.le_of_ble_eq_true rfl) ?_
  intro p e s m below meth c ls X Z hP hl
  have hx := X.1
  have hb := X.2.1
  have hS : va_S (wA ad 218) s.heap s.heap [] := va_S.rf
  have hA : ∀ i, i < 218 → wA ad 218 (ad i) := fun i h => ⟨i, h, rfl⟩
  have hl : lv_has ls 2 [(0, .ref (ad 0)), (1, .int dy)] := hl
  refine lv_aload_n hx hb dX11_day_0 rfl (lv_at hl 0 rfl) ?_
  refine lv_iload_n hx hb dX11_day_1 rfl (lv_at hl 1 rfl) ?_
  obtain ⟨fsc_4, hgc_4, hOc_4⟩ := hW.obj (i := 0) (by decide) (sh_0 ad K)
  refine s_calli (q := (RX11, TX11, 14)) (As := [.int dy]) (rest := []) X Z (s_X11_isDay l D cs ad kS K hKO hj g hW dy) (cwV 1 X.2.2.2.2.1 gg_X11_day_X11_isDay rfl rfl rfl (by decide +kernel) ⟨Nat.le_of_ble_eq_true rfl, Nat.le_of_ble_eq_true rfl⟩) (by decide) hgc_4 rfl hP hA hS.2.1 hS rfl hl.1 rfl (Nat.le_of_ble_eq_true rfl) dX11_day_2 ⟨Nat.le_of_ble_eq_true rfl, Nat.le_of_ble_eq_true rfl⟩ (fun r_3 g_2 H locs hw_1 hP hS => ?_)
  obtain ⟨hw_1g, hw_1⟩ := hw_1
  rw [hw_1g] at hP
  refine lv_if_eq (tgt := 20) hx hb dX11_day_5 (by decide) (fun hc_5 => ?_) (fun hc_5 => ?_)
  · have hhc_5 := n_eq (rfl : r_3.toInt = r_3.toInt) (by decide : (0 : Int32).toInt = 0) hc_5
    refine lv_sipush (v := (-1000)) hx hb dX11_day_20 (by decide) ?_
    exact q_iret X hP hS rfl dX11_day_23
  · have hhc_5 := n_ne (rfl : r_3.toInt = r_3.toInt) (by decide : (0 : Int32).toInt = 0) hc_5
    refine lv_aload_n hx hb dX11_day_8 rfl (lv_at hl 0 rfl) ?_
    have hk_6 := hOc_4.ref 1 rfl
    refine q_get X iX11_day_11 hP (by decide) hgc_4 rfl 1 (by decide) (List.mem_of_getElem? (i := 5) rfl) (v := .ref (ad 3)) hk_6 dX11_day_9 ?_
    obtain ⟨fsc_7, hgc_7, hOc_7⟩ := hW.obj (i := 3) (by decide) (sh_3 ad K)
    have hk_8 := hOc_7.ref 8 rfl
    refine q_get X iX11_day_6 hP (by decide) hgc_7 rfl 8 (by decide) (List.mem_of_getElem? (i := 6) rfl) (v := .ref (ad 4)) hk_8 dX11_day_12 ?_
    refine lv_iload_n hx hb dX11_day_15 rfl (lv_at hl 1 rfl) ?_
    obtain ⟨fc_9, hgc_9, hFc_9⟩ := hW.arr (i := 4) (by decide) (sh_4 ad K)
    refine q_iald X hP (by decide) hgc_9 (n_in (rfl : dy.toInt = dy.toInt) (by omega) (by omega)) dX11_day_16 ?_
    refine lv_topi (fun z_10 ez_10 => ?_)
    refine lv_goto (tgt := 23) hx hb dX11_day_17 (by decide) ?_
    exact q_iret X hP hS rfl dX11_day_23

theorem dX11_melt_0 : decode cX11_melt 0 = .ok (.aload_n 0, 1) := by decide +kernel
theorem dX11_melt_1 : decode cX11_melt 1 = .ok (.iload_n 1, 1) := by decide +kernel
theorem dX11_melt_2 : decode cX11_melt 2 = .ok (.invokevirtual 129, 3) := by decide +kernel
theorem dX11_melt_5 : decode cX11_melt 5 = .ok (.ifCond .eq 23, 3) := by decide +kernel
theorem dX11_melt_8 : decode cX11_melt 8 = .ok (.aload_n 0, 1) := by decide +kernel
theorem dX11_melt_9 : decode cX11_melt 9 = .ok (.iload_n 2, 1) := by decide +kernel
theorem dX11_melt_10 : decode cX11_melt 10 = .ok (.invokevirtual 121, 3) := by decide +kernel
theorem dX11_melt_13 : decode cX11_melt 13 = .ok (.ifCond .eq 15, 3) := by decide +kernel
theorem dX11_melt_16 : decode cX11_melt 16 = .ok (.aload_n 0, 1) := by decide +kernel
theorem dX11_melt_17 : decode cX11_melt 17 = .ok (.getfield 19, 3) := by decide +kernel
theorem dX11_melt_20 : decode cX11_melt 20 = .ok (.iload_n 1, 1) := by decide +kernel
theorem dX11_melt_21 : decode cX11_melt 21 = .ok (.iload_n 2, 1) := by decide +kernel
theorem dX11_melt_22 : decode cX11_melt 22 = .ok (.invokevirtual 132, 3) := by decide +kernel
theorem dX11_melt_25 : decode cX11_melt 25 = .ok (.goto 6, 3) := by decide +kernel
theorem dX11_melt_28 : decode cX11_melt 28 = .ok (.sipush (-1000), 3) := by decide +kernel
theorem dX11_melt_31 : decode cX11_melt 31 = .ok (.ireturn, 1) := by decide +kernel
noncomputable def vX11_melt : List Cond := .code yX11_melt cX11_melt 3 (some .int) :: (([.methodLink RX11 129 yX11_isEave, .instanceMethod yX11_isEave, .selects RX11 yX11_isEave yX11_isEave, .initialized RX11, .methodLink RX11 121 yX11_isDay, .instanceMethod yX11_isDay, .selects RX11 yX11_isDay yX11_isDay, .fieldLink RX11 19 "IcicleClock" "now" "LIcicleClock$Street;", .methodLink RX11 132 yX6_meltOn, .instanceMethod yX6_meltOn, .selects RX6 yX6_meltOn yX6_meltOn, .initialized RX6] : List Cond) ++ (wsX110 ++ (vX11_isEave ++ (vX11_isDay ++ vX6_meltOn))))
theorem iX11_melt_11 : ∀ w ∈ wsX110, w ∈ vX11_melt := fun _ h => List.mem_cons_of_mem _ (List.mem_append_right _ (List.mem_append_left _ h))
theorem gs_X11_melt : Gd vX11_melt := Gd.cons (by decide +kernel) (Gd.app (Gd.r (by decide +kernel)) (Gd.app gwX_11 (Gd.app gs_X11_isEave (Gd.app gs_X11_isDay gs_X6_meltOn))))
theorem gg_X11_melt_X11_isEave : GoodIn vX11_melt (wsV RX11 129 RX11 yX11_isEave vX11_isEave) := goodIn_app (goodIn_r _ [1, 2, 3, 4] (by decide +kernel) (by decide +kernel)) (fun w h => ⟨List.mem_cons_of_mem _ (List.mem_append_right _ (List.mem_append_right _ (List.mem_append_left _ h))), gs_X11_isEave w h⟩)
theorem gg_X11_melt_X11_isDay : GoodIn vX11_melt (wsV RX11 121 RX11 yX11_isDay vX11_isDay) := goodIn_app (goodIn_r _ [5, 6, 7, 4] (by decide +kernel) (by decide +kernel)) (fun w h => ⟨List.mem_cons_of_mem _ (List.mem_append_right _ (List.mem_append_right _ (List.mem_append_right _ (List.mem_append_left _ h)))), gs_X11_isDay w h⟩)
theorem gg_X11_melt_X6_meltOn : GoodIn vX11_melt (wsV RX11 132 RX6 yX6_meltOn vX6_meltOn) := goodIn_app (goodIn_r _ [9, 10, 11, 12] (by decide +kernel) (by decide +kernel)) (fun w h => ⟨List.mem_cons_of_mem _ (List.mem_append_right _ (List.mem_append_right _ (List.mem_append_right _ (List.mem_append_right _ (h))))), gs_X6_meltOn w h⟩)
set_option maxHeartbeats 4000000 in
set_option maxRecDepth 100000 in
theorem s_X11_melt (l : Launch) (D : va_G) (cs : Nat → ClassId) (ad : Nat → Nat) (kS : kSt) (K : sK) (hKO : KO K) (hj : wJ ad 218) (g : Nat → va_E) (hW : WF (shp ad K) ad cs g) (ev : Int32) (dy : Int32) : sI l yX11_melt vX11_melt { frames := 1, cells := 0, slots := 0, locals := 22 } D cs ad kS [.ref (ad 0), .int ev, .int dy] g (fun r g2 => g2 = g) := by
  refine Met.startS (cc := cX11_melt) (maxL := 3) (ret := (some .int)) RX11 rfl (by decide) rfl (Nat.le_of_ble_eq_true rfl) ?_
  intro p e s m below meth c ls X Z hP hl
  have hx := X.1
  have hb := X.2.1
  have hS : va_S (wA ad 218) s.heap s.heap [] := va_S.rf
  have hA : ∀ i, i < 218 → wA ad 218 (ad i) := fun i h => ⟨i, h, rfl⟩
  have hl : lv_has ls 3 [(0, .ref (ad 0)), (1, .int ev), (2, .int dy)] := hl
  refine lv_aload_n hx hb dX11_melt_0 rfl (lv_at hl 0 rfl) ?_
  refine lv_iload_n hx hb dX11_melt_1 rfl (lv_at hl 1 rfl) ?_
  obtain ⟨fsc_4, hgc_4, hOc_4⟩ := hW.obj (i := 0) (by decide) (sh_0 ad K)
  refine s_calli (q := (RX11, TX11, 14)) (As := [.int ev]) (rest := []) X Z (s_X11_isEave l D cs ad kS K hKO hj g hW ev) (cwV 1 X.2.2.2.2.1 gg_X11_melt_X11_isEave rfl rfl rfl (by decide +kernel) ⟨Nat.le_of_ble_eq_true rfl, Nat.le_of_ble_eq_true rfl⟩) (by decide) hgc_4 rfl hP hA hS.2.1 hS rfl hl.1 rfl (Nat.le_of_ble_eq_true rfl) dX11_melt_2 ⟨Nat.le_of_ble_eq_true rfl, Nat.le_of_ble_eq_true rfl⟩ (fun r_3 g_2 H locs hw_1 hP hS => ?_)
  obtain ⟨hw_1g, hw_1⟩ := hw_1
  rw [hw_1g] at hP
  have HJ28 : ∀ (H : Heap) (locs : List Loc) (ls : Array Slot), va_P D vwCl (wL ad g 218) H → va_S (wA ad 218) s.heap H locs → lv_has ls 3 [] → W p l e ({ frames := 1, cells := 0, slots := 0, locals := 22 } : Room) s m ([.ref (ad 0), .int ev, .int dy] : List Value).toArray below meth c H locs 0 0 (MQ below (qI D ad 218 (fun r g2 => g2 = g)) ([.ref (ad 0), .int ev, .int dy] : List Value).toArray s 0 0 (wA ad 218)) (F0 m 28 ls []) := by
    intro H locs ls hP hS hl
    refine lv_sipush (v := (-1000)) hx hb dX11_melt_28 (by decide) ?_
    exact q_iret X hP hS rfl dX11_melt_31
  refine lv_if_eq (tgt := 28) hx hb dX11_melt_5 (by decide) (fun hc_5 => ?_) (fun hc_5 => ?_)
  · have hhc_5 := n_eq (rfl : r_3.toInt = r_3.toInt) (by decide : (0 : Int32).toInt = 0) hc_5
    exact HJ28 _ _ ls hP hS (lv_sub hl [] rfl)
  · have hhc_5 := n_ne (rfl : r_3.toInt = r_3.toInt) (by decide : (0 : Int32).toInt = 0) hc_5
    refine lv_aload_n hx hb dX11_melt_8 rfl (lv_at hl 0 rfl) ?_
    refine lv_iload_n hx hb dX11_melt_9 rfl (lv_at hl 2 rfl) ?_
    refine s_calli (q := (RX11, TX11, 14)) (As := [.int dy]) (rest := []) X Z (s_X11_isDay l D cs ad kS K hKO hj g hW dy) (cwV 1 X.2.2.2.2.1 gg_X11_melt_X11_isDay rfl rfl rfl (by decide +kernel) ⟨Nat.le_of_ble_eq_true rfl, Nat.le_of_ble_eq_true rfl⟩) (by decide) hgc_4 rfl hP hA hS.2.1 hS rfl hl.1 rfl (Nat.le_of_ble_eq_true rfl) dX11_melt_10 ⟨Nat.le_of_ble_eq_true rfl, Nat.le_of_ble_eq_true rfl⟩ (fun r_8 g_7 H locs hw_6 hP hS => ?_)
    obtain ⟨hw_6g, hw_6⟩ := hw_6
    rw [hw_6g] at hP
    refine lv_if_eq (tgt := 28) hx hb dX11_melt_13 (by decide) (fun hc_9 => ?_) (fun hc_9 => ?_)
    · have hhc_9 := n_eq (rfl : r_8.toInt = r_8.toInt) (by decide : (0 : Int32).toInt = 0) hc_9
      exact HJ28 _ _ ls hP hS (lv_sub hl [] rfl)
    · have hhc_9 := n_ne (rfl : r_8.toInt = r_8.toInt) (by decide : (0 : Int32).toInt = 0) hc_9
      refine lv_aload_n hx hb dX11_melt_16 rfl (lv_at hl 0 rfl) ?_
      have hk_10 := hOc_4.ref 1 rfl
      refine q_get X iX11_melt_11 hP (by decide) hgc_4 rfl 1 (by decide) (List.mem_of_getElem? (i := 8) rfl) (v := .ref (ad 3)) hk_10 dX11_melt_17 ?_
      refine lv_iload_n hx hb dX11_melt_20 rfl (lv_at hl 1 rfl) ?_
      refine lv_iload_n hx hb dX11_melt_21 rfl (lv_at hl 2 rfl) ?_
      obtain ⟨fsc_14, hgc_14, hOc_14⟩ := hW.obj (i := 3) (by decide) (sh_3 ad K)
      refine s_calli (q := (RX6, TX6, 18)) (As := [.int ev, .int dy]) (rest := []) X Z (s_X6_meltOn l D cs ad kS K hKO hj g hW ev dy (by omega) (by omega)) (cwV 2 X.2.2.2.2.1 gg_X11_melt_X6_meltOn rfl rfl rfl (by decide +kernel) ⟨Nat.le_of_ble_eq_true rfl, Nat.le_of_ble_eq_true rfl⟩) (by decide) hgc_14 rfl hP hA hS.2.1 hS rfl hl.1 rfl (Nat.le_of_ble_eq_true rfl) dX11_melt_22 ⟨Nat.le_of_ble_eq_true rfl, Nat.le_of_ble_eq_true rfl⟩ (fun r_13 g_12 H locs hw_11 hP hS => ?_)
      rw [hw_11] at hP
      refine lv_goto (tgt := 31) hx hb dX11_melt_25 (by decide) ?_
      exact q_iret X hP hS rfl dX11_melt_31

theorem dX11_icicle_0 : decode cX11_icicle 0 = .ok (.aload_n 0, 1) := by decide +kernel
theorem dX11_icicle_1 : decode cX11_icicle 1 = .ok (.iload_n 1, 1) := by decide +kernel
theorem dX11_icicle_2 : decode cX11_icicle 2 = .ok (.invokevirtual 136, 3) := by decide +kernel
theorem dX11_icicle_5 : decode cX11_icicle 5 = .ok (.ifCond .ne 6, 3) := by decide +kernel
theorem dX11_icicle_8 : decode cX11_icicle 8 = .ok (.bipush (-2), 2) := by decide +kernel
theorem dX11_icicle_10 : decode cX11_icicle 10 = .ok (.ireturn, 1) := by decide +kernel
theorem dX11_icicle_11 : decode cX11_icicle 11 = .ok (.iload_n 2, 1) := by decide +kernel
theorem dX11_icicle_12 : decode cX11_icicle 12 = .ok (.tableswitch 58 0 2 #[28, 38, 48], 28) := by decide +kernel
theorem dX11_icicle_60 : decode cX11_icicle 60 = .ok (.aload_n 0, 1) := by decide +kernel
theorem dX11_icicle_61 : decode cX11_icicle 61 = .ok (.getfield 19, 3) := by decide +kernel
theorem dX11_icicle_64 : decode cX11_icicle 64 = .ok (.getfield 145, 3) := by decide +kernel
theorem dX11_icicle_67 : decode cX11_icicle 67 = .ok (.iload_n 1, 1) := by decide +kernel
theorem dX11_icicle_68 : decode cX11_icicle 68 = .ok (.iaload, 1) := by decide +kernel
theorem dX11_icicle_69 : decode cX11_icicle 69 = .ok (.ireturn, 1) := by decide +kernel
theorem dX11_icicle_50 : decode cX11_icicle 50 = .ok (.aload_n 0, 1) := by decide +kernel
theorem dX11_icicle_51 : decode cX11_icicle 51 = .ok (.getfield 19, 3) := by decide +kernel
theorem dX11_icicle_54 : decode cX11_icicle 54 = .ok (.getfield 142, 3) := by decide +kernel
theorem dX11_icicle_57 : decode cX11_icicle 57 = .ok (.iload_n 1, 1) := by decide +kernel
theorem dX11_icicle_58 : decode cX11_icicle 58 = .ok (.iaload, 1) := by decide +kernel
theorem dX11_icicle_59 : decode cX11_icicle 59 = .ok (.ireturn, 1) := by decide +kernel
theorem dX11_icicle_40 : decode cX11_icicle 40 = .ok (.aload_n 0, 1) := by decide +kernel
theorem dX11_icicle_41 : decode cX11_icicle 41 = .ok (.getfield 19, 3) := by decide +kernel
theorem dX11_icicle_44 : decode cX11_icicle 44 = .ok (.getfield 139, 3) := by decide +kernel
theorem dX11_icicle_47 : decode cX11_icicle 47 = .ok (.iload_n 1, 1) := by decide +kernel
theorem dX11_icicle_48 : decode cX11_icicle 48 = .ok (.iaload, 1) := by decide +kernel
theorem dX11_icicle_49 : decode cX11_icicle 49 = .ok (.ireturn, 1) := by decide +kernel
theorem dX11_icicle_70 : decode cX11_icicle 70 = .ok (.bipush (-2), 2) := by decide +kernel
theorem dX11_icicle_72 : decode cX11_icicle 72 = .ok (.ireturn, 1) := by decide +kernel
noncomputable def vX11_icicle : List Cond := .code yX11_icicle cX11_icicle 3 (some .int) :: (([.methodLink RX11 136 yX11_isIcicle, .instanceMethod yX11_isIcicle, .selects RX11 yX11_isIcicle yX11_isIcicle, .initialized RX11, .fieldLink RX11 19 "IcicleClock" "now" "LIcicleClock$Street;", .fieldLink RX11 145 "IcicleClock$Street" "hourOf" "[I", .fieldLink RX11 142 "IcicleClock$Street" "lengthTold" "[I", .fieldLink RX11 139 "IcicleClock$Street" "eaveOf" "[I"] : List Cond) ++ (wsX110 ++ (wsX60 ++ vX11_isIcicle)))
theorem iX11_icicle_11 : ∀ w ∈ wsX110, w ∈ vX11_icicle := fun _ h => List.mem_cons_of_mem _ (List.mem_append_right _ (List.mem_append_left _ h))
theorem iX11_icicle_6 : ∀ w ∈ wsX60, w ∈ vX11_icicle := fun _ h => List.mem_cons_of_mem _ (List.mem_append_right _ (List.mem_append_right _ (List.mem_append_left _ h)))
theorem gs_X11_icicle : Gd vX11_icicle := Gd.cons (by decide +kernel) (Gd.app (Gd.r (by decide +kernel)) (Gd.app gwX_11 (Gd.app gwX_6 gs_X11_isIcicle)))
theorem gg_X11_icicle_X11_isIcicle : GoodIn vX11_icicle (wsV RX11 136 RX11 yX11_isIcicle vX11_isIcicle) := goodIn_app (goodIn_r _ [1, 2, 3, 4] (by decide +kernel) (by decide +kernel)) (fun w h => ⟨List.mem_cons_of_mem _ (List.mem_append_right _ (List.mem_append_right _ (List.mem_append_right _ (h)))), gs_X11_isIcicle w h⟩)
set_option maxHeartbeats 4000000 in
set_option maxRecDepth 100000 in
theorem s_X11_icicle (l : Launch) (D : va_G) (cs : Nat → ClassId) (ad : Nat → Nat) (kS : kSt) (K : sK) (hKO : KO K) (hj : wJ ad 218) (g : Nat → va_E) (hW : WF (shp ad K) ad cs g) (ic : Int32) (wh : Int32) : sI l yX11_icicle vX11_icicle { frames := 1, cells := 0, slots := 0, locals := 21 } D cs ad kS [.ref (ad 0), .int ic, .int wh] g (fun r g2 => g2 = g) := by
  refine Met.startS (cc := cX11_icicle) (maxL := 3) (ret := (some .int)) RX11 rfl (by decide) rfl (Nat.le_of_ble_eq_true rfl) ?_
  intro p e s m below meth c ls X Z hP hl
  have hx := X.1
  have hb := X.2.1
  have hS : va_S (wA ad 218) s.heap s.heap [] := va_S.rf
  have hA : ∀ i, i < 218 → wA ad 218 (ad i) := fun i h => ⟨i, h, rfl⟩
  have hl : lv_has ls 3 [(0, .ref (ad 0)), (1, .int ic), (2, .int wh)] := hl
  refine lv_aload_n hx hb dX11_icicle_0 rfl (lv_at hl 0 rfl) ?_
  refine lv_iload_n hx hb dX11_icicle_1 rfl (lv_at hl 1 rfl) ?_
  obtain ⟨fsc_4, hgc_4, hOc_4⟩ := hW.obj (i := 0) (by decide) (sh_0 ad K)
  refine s_calli (q := (RX11, TX11, 14)) (As := [.int ic]) (rest := []) X Z (s_X11_isIcicle l D cs ad kS K hKO hj g hW ic) (cwV 1 X.2.2.2.2.1 gg_X11_icicle_X11_isIcicle rfl rfl rfl (by decide +kernel) ⟨Nat.le_of_ble_eq_true rfl, Nat.le_of_ble_eq_true rfl⟩) (by decide) hgc_4 rfl hP hA hS.2.1 hS rfl hl.1 rfl (Nat.le_of_ble_eq_true rfl) dX11_icicle_2 ⟨Nat.le_of_ble_eq_true rfl, Nat.le_of_ble_eq_true rfl⟩ (fun r_3 g_2 H locs hw_1 hP hS => ?_)
  obtain ⟨hw_1g, hw_1⟩ := hw_1
  rw [hw_1g] at hP
  refine lv_if_ne (tgt := 11) hx hb dX11_icicle_5 (by decide) (fun hc_5 => ?_) (fun hc_5 => ?_)
  · have hhc_5 := n_ne (rfl : r_3.toInt = r_3.toInt) (by decide : (0 : Int32).toInt = 0) hc_5
    refine lv_iload_n hx hb dX11_icicle_11 rfl (lv_at hl 2 rfl) ?_
    by_cases hs_6 : wh.toInt < 0 ∨ 2 < wh.toInt
    · refine lv_tableOut (tgt := 70) hx hb dX11_icicle_12 hs_6 (by decide) ?_
      refine lv_bipush (v := (-2)) hx hb dX11_icicle_70 (by decide) ?_
      exact q_iret X hP hS rfl dX11_icicle_72
    rcases (by omega : wh.toInt = 0 ∨ wh.toInt = 1 ∨ wh.toInt = 2) with j_7 | j_7 | j_7
    · refine lv_tableIn (off := 28) (tgt := 40) hx hb dX11_icicle_12 (by omega) (by omega) (by rw [j_7]; rfl) (by decide) ?_
      refine lv_aload_n hx hb dX11_icicle_40 rfl (lv_at hl 0 rfl) ?_
      have hk_8 := hOc_4.ref 1 rfl
      refine q_get X iX11_icicle_11 hP (by decide) hgc_4 rfl 1 (by decide) (List.mem_of_getElem? (i := 5) rfl) (v := .ref (ad 3)) hk_8 dX11_icicle_41 ?_
      obtain ⟨fsc_9, hgc_9, hOc_9⟩ := hW.obj (i := 3) (by decide) (sh_3 ad K)
      have hk_10 := hOc_9.ref 11 rfl
      refine q_get X iX11_icicle_6 hP (by decide) hgc_9 rfl 11 (by decide) (List.mem_of_getElem? (i := 8) rfl) (v := .ref (ad 7)) hk_10 dX11_icicle_44 ?_
      refine lv_iload_n hx hb dX11_icicle_47 rfl (lv_at hl 1 rfl) ?_
      obtain ⟨fc_11, hgc_11, hFc_11⟩ := hW.arr (i := 7) (by decide) (sh_7 ad K)
      refine q_iald X hP (by decide) hgc_11 (n_in (rfl : ic.toInt = ic.toInt) (by omega) (by omega)) dX11_icicle_48 ?_
      refine lv_topi (fun z_12 ez_12 => ?_)
      have hz_12 : 0 ≤ z_12.toInt ∧ z_12.toInt ≤ 4 := ez_12 ▸ hFc_11 _
      exact q_iret X hP hS rfl dX11_icicle_49
    · refine lv_tableIn (off := 38) (tgt := 50) hx hb dX11_icicle_12 (by omega) (by omega) (by rw [j_7]; rfl) (by decide) ?_
      refine lv_aload_n hx hb dX11_icicle_50 rfl (lv_at hl 0 rfl) ?_
      have hk_13 := hOc_4.ref 1 rfl
      refine q_get X iX11_icicle_11 hP (by decide) hgc_4 rfl 1 (by decide) (List.mem_of_getElem? (i := 5) rfl) (v := .ref (ad 3)) hk_13 dX11_icicle_51 ?_
      obtain ⟨fsc_14, hgc_14, hOc_14⟩ := hW.obj (i := 3) (by decide) (sh_3 ad K)
      have hk_15 := hOc_14.ref 12 rfl
      refine q_get X iX11_icicle_6 hP (by decide) hgc_14 rfl 12 (by decide) (List.mem_of_getElem? (i := 7) rfl) (v := .ref (ad 8)) hk_15 dX11_icicle_54 ?_
      refine lv_iload_n hx hb dX11_icicle_57 rfl (lv_at hl 1 rfl) ?_
      obtain ⟨fc_16, hgc_16, hFc_16⟩ := hW.arr (i := 8) (by decide) (sh_8 ad K)
      refine q_iald X hP (by decide) hgc_16 (n_in (rfl : ic.toInt = ic.toInt) (by omega) (by omega)) dX11_icicle_58 ?_
      refine lv_topi (fun z_17 ez_17 => ?_)
      exact q_iret X hP hS rfl dX11_icicle_59
    · refine lv_tableIn (off := 48) (tgt := 60) hx hb dX11_icicle_12 (by omega) (by omega) (by rw [j_7]; rfl) (by decide) ?_
      refine lv_aload_n hx hb dX11_icicle_60 rfl (lv_at hl 0 rfl) ?_
      have hk_18 := hOc_4.ref 1 rfl
      refine q_get X iX11_icicle_11 hP (by decide) hgc_4 rfl 1 (by decide) (List.mem_of_getElem? (i := 5) rfl) (v := .ref (ad 3)) hk_18 dX11_icicle_61 ?_
      obtain ⟨fsc_19, hgc_19, hOc_19⟩ := hW.obj (i := 3) (by decide) (sh_3 ad K)
      have hk_20 := hOc_19.ref 14 rfl
      refine q_get X iX11_icicle_6 hP (by decide) hgc_19 rfl 14 (by decide) (List.mem_of_getElem? (i := 6) rfl) (v := .ref (ad 10)) hk_20 dX11_icicle_64 ?_
      refine lv_iload_n hx hb dX11_icicle_67 rfl (lv_at hl 1 rfl) ?_
      obtain ⟨fc_21, hgc_21, hFc_21⟩ := hW.arr (i := 10) (by decide) (sh_10 ad K)
      refine q_iald X hP (by decide) hgc_21 (n_in (rfl : ic.toInt = ic.toInt) (by omega) (by omega)) dX11_icicle_68 ?_
      refine lv_topi (fun z_22 ez_22 => ?_)
      exact q_iret X hP hS rfl dX11_icicle_69
  · have hhc_5 := n_eq (rfl : r_3.toInt = r_3.toInt) (by decide : (0 : Int32).toInt = 0) hc_5
    refine lv_bipush (v := (-2)) hx hb dX11_icicle_8 (by decide) ?_
    exact q_iret X hP hS rfl dX11_icicle_10

theorem dX11_work_0 : decode cX11_work 0 = .ok (.aload_n 0, 1) := by decide +kernel
theorem dX11_work_1 : decode cX11_work 1 = .ok (.iload_n 1, 1) := by decide +kernel
theorem dX11_work_2 : decode cX11_work 2 = .ok (.invokevirtual 148, 3) := by decide +kernel
theorem dX11_work_5 : decode cX11_work 5 = .ok (.ifCond .eq 10, 3) := by decide +kernel
theorem dX11_work_8 : decode cX11_work 8 = .ok (.iload_n 2, 1) := by decide +kernel
theorem dX11_work_9 : decode cX11_work 9 = .ok (.invokestatic 151, 3) := by decide +kernel
theorem dX11_work_12 : decode cX11_work 12 = .ok (.ifCond .ne 6, 3) := by decide +kernel
theorem dX11_work_18 : decode cX11_work 18 = .ok (.iload_n 2, 1) := by decide +kernel
theorem dX11_work_19 : decode cX11_work 19 = .ok (.ifCond .ne 15, 3) := by decide +kernel
theorem dX11_work_22 : decode cX11_work 22 = .ok (.aload_n 0, 1) := by decide +kernel
theorem dX11_work_23 : decode cX11_work 23 = .ok (.getfield 19, 3) := by decide +kernel
theorem dX11_work_26 : decode cX11_work 26 = .ok (.getfield 154, 3) := by decide +kernel
theorem dX11_work_29 : decode cX11_work 29 = .ok (.iload_n 1, 1) := by decide +kernel
theorem dX11_work_30 : decode cX11_work 30 = .ok (.iaload, 1) := by decide +kernel
theorem dX11_work_31 : decode cX11_work 31 = .ok (.goto 12, 3) := by decide +kernel
theorem dX11_work_34 : decode cX11_work 34 = .ok (.aload_n 0, 1) := by decide +kernel
theorem dX11_work_35 : decode cX11_work 35 = .ok (.getfield 19, 3) := by decide +kernel
theorem dX11_work_38 : decode cX11_work 38 = .ok (.getfield 157, 3) := by decide +kernel
theorem dX11_work_41 : decode cX11_work 41 = .ok (.iload_n 1, 1) := by decide +kernel
theorem dX11_work_42 : decode cX11_work 42 = .ok (.iaload, 1) := by decide +kernel
theorem dX11_work_43 : decode cX11_work 43 = .ok (.ireturn, 1) := by decide +kernel
theorem dX11_work_15 : decode cX11_work 15 = .ok (.bipush (-2), 2) := by decide +kernel
theorem dX11_work_17 : decode cX11_work 17 = .ok (.ireturn, 1) := by decide +kernel
noncomputable def vX11_work : List Cond := .code yX11_work cX11_work 3 (some .int) :: (([.methodLink RX11 148 yX11_isWork, .instanceMethod yX11_isWork, .selects RX11 yX11_isWork yX11_isWork, .initialized RX11, .methodLink RX11 151 yX11_isEither, .static yX11_isEither, .fieldLink RX11 19 "IcicleClock" "now" "LIcicleClock$Street;", .fieldLink RX11 154 "IcicleClock$Street" "dueHour" "[I", .fieldLink RX11 157 "IcicleClock$Street" "dueDay" "[I"] : List Cond) ++ (wsX110 ++ (wsX60 ++ (vX11_isWork ++ vX11_isEither))))
theorem iX11_work_11 : ∀ w ∈ wsX110, w ∈ vX11_work := fun _ h => List.mem_cons_of_mem _ (List.mem_append_right _ (List.mem_append_left _ h))
theorem iX11_work_6 : ∀ w ∈ wsX60, w ∈ vX11_work := fun _ h => List.mem_cons_of_mem _ (List.mem_append_right _ (List.mem_append_right _ (List.mem_append_left _ h)))
theorem gs_X11_work : Gd vX11_work := Gd.cons (by decide +kernel) (Gd.app (Gd.r (by decide +kernel)) (Gd.app gwX_11 (Gd.app gwX_6 (Gd.app gs_X11_isWork gs_X11_isEither))))
theorem gg_X11_work_X11_isWork : GoodIn vX11_work (wsV RX11 148 RX11 yX11_isWork vX11_isWork) := goodIn_app (goodIn_r _ [1, 2, 3, 4] (by decide +kernel) (by decide +kernel)) (fun w h => ⟨List.mem_cons_of_mem _ (List.mem_append_right _ (List.mem_append_right _ (List.mem_append_right _ (List.mem_append_left _ h)))), gs_X11_isWork w h⟩)
theorem gg_X11_work_X11_isEither : GoodIn vX11_work (wsS RX11 151 yX11_isEither vX11_isEither) := goodIn_app (goodIn_r _ [5, 6, 4] (by decide +kernel) (by decide +kernel)) (fun w h => ⟨List.mem_cons_of_mem _ (List.mem_append_right _ (List.mem_append_right _ (List.mem_append_right _ (List.mem_append_right _ (h))))), gs_X11_isEither w h⟩)
set_option maxHeartbeats 4000000 in
set_option maxRecDepth 100000 in
theorem s_X11_work (l : Launch) (D : va_G) (cs : Nat → ClassId) (ad : Nat → Nat) (kS : kSt) (K : sK) (hKO : KO K) (hj : wJ ad 218) (g : Nat → va_E) (hW : WF (shp ad K) ad cs g) (wk : Int32) (wh : Int32) : sI l yX11_work vX11_work { frames := 1, cells := 0, slots := 0, locals := 21 } D cs ad kS [.ref (ad 0), .int wk, .int wh] g (fun r g2 => g2 = g) := by
  refine Met.startS (cc := cX11_work) (maxL := 3) (ret := (some .int)) RX11 rfl (by decide) rfl (Nat.le_of_ble_eq_true rfl) ?_
  intro p e s m below meth c ls X Z hP hl
  have hx := X.1
  have hb := X.2.1
  have hS : va_S (wA ad 218) s.heap s.heap [] := va_S.rf
  have hA : ∀ i, i < 218 → wA ad 218 (ad i) := fun i h => ⟨i, h, rfl⟩
  have hl : lv_has ls 3 [(0, .ref (ad 0)), (1, .int wk), (2, .int wh)] := hl
  refine lv_aload_n hx hb dX11_work_0 rfl (lv_at hl 0 rfl) ?_
  refine lv_iload_n hx hb dX11_work_1 rfl (lv_at hl 1 rfl) ?_
  obtain ⟨fsc_4, hgc_4, hOc_4⟩ := hW.obj (i := 0) (by decide) (sh_0 ad K)
  refine s_calli (q := (RX11, TX11, 14)) (As := [.int wk]) (rest := []) X Z (s_X11_isWork l D cs ad kS K hKO hj g hW wk) (cwV 1 X.2.2.2.2.1 gg_X11_work_X11_isWork rfl rfl rfl (by decide +kernel) ⟨Nat.le_of_ble_eq_true rfl, Nat.le_of_ble_eq_true rfl⟩) (by decide) hgc_4 rfl hP hA hS.2.1 hS rfl hl.1 rfl (Nat.le_of_ble_eq_true rfl) dX11_work_2 ⟨Nat.le_of_ble_eq_true rfl, Nat.le_of_ble_eq_true rfl⟩ (fun r_3 g_2 H locs hw_1 hP hS => ?_)
  obtain ⟨hw_1g, hw_1⟩ := hw_1
  rw [hw_1g] at hP
  have HJ15 : ∀ (H : Heap) (locs : List Loc) (ls : Array Slot), va_P D vwCl (wL ad g 218) H → va_S (wA ad 218) s.heap H locs → lv_has ls 3 [] → W p l e ({ frames := 1, cells := 0, slots := 0, locals := 21 } : Room) s m ([.ref (ad 0), .int wk, .int wh] : List Value).toArray below meth c H locs 0 0 (MQ below (qI D ad 218 (fun r g2 => g2 = g)) ([.ref (ad 0), .int wk, .int wh] : List Value).toArray s 0 0 (wA ad 218)) (F0 m 15 ls []) := by
    intro H locs ls hP hS hl
    refine lv_bipush (v := (-2)) hx hb dX11_work_15 (by decide) ?_
    exact q_iret X hP hS rfl dX11_work_17
  refine lv_if_eq (tgt := 15) hx hb dX11_work_5 (by decide) (fun hc_5 => ?_) (fun hc_5 => ?_)
  · have hhc_5 := n_eq (rfl : r_3.toInt = r_3.toInt) (by decide : (0 : Int32).toInt = 0) hc_5
    exact HJ15 _ _ ls hP hS (lv_sub hl [] rfl)
  · have hhc_5 := n_ne (rfl : r_3.toInt = r_3.toInt) (by decide : (0 : Int32).toInt = 0) hc_5
    refine lv_iload_n hx hb dX11_work_8 rfl (lv_at hl 2 rfl) ?_
    refine s_callSi (As := [.int wh]) (rest := []) X Z (s_X11_isEither l D cs ad kS K hKO hj g hW wh) (cwS 1 X.2.2.2.2.1 gg_X11_work_X11_isEither rfl rfl rfl (by decide +kernel) ⟨Nat.le_of_ble_eq_true rfl, Nat.le_of_ble_eq_true rfl⟩) hP hA hS.2.1 hS rfl hl.1 rfl (Nat.le_of_ble_eq_true rfl) dX11_work_9 ⟨Nat.le_of_ble_eq_true rfl, Nat.le_of_ble_eq_true rfl⟩ (fun r_8 g_7 H locs hw_6 hP hS => ?_)
    obtain ⟨hw_6g, hw_6⟩ := hw_6
    rw [hw_6g] at hP
    refine lv_if_ne (tgt := 18) hx hb dX11_work_12 (by decide) (fun hc_9 => ?_) (fun hc_9 => ?_)
    · have hhc_9 := n_ne (rfl : r_8.toInt = r_8.toInt) (by decide : (0 : Int32).toInt = 0) hc_9
      refine lv_iload_n hx hb dX11_work_18 rfl (lv_at hl 2 rfl) ?_
      refine lv_if_ne (tgt := 34) hx hb dX11_work_19 (by decide) (fun hc_10 => ?_) (fun hc_10 => ?_)
      · have hhc_10 := n_ne (rfl : wh.toInt = wh.toInt) (by decide : (0 : Int32).toInt = 0) hc_10
        refine lv_aload_n hx hb dX11_work_34 rfl (lv_at hl 0 rfl) ?_
        have hk_11 := hOc_4.ref 1 rfl
        refine q_get X iX11_work_11 hP (by decide) hgc_4 rfl 1 (by decide) (List.mem_of_getElem? (i := 7) rfl) (v := .ref (ad 3)) hk_11 dX11_work_35 ?_
        obtain ⟨fsc_12, hgc_12, hOc_12⟩ := hW.obj (i := 3) (by decide) (sh_3 ad K)
        have hk_13 := hOc_12.ref 16 rfl
        refine q_get X iX11_work_6 hP (by decide) hgc_12 rfl 16 (by decide) (List.mem_of_getElem? (i := 9) rfl) (v := .ref (ad 12)) hk_13 dX11_work_38 ?_
        refine lv_iload_n hx hb dX11_work_41 rfl (lv_at hl 1 rfl) ?_
        obtain ⟨fc_14, hgc_14, hFc_14⟩ := hW.arr (i := 12) (by decide) (sh_12 ad K)
        refine q_iald X hP (by decide) hgc_14 (n_in (rfl : wk.toInt = wk.toInt) (by omega) (by omega)) dX11_work_42 ?_
        refine lv_topi (fun z_15 ez_15 => ?_)
        exact q_iret X hP hS rfl dX11_work_43
      · have hhc_10 := n_eq (rfl : wh.toInt = wh.toInt) (by decide : (0 : Int32).toInt = 0) hc_10
        refine lv_aload_n hx hb dX11_work_22 rfl (lv_at hl 0 rfl) ?_
        have hk_16 := hOc_4.ref 1 rfl
        refine q_get X iX11_work_11 hP (by decide) hgc_4 rfl 1 (by decide) (List.mem_of_getElem? (i := 7) rfl) (v := .ref (ad 3)) hk_16 dX11_work_23 ?_
        obtain ⟨fsc_17, hgc_17, hOc_17⟩ := hW.obj (i := 3) (by decide) (sh_3 ad K)
        have hk_18 := hOc_17.ref 15 rfl
        refine q_get X iX11_work_6 hP (by decide) hgc_17 rfl 15 (by decide) (List.mem_of_getElem? (i := 8) rfl) (v := .ref (ad 11)) hk_18 dX11_work_26 ?_
        refine lv_iload_n hx hb dX11_work_29 rfl (lv_at hl 1 rfl) ?_
        obtain ⟨fc_19, hgc_19, hFc_19⟩ := hW.arr (i := 11) (by decide) (sh_11 ad K)
        refine q_iald X hP (by decide) hgc_19 (n_in (rfl : wk.toInt = wk.toInt) (by omega) (by omega)) dX11_work_30 ?_
        refine lv_topi (fun z_20 ez_20 => ?_)
        refine lv_goto (tgt := 43) hx hb dX11_work_31 (by decide) ?_
        exact q_iret X hP hS rfl dX11_work_43
    · have hhc_9 := n_eq (rfl : r_8.toInt = r_8.toInt) (by decide : (0 : Int32).toInt = 0) hc_9
      exact HJ15 _ _ ls hP hS (lv_sub hl [] rfl)

theorem dX11_eave_0 : decode cX11_eave 0 = .ok (.aload_n 0, 1) := by decide +kernel
theorem dX11_eave_1 : decode cX11_eave 1 = .ok (.iload_n 1, 1) := by decide +kernel
theorem dX11_eave_2 : decode cX11_eave 2 = .ok (.invokevirtual 129, 3) := by decide +kernel
theorem dX11_eave_5 : decode cX11_eave 5 = .ok (.ifCond .ne 6, 3) := by decide +kernel
theorem dX11_eave_8 : decode cX11_eave 8 = .ok (.bipush (-2), 2) := by decide +kernel
theorem dX11_eave_10 : decode cX11_eave 10 = .ok (.ireturn, 1) := by decide +kernel
theorem dX11_eave_11 : decode cX11_eave 11 = .ok (.iconst 0, 1) := by decide +kernel
theorem dX11_eave_12 : decode cX11_eave 12 = .ok (.istore_n 2, 1) := by decide +kernel
theorem dX11_eave_13 : decode cX11_eave 13 = .ok (.iconst 0, 1) := by decide +kernel
theorem dX11_eave_14 : decode cX11_eave 14 = .ok (.istore_n 3, 1) := by decide +kernel
theorem dX11_eave_15 : decode cX11_eave 15 = .ok (.iload_n 3, 1) := by decide +kernel
theorem dX11_eave_16 : decode cX11_eave 16 = .ok (.aload_n 0, 1) := by decide +kernel
theorem dX11_eave_17 : decode cX11_eave 17 = .ok (.getfield 19, 3) := by decide +kernel
theorem dX11_eave_20 : decode cX11_eave 20 = .ok (.getfield 160, 3) := by decide +kernel
theorem dX11_eave_23 : decode cX11_eave 23 = .ok (.if_icmp .ge 28, 3) := by decide +kernel
theorem dX11_eave_26 : decode cX11_eave 26 = .ok (.aload_n 0, 1) := by decide +kernel
theorem dX11_eave_27 : decode cX11_eave 27 = .ok (.getfield 19, 3) := by decide +kernel
theorem dX11_eave_30 : decode cX11_eave 30 = .ok (.getfield 139, 3) := by decide +kernel
theorem dX11_eave_33 : decode cX11_eave 33 = .ok (.iload_n 3, 1) := by decide +kernel
theorem dX11_eave_34 : decode cX11_eave 34 = .ok (.iaload, 1) := by decide +kernel
theorem dX11_eave_35 : decode cX11_eave 35 = .ok (.iload_n 1, 1) := by decide +kernel
theorem dX11_eave_36 : decode cX11_eave 36 = .ok (.if_icmp .ne 9, 3) := by decide +kernel
theorem dX11_eave_39 : decode cX11_eave 39 = .ok (.iload_n 2, 1) := by decide +kernel
theorem dX11_eave_40 : decode cX11_eave 40 = .ok (.iconst 1, 1) := by decide +kernel
theorem dX11_eave_41 : decode cX11_eave 41 = .ok (.iload_n 3, 1) := by decide +kernel
theorem dX11_eave_42 : decode cX11_eave 42 = .ok (.ishl, 1) := by decide +kernel
theorem dX11_eave_43 : decode cX11_eave 43 = .ok (.ior, 1) := by decide +kernel
theorem dX11_eave_44 : decode cX11_eave 44 = .ok (.istore_n 2, 1) := by decide +kernel
theorem dX11_eave_45 : decode cX11_eave 45 = .ok (.iinc 3 1, 3) := by decide +kernel
theorem dX11_eave_48 : decode cX11_eave 48 = .ok (.goto (-33), 3) := by decide +kernel
theorem dX11_eave_51 : decode cX11_eave 51 = .ok (.iload_n 2, 1) := by decide +kernel
theorem dX11_eave_52 : decode cX11_eave 52 = .ok (.ireturn, 1) := by decide +kernel
noncomputable def vX11_eave : List Cond := .code yX11_eave cX11_eave 4 (some .int) :: (([.methodLink RX11 129 yX11_isEave, .instanceMethod yX11_isEave, .selects RX11 yX11_isEave yX11_isEave, .initialized RX11, .fieldLink RX11 19 "IcicleClock" "now" "LIcicleClock$Street;", .fieldLink RX11 160 "IcicleClock$Street" "icicles" "I", .fieldLink RX11 139 "IcicleClock$Street" "eaveOf" "[I"] : List Cond) ++ (wsX110 ++ (wsX60 ++ vX11_isEave)))
theorem iX11_eave_11 : ∀ w ∈ wsX110, w ∈ vX11_eave := fun _ h => List.mem_cons_of_mem _ (List.mem_append_right _ (List.mem_append_left _ h))
theorem iX11_eave_6 : ∀ w ∈ wsX60, w ∈ vX11_eave := fun _ h => List.mem_cons_of_mem _ (List.mem_append_right _ (List.mem_append_right _ (List.mem_append_left _ h)))
theorem gs_X11_eave : Gd vX11_eave := Gd.cons (by decide +kernel) (Gd.app (Gd.r (by decide +kernel)) (Gd.app gwX_11 (Gd.app gwX_6 gs_X11_isEave)))
theorem gg_X11_eave_X11_isEave : GoodIn vX11_eave (wsV RX11 129 RX11 yX11_isEave vX11_isEave) := goodIn_app (goodIn_r _ [1, 2, 3, 4] (by decide +kernel) (by decide +kernel)) (fun w h => ⟨List.mem_cons_of_mem _ (List.mem_append_right _ (List.mem_append_right _ (List.mem_append_right _ (h)))), gs_X11_isEave w h⟩)
set_option maxHeartbeats 4000000 in
set_option maxRecDepth 100000 in
theorem s_X11_eave (l : Launch) (D : va_G) (cs : Nat → ClassId) (ad : Nat → Nat) (kS : kSt) (K : sK) (hKO : KO K) (hj : wJ ad 218) (g : Nat → va_E) (hW : WF (shp ad K) ad cs g) (ev : Int32) : sI l yX11_eave vX11_eave { frames := 1, cells := 0, slots := 0, locals := 21 } D cs ad kS [.ref (ad 0), .int ev] g (fun r g2 => g2 = g) := by
  refine Met.startS (cc := cX11_eave) (maxL := 4) (ret := (some .int)) RX11 rfl (by decide) rfl (Nat.le_of_ble_eq_true rfl) ?_
  intro p e s m below meth c ls X Z hP hl
  have hx := X.1
  have hb := X.2.1
  have hS : va_S (wA ad 218) s.heap s.heap [] := va_S.rf
  have hA : ∀ i, i < 218 → wA ad 218 (ad i) := fun i h => ⟨i, h, rfl⟩
  have hl : lv_has ls 4 [(0, .ref (ad 0)), (1, .int ev)] := hl
  refine lv_aload_n hx hb dX11_eave_0 rfl (lv_at hl 0 rfl) ?_
  refine lv_iload_n hx hb dX11_eave_1 rfl (lv_at hl 1 rfl) ?_
  obtain ⟨fsc_4, hgc_4, hOc_4⟩ := hW.obj (i := 0) (by decide) (sh_0 ad K)
  refine s_calli (q := (RX11, TX11, 14)) (As := [.int ev]) (rest := []) X Z (s_X11_isEave l D cs ad kS K hKO hj g hW ev) (cwV 1 X.2.2.2.2.1 gg_X11_eave_X11_isEave rfl rfl rfl (by decide +kernel) ⟨Nat.le_of_ble_eq_true rfl, Nat.le_of_ble_eq_true rfl⟩) (by decide) hgc_4 rfl hP hA hS.2.1 hS rfl hl.1 rfl (Nat.le_of_ble_eq_true rfl) dX11_eave_2 ⟨Nat.le_of_ble_eq_true rfl, Nat.le_of_ble_eq_true rfl⟩ (fun r_3 g_2 H locs hw_1 hP hS => ?_)
  obtain ⟨hw_1g, hw_1⟩ := hw_1
  rw [hw_1g] at hP
  refine lv_if_ne (tgt := 11) hx hb dX11_eave_5 (by decide) (fun hc_5 => ?_) (fun hc_5 => ?_)
  · have hhc_5 := n_ne (rfl : r_3.toInt = r_3.toInt) (by decide : (0 : Int32).toInt = 0) hc_5
    refine lv_iconst (v := 0) hx hb dX11_eave_11 (by decide) ?_
    refine lv_istore_n (lv' := [(2, .int 0), (0, .ref (ad 0)), (1, .int ev)]) hx hb dX11_eave_12 rfl hl (by decide) rfl (fun ls hl => ?_)
    refine lv_iconst (v := 0) hx hb dX11_eave_13 (by decide) ?_
    refine lv_istore_n (lv' := [(3, .int 0), (2, .int 0), (0, .ref (ad 0)), (1, .int ev)]) hx hb dX11_eave_14 rfl hl (by decide) rfl (fun ls hl => ?_)
    have HL15 : ∀ (n15 : Nat) (v15_3 : Int32) (v15_2 : Int32) (H : Heap) (locs : List Loc) (ls : Array Slot), (8 - v15_3.toInt).toNat < n15 → (0 ≤ v15_3.toInt ∧ v15_3.toInt ≤ 8) → va_P D vwCl (wL ad g 218) H → va_S (wA ad 218) s.heap H locs → lv_has ls 4 [(3, .int v15_3), (2, .int v15_2), (0, .ref (ad 0)), (1, .int ev)] → W p l e ({ frames := 1, cells := 0, slots := 0, locals := 21 } : Room) s m ([.ref (ad 0), .int ev] : List Value).toArray below meth c H locs 0 0 (MQ below (qI D ad 218 (fun r g2 => g2 = g)) ([.ref (ad 0), .int ev] : List Value).toArray s 0 0 (wA ad 218)) (F0 m 15 ls []) := by
      intro n15
      induction n15 with
      | zero =>
        intro v15_3 v15_2 H locs ls hm15 hv15_0 hP hS hl
        exact absurd hm15 (Nat.not_lt_zero _)
      | succ n15 ih15 =>
        intro v15_3 v15_2 H locs ls hm15 hv15_0 hP hS hl
        refine lv_iload_n hx hb dX11_eave_15 rfl (lv_at hl 0 rfl) ?_
        refine lv_aload_n hx hb dX11_eave_16 rfl (lv_at hl 2 rfl) ?_
        have hk_6 := hOc_4.ref 1 rfl
        refine q_get X iX11_eave_11 hP (by decide) hgc_4 rfl 1 (by decide) (List.mem_of_getElem? (i := 5) rfl) (v := .ref (ad 3)) hk_6 dX11_eave_17 ?_
        obtain ⟨fsc_7, hgc_7, hOc_7⟩ := hW.obj (i := 3) (by decide) (sh_3 ad K)
        obtain ⟨x_9, hk_8, hlx_9, hhx_9⟩ := hOc_7.int 5 rfl
        refine q_get X iX11_eave_6 hP (by decide) hgc_7 rfl 5 (by decide) (List.mem_of_getElem? (i := 6) rfl) (v := .int x_9) hk_8 dX11_eave_20 ?_
        refine lv_icmp_ge (tgt := 51) hx hb dX11_eave_23 (by decide) (fun hc_10 => ?_) (fun hc_10 => ?_)
        · have hhc_10 := n_le (rfl : x_9.toInt = x_9.toInt) (rfl : v15_3.toInt = v15_3.toInt) hc_10
          refine lv_iload_n hx hb dX11_eave_51 rfl (lv_at hl 1 rfl) ?_
          exact q_iret X hP hS rfl dX11_eave_52
        · have hhc_10 := n_nle (rfl : x_9.toInt = x_9.toInt) (rfl : v15_3.toInt = v15_3.toInt) hc_10
          refine lv_aload_n hx hb dX11_eave_26 rfl (lv_at hl 2 rfl) ?_
          refine q_get X iX11_eave_11 hP (by decide) hgc_4 rfl 1 (by decide) (List.mem_of_getElem? (i := 5) rfl) (v := .ref (ad 3)) hk_6 dX11_eave_27 ?_
          have hk_11 := hOc_7.ref 11 rfl
          refine q_get X iX11_eave_6 hP (by decide) hgc_7 rfl 11 (by decide) (List.mem_of_getElem? (i := 7) rfl) (v := .ref (ad 7)) hk_11 dX11_eave_30 ?_
          refine lv_iload_n hx hb dX11_eave_33 rfl (lv_at hl 0 rfl) ?_
          obtain ⟨fc_12, hgc_12, hFc_12⟩ := hW.arr (i := 7) (by decide) (sh_7 ad K)
          refine q_iald X hP (by decide) hgc_12 (n_in (rfl : v15_3.toInt = v15_3.toInt) (by omega) (by omega)) dX11_eave_34 ?_
          refine lv_topi (fun z_13 ez_13 => ?_)
          have hz_13 : 0 ≤ z_13.toInt ∧ z_13.toInt ≤ 4 := ez_13 ▸ hFc_12 _
          refine lv_iload_n hx hb dX11_eave_35 rfl (lv_at hl 3 rfl) ?_
          have HJ45 : ∀ (v45_2 : Int32) (H : Heap) (locs : List Loc) (ls : Array Slot), va_P D vwCl (wL ad g 218) H → va_S (wA ad 218) s.heap H locs → lv_has ls 4 [(3, .int v15_3), (2, .int v45_2), (0, .ref (ad 0)), (1, .int ev)] → W p l e ({ frames := 1, cells := 0, slots := 0, locals := 21 } : Room) s m ([.ref (ad 0), .int ev] : List Value).toArray below meth c H locs 0 0 (MQ below (qI D ad 218 (fun r g2 => g2 = g)) ([.ref (ad 0), .int ev] : List Value).toArray s 0 0 (wA ad 218)) (F0 m 45 ls []) := by
            intro v45_2 H locs ls hP hS hl
            obtain ⟨x_14, ex_14⟩ : ∃ y : Int32, y = v15_3 + 1 := ⟨_, rfl⟩
            have hx_14 : x_14.toInt = v15_3.toInt + 1 := n_add rfl (by decide : (1 : Int32).toInt = 1) ex_14 (by omega) (by omega)
            refine lv_iinc (v := x_14) (lv' := [(3, .int x_14), (2, .int v45_2), (0, .ref (ad 0)), (1, .int ev)]) hx hb dX11_eave_45 hl (k := 0) rfl (by rw [ex_14]; rfl) (by decide) rfl (fun ls hl => ?_)
            refine lv_goto (tgt := 15) hx hb dX11_eave_48 (by decide) ?_
            exact ih15 x_14 v45_2 _ _ ls (by omega) (by omega) hP hS (lv_sub hl [0, 1, 2, 3] rfl)
          refine lv_icmp_ne (tgt := 45) hx hb dX11_eave_36 (by decide) (fun hc_15 => ?_) (fun hc_15 => ?_)
          · have hhc_15 := n_ne (rfl : z_13.toInt = z_13.toInt) (rfl : ev.toInt = ev.toInt) hc_15
            exact HJ45 v15_2 _ _ ls hP hS (lv_sub hl [0, 1, 2, 3] rfl)
          · have hhc_15 := n_eq (rfl : z_13.toInt = z_13.toInt) (rfl : ev.toInt = ev.toInt) hc_15
            refine lv_iload_n hx hb dX11_eave_39 rfl (lv_at hl 1 rfl) ?_
            refine lv_iconst (v := 1) hx hb dX11_eave_40 (by decide) ?_
            refine lv_iload_n hx hb dX11_eave_41 rfl (lv_at hl 0 rfl) ?_
            refine lv_ishl hx hb dX11_eave_42 ?_
            refine lv_topi (fun z_16 ez_16 => ?_)
            refine lv_ior hx hb dX11_eave_43 ?_
            refine lv_topi (fun z_17 ez_17 => ?_)
            refine lv_istore_n (lv' := [(2, .int z_17), (3, .int v15_3), (0, .ref (ad 0)), (1, .int ev)]) hx hb dX11_eave_44 rfl hl (by decide) rfl (fun ls hl => ?_)
            exact HJ45 z_17 _ _ ls hP hS (lv_sub hl [1, 0, 2, 3] rfl)
    have hiv15_3 : (0 : Int32).toInt = 0 := by decide
    have hiv15_2 : (0 : Int32).toInt = 0 := by decide
    exact HL15 _ 0 0 _ _ ls (Nat.lt_succ_self _) (by omega) hP hS (lv_sub hl [0, 1, 2, 3] rfl)
  · have hhc_5 := n_eq (rfl : r_3.toInt = r_3.toInt) (by decide : (0 : Int32).toInt = 0) hc_5
    refine lv_bipush (v := (-2)) hx hb dX11_eave_8 (by decide) ?_
    exact q_iret X hP hS rfl dX11_eave_10

theorem dX11_falls_0 : decode cX11_falls 0 = .ok (.aload_n 0, 1) := by decide +kernel
theorem dX11_falls_1 : decode cX11_falls 1 = .ok (.iload_n 1, 1) := by decide +kernel
theorem dX11_falls_2 : decode cX11_falls 2 = .ok (.invokevirtual 136, 3) := by decide +kernel
theorem dX11_falls_5 : decode cX11_falls 5 = .ok (.ifCond .eq 15, 3) := by decide +kernel
theorem dX11_falls_8 : decode cX11_falls 8 = .ok (.aload_n 0, 1) := by decide +kernel
theorem dX11_falls_9 : decode cX11_falls 9 = .ok (.getfield 44, 3) := by decide +kernel
theorem dX11_falls_12 : decode cX11_falls 12 = .ok (.getfield 163, 3) := by decide +kernel
theorem dX11_falls_15 : decode cX11_falls 15 = .ok (.iload_n 1, 1) := by decide +kernel
theorem dX11_falls_16 : decode cX11_falls 16 = .ok (.iaload, 1) := by decide +kernel
theorem dX11_falls_17 : decode cX11_falls 17 = .ok (.goto 5, 3) := by decide +kernel
theorem dX11_falls_20 : decode cX11_falls 20 = .ok (.bipush (-2), 2) := by decide +kernel
theorem dX11_falls_22 : decode cX11_falls 22 = .ok (.ireturn, 1) := by decide +kernel
noncomputable def vX11_falls : List Cond := .code yX11_falls cX11_falls 2 (some .int) :: (([.methodLink RX11 136 yX11_isIcicle, .instanceMethod yX11_isIcicle, .selects RX11 yX11_isIcicle yX11_isIcicle, .initialized RX11, .fieldLink RX11 44 "IcicleClock" "winter" "LIcicleClock$Winter;", .fieldLink RX11 163 "IcicleClock$Winter" "fall" "[I"] : List Cond) ++ (wsX110 ++ (wsX100 ++ vX11_isIcicle)))
theorem iX11_falls_11 : ∀ w ∈ wsX110, w ∈ vX11_falls := fun _ h => List.mem_cons_of_mem _ (List.mem_append_right _ (List.mem_append_left _ h))
theorem iX11_falls_10 : ∀ w ∈ wsX100, w ∈ vX11_falls := fun _ h => List.mem_cons_of_mem _ (List.mem_append_right _ (List.mem_append_right _ (List.mem_append_left _ h)))
theorem gs_X11_falls : Gd vX11_falls := Gd.cons (by decide +kernel) (Gd.app (Gd.r (by decide +kernel)) (Gd.app gwX_11 (Gd.app gwX_10 gs_X11_isIcicle)))
theorem gg_X11_falls_X11_isIcicle : GoodIn vX11_falls (wsV RX11 136 RX11 yX11_isIcicle vX11_isIcicle) := goodIn_app (goodIn_r _ [1, 2, 3, 4] (by decide +kernel) (by decide +kernel)) (fun w h => ⟨List.mem_cons_of_mem _ (List.mem_append_right _ (List.mem_append_right _ (List.mem_append_right _ (h)))), gs_X11_isIcicle w h⟩)
set_option maxHeartbeats 4000000 in
set_option maxRecDepth 100000 in
theorem s_X11_falls (l : Launch) (D : va_G) (cs : Nat → ClassId) (ad : Nat → Nat) (kS : kSt) (K : sK) (hKO : KO K) (hj : wJ ad 218) (g : Nat → va_E) (hW : WF (shp ad K) ad cs g) (ic : Int32) : sI l yX11_falls vX11_falls { frames := 1, cells := 0, slots := 0, locals := 21 } D cs ad kS [.ref (ad 0), .int ic] g (fun r g2 => g2 = g) := by
  refine Met.startS (cc := cX11_falls) (maxL := 2) (ret := (some .int)) RX11 rfl (by decide) rfl (Nat.le_of_ble_eq_true rfl) ?_
  intro p e s m below meth c ls X Z hP hl
  have hx := X.1
  have hb := X.2.1
  have hS : va_S (wA ad 218) s.heap s.heap [] := va_S.rf
  have hA : ∀ i, i < 218 → wA ad 218 (ad i) := fun i h => ⟨i, h, rfl⟩
  have hl : lv_has ls 2 [(0, .ref (ad 0)), (1, .int ic)] := hl
  refine lv_aload_n hx hb dX11_falls_0 rfl (lv_at hl 0 rfl) ?_
  refine lv_iload_n hx hb dX11_falls_1 rfl (lv_at hl 1 rfl) ?_
  obtain ⟨fsc_4, hgc_4, hOc_4⟩ := hW.obj (i := 0) (by decide) (sh_0 ad K)
  refine s_calli (q := (RX11, TX11, 14)) (As := [.int ic]) (rest := []) X Z (s_X11_isIcicle l D cs ad kS K hKO hj g hW ic) (cwV 1 X.2.2.2.2.1 gg_X11_falls_X11_isIcicle rfl rfl rfl (by decide +kernel) ⟨Nat.le_of_ble_eq_true rfl, Nat.le_of_ble_eq_true rfl⟩) (by decide) hgc_4 rfl hP hA hS.2.1 hS rfl hl.1 rfl (Nat.le_of_ble_eq_true rfl) dX11_falls_2 ⟨Nat.le_of_ble_eq_true rfl, Nat.le_of_ble_eq_true rfl⟩ (fun r_3 g_2 H locs hw_1 hP hS => ?_)
  obtain ⟨hw_1g, hw_1⟩ := hw_1
  rw [hw_1g] at hP
  refine lv_if_eq (tgt := 20) hx hb dX11_falls_5 (by decide) (fun hc_5 => ?_) (fun hc_5 => ?_)
  · have hhc_5 := n_eq (rfl : r_3.toInt = r_3.toInt) (by decide : (0 : Int32).toInt = 0) hc_5
    refine lv_bipush (v := (-2)) hx hb dX11_falls_20 (by decide) ?_
    exact q_iret X hP hS rfl dX11_falls_22
  · have hhc_5 := n_ne (rfl : r_3.toInt = r_3.toInt) (by decide : (0 : Int32).toInt = 0) hc_5
    refine lv_aload_n hx hb dX11_falls_8 rfl (lv_at hl 0 rfl) ?_
    have hk_6 := hOc_4.ref 6 rfl
    refine q_get X iX11_falls_11 hP (by decide) hgc_4 rfl 6 (by decide) (List.mem_of_getElem? (i := 5) rfl) (v := .ref (ad 114)) hk_6 dX11_falls_9 ?_
    obtain ⟨fsc_7, hgc_7, hOc_7⟩ := hW.obj (i := 114) (by decide) (sh_114 ad K)
    have hk_8 := hOc_7.ref 3 rfl
    refine q_get X iX11_falls_10 hP (by decide) hgc_7 rfl 3 (by decide) (List.mem_of_getElem? (i := 6) rfl) (v := .ref (ad 115)) hk_8 dX11_falls_12 ?_
    refine lv_iload_n hx hb dX11_falls_15 rfl (lv_at hl 1 rfl) ?_
    obtain ⟨fc_9, hgc_9, hFc_9⟩ := hW.arr (i := 115) (by decide) (sh_115 ad K)
    refine q_iald X hP (by decide) hgc_9 (n_in (rfl : ic.toInt = ic.toInt) (by omega) (by omega)) dX11_falls_16 ?_
    refine lv_topi (fun z_10 ez_10 => ?_)
    have hz_10 : (-1) ≤ z_10.toInt ∧ z_10.toInt ≤ 13 := ez_10 ▸ hFc_9 _
    refine lv_goto (tgt := 22) hx hb dX11_falls_17 (by decide) ?_
    exact q_iret X hP hS rfl dX11_falls_22

theorem dX11_length_0 : decode cX11_length 0 = .ok (.aload_n 0, 1) := by decide +kernel
theorem dX11_length_1 : decode cX11_length 1 = .ok (.iload_n 1, 1) := by decide +kernel
theorem dX11_length_2 : decode cX11_length 2 = .ok (.invokevirtual 136, 3) := by decide +kernel
theorem dX11_length_5 : decode cX11_length 5 = .ok (.ifCond .eq 11, 3) := by decide +kernel
theorem dX11_length_8 : decode cX11_length 8 = .ok (.aload_n 0, 1) := by decide +kernel
theorem dX11_length_9 : decode cX11_length 9 = .ok (.iload_n 2, 1) := by decide +kernel
theorem dX11_length_10 : decode cX11_length 10 = .ok (.invokevirtual 121, 3) := by decide +kernel
theorem dX11_length_13 : decode cX11_length 13 = .ok (.ifCond .ne 6, 3) := by decide +kernel
theorem dX11_length_19 : decode cX11_length 19 = .ok (.aload_n 0, 1) := by decide +kernel
theorem dX11_length_20 : decode cX11_length 20 = .ok (.getfield 44, 3) := by decide +kernel
theorem dX11_length_23 : decode cX11_length 23 = .ok (.iload_n 1, 1) := by decide +kernel
theorem dX11_length_24 : decode cX11_length 24 = .ok (.iload_n 2, 1) := by decide +kernel
theorem dX11_length_25 : decode cX11_length 25 = .ok (.invokevirtual 166, 3) := by decide +kernel
theorem dX11_length_28 : decode cX11_length 28 = .ok (.ifCond .eq 5, 3) := by decide +kernel
theorem dX11_length_31 : decode cX11_length 31 = .ok (.iconst 0, 1) := by decide +kernel
theorem dX11_length_32 : decode cX11_length 32 = .ok (.ireturn, 1) := by decide +kernel
theorem dX11_length_33 : decode cX11_length 33 = .ok (.aload_n 0, 1) := by decide +kernel
theorem dX11_length_34 : decode cX11_length 34 = .ok (.getfield 19, 3) := by decide +kernel
theorem dX11_length_37 : decode cX11_length 37 = .ok (.getfield 170, 3) := by decide +kernel
theorem dX11_length_40 : decode cX11_length 40 = .ok (.iload_n 1, 1) := by decide +kernel
theorem dX11_length_41 : decode cX11_length 41 = .ok (.iaload, 1) := by decide +kernel
theorem dX11_length_42 : decode cX11_length 42 = .ok (.aload_n 0, 1) := by decide +kernel
theorem dX11_length_43 : decode cX11_length 43 = .ok (.getfield 44, 3) := by decide +kernel
theorem dX11_length_46 : decode cX11_length 46 = .ok (.aload_n 0, 1) := by decide +kernel
theorem dX11_length_47 : decode cX11_length 47 = .ok (.getfield 19, 3) := by decide +kernel
theorem dX11_length_50 : decode cX11_length 50 = .ok (.aload_n 0, 1) := by decide +kernel
theorem dX11_length_51 : decode cX11_length 51 = .ok (.getfield 19, 3) := by decide +kernel
theorem dX11_length_54 : decode cX11_length 54 = .ok (.getfield 139, 3) := by decide +kernel
theorem dX11_length_57 : decode cX11_length 57 = .ok (.iload_n 1, 1) := by decide +kernel
theorem dX11_length_58 : decode cX11_length 58 = .ok (.iaload, 1) := by decide +kernel
theorem dX11_length_59 : decode cX11_length 59 = .ok (.iload_n 2, 1) := by decide +kernel
theorem dX11_length_60 : decode cX11_length 60 = .ok (.invokevirtual 173, 3) := by decide +kernel
theorem dX11_length_63 : decode cX11_length 63 = .ok (.isub, 1) := by decide +kernel
theorem dX11_length_64 : decode cX11_length 64 = .ok (.ireturn, 1) := by decide +kernel
theorem dX11_length_16 : decode cX11_length 16 = .ok (.bipush (-2), 2) := by decide +kernel
theorem dX11_length_18 : decode cX11_length 18 = .ok (.ireturn, 1) := by decide +kernel
noncomputable def vX11_length : List Cond := .code yX11_length cX11_length 3 (some .int) :: (([.methodLink RX11 136 yX11_isIcicle, .instanceMethod yX11_isIcicle, .selects RX11 yX11_isIcicle yX11_isIcicle, .initialized RX11, .methodLink RX11 121 yX11_isDay, .instanceMethod yX11_isDay, .selects RX11 yX11_isDay yX11_isDay, .fieldLink RX11 44 "IcicleClock" "winter" "LIcicleClock$Winter;", .methodLink RX11 166 yX10_fellBy, .instanceMethod yX10_fellBy, .selects RX10 yX10_fellBy yX10_fellBy, .initialized RX10, .fieldLink RX11 19 "IcicleClock" "now" "LIcicleClock$Street;", .fieldLink RX11 170 "IcicleClock$Street" "lengthHung" "[I", .fieldLink RX11 139 "IcicleClock$Street" "eaveOf" "[I", .methodLink RX11 173 yX10_lossThrough, .instanceMethod yX10_lossThrough, .selects RX10 yX10_lossThrough yX10_lossThrough] : List Cond) ++ (wsX110 ++ (wsX60 ++ (vX11_isIcicle ++ (vX11_isDay ++ (vX10_fellBy ++ vX10_lossThrough))))))
theorem iX11_length_11 : ∀ w ∈ wsX110, w ∈ vX11_length := fun _ h => List.mem_cons_of_mem _ (List.mem_append_right _ (List.mem_append_left _ h))
theorem iX11_length_6 : ∀ w ∈ wsX60, w ∈ vX11_length := fun _ h => List.mem_cons_of_mem _ (List.mem_append_right _ (List.mem_append_right _ (List.mem_append_left _ h)))
theorem gs_X11_length : Gd vX11_length := Gd.cons (by decide +kernel) (Gd.app (Gd.r (by decide +kernel)) (Gd.app gwX_11 (Gd.app gwX_6 (Gd.app gs_X11_isIcicle (Gd.app gs_X11_isDay (Gd.app gs_X10_fellBy gs_X10_lossThrough))))))
theorem gg_X11_length_X11_isIcicle : GoodIn vX11_length (wsV RX11 136 RX11 yX11_isIcicle vX11_isIcicle) := goodIn_app (goodIn_r _ [1, 2, 3, 4] (by decide +kernel) (by decide +kernel)) (fun w h => ⟨List.mem_cons_of_mem _ (List.mem_append_right _ (List.mem_append_right _ (List.mem_append_right _ (List.mem_append_left _ h)))), gs_X11_isIcicle w h⟩)
theorem gg_X11_length_X11_isDay : GoodIn vX11_length (wsV RX11 121 RX11 yX11_isDay vX11_isDay) := goodIn_app (goodIn_r _ [5, 6, 7, 4] (by decide +kernel) (by decide +kernel)) (fun w h => ⟨List.mem_cons_of_mem _ (List.mem_append_right _ (List.mem_append_right _ (List.mem_append_right _ (List.mem_append_right _ (List.mem_append_left _ h))))), gs_X11_isDay w h⟩)
theorem gg_X11_length_X10_fellBy : GoodIn vX11_length (wsV RX11 166 RX10 yX10_fellBy vX10_fellBy) := goodIn_app (goodIn_r _ [9, 10, 11, 12] (by decide +kernel) (by decide +kernel)) (fun w h => ⟨List.mem_cons_of_mem _ (List.mem_append_right _ (List.mem_append_right _ (List.mem_append_right _ (List.mem_append_right _ (List.mem_append_right _ (List.mem_append_left _ h)))))), gs_X10_fellBy w h⟩)
theorem gg_X11_length_X10_lossThrough : GoodIn vX11_length (wsV RX11 173 RX10 yX10_lossThrough vX10_lossThrough) := goodIn_app (goodIn_r _ [16, 17, 18, 12] (by decide +kernel) (by decide +kernel)) (fun w h => ⟨List.mem_cons_of_mem _ (List.mem_append_right _ (List.mem_append_right _ (List.mem_append_right _ (List.mem_append_right _ (List.mem_append_right _ (List.mem_append_right _ (h))))))), gs_X10_lossThrough w h⟩)
set_option maxHeartbeats 4000000 in
set_option maxRecDepth 100000 in
theorem s_X11_length (l : Launch) (D : va_G) (cs : Nat → ClassId) (ad : Nat → Nat) (kS : kSt) (K : sK) (hKO : KO K) (hj : wJ ad 218) (g : Nat → va_E) (hW : WF (shp ad K) ad cs g) (ic : Int32) (dy : Int32) : sI l yX11_length vX11_length { frames := 3, cells := 0, slots := 0, locals := 71 } D cs ad kS [.ref (ad 0), .int ic, .int dy] g (fun r g2 => g2 = g) := by
  refine Met.startS (cc := cX11_length) (maxL := 3) (ret := (some .int)) RX11 rfl (by decide) rfl (Nat.le_of_ble_eq_true rfl) ?_
  intro p e s m below meth c ls X Z hP hl
  have hx := X.1
  have hb := X.2.1
  have hS : va_S (wA ad 218) s.heap s.heap [] := va_S.rf
  have hA : ∀ i, i < 218 → wA ad 218 (ad i) := fun i h => ⟨i, h, rfl⟩
  have hl : lv_has ls 3 [(0, .ref (ad 0)), (1, .int ic), (2, .int dy)] := hl
  refine lv_aload_n hx hb dX11_length_0 rfl (lv_at hl 0 rfl) ?_
  refine lv_iload_n hx hb dX11_length_1 rfl (lv_at hl 1 rfl) ?_
  obtain ⟨fsc_4, hgc_4, hOc_4⟩ := hW.obj (i := 0) (by decide) (sh_0 ad K)
  refine s_calli (q := (RX11, TX11, 14)) (As := [.int ic]) (rest := []) X Z (s_X11_isIcicle l D cs ad kS K hKO hj g hW ic) (cwV 1 X.2.2.2.2.1 gg_X11_length_X11_isIcicle rfl rfl rfl (by decide +kernel) ⟨Nat.le_of_ble_eq_true rfl, Nat.le_of_ble_eq_true rfl⟩) (by decide) hgc_4 rfl hP hA hS.2.1 hS rfl hl.1 rfl (Nat.le_of_ble_eq_true rfl) dX11_length_2 ⟨Nat.le_of_ble_eq_true rfl, Nat.le_of_ble_eq_true rfl⟩ (fun r_3 g_2 H locs hw_1 hP hS => ?_)
  obtain ⟨hw_1g, hw_1⟩ := hw_1
  rw [hw_1g] at hP
  have HJ16 : ∀ (H : Heap) (locs : List Loc) (ls : Array Slot), va_P D vwCl (wL ad g 218) H → va_S (wA ad 218) s.heap H locs → lv_has ls 3 [] → W p l e ({ frames := 3, cells := 0, slots := 0, locals := 71 } : Room) s m ([.ref (ad 0), .int ic, .int dy] : List Value).toArray below meth c H locs 0 0 (MQ below (qI D ad 218 (fun r g2 => g2 = g)) ([.ref (ad 0), .int ic, .int dy] : List Value).toArray s 0 0 (wA ad 218)) (F0 m 16 ls []) := by
    intro H locs ls hP hS hl
    refine lv_bipush (v := (-2)) hx hb dX11_length_16 (by decide) ?_
    exact q_iret X hP hS rfl dX11_length_18
  refine lv_if_eq (tgt := 16) hx hb dX11_length_5 (by decide) (fun hc_5 => ?_) (fun hc_5 => ?_)
  · have hhc_5 := n_eq (rfl : r_3.toInt = r_3.toInt) (by decide : (0 : Int32).toInt = 0) hc_5
    exact HJ16 _ _ ls hP hS (lv_sub hl [] rfl)
  · have hhc_5 := n_ne (rfl : r_3.toInt = r_3.toInt) (by decide : (0 : Int32).toInt = 0) hc_5
    refine lv_aload_n hx hb dX11_length_8 rfl (lv_at hl 0 rfl) ?_
    refine lv_iload_n hx hb dX11_length_9 rfl (lv_at hl 2 rfl) ?_
    refine s_calli (q := (RX11, TX11, 14)) (As := [.int dy]) (rest := []) X Z (s_X11_isDay l D cs ad kS K hKO hj g hW dy) (cwV 1 X.2.2.2.2.1 gg_X11_length_X11_isDay rfl rfl rfl (by decide +kernel) ⟨Nat.le_of_ble_eq_true rfl, Nat.le_of_ble_eq_true rfl⟩) (by decide) hgc_4 rfl hP hA hS.2.1 hS rfl hl.1 rfl (Nat.le_of_ble_eq_true rfl) dX11_length_10 ⟨Nat.le_of_ble_eq_true rfl, Nat.le_of_ble_eq_true rfl⟩ (fun r_8 g_7 H locs hw_6 hP hS => ?_)
    obtain ⟨hw_6g, hw_6⟩ := hw_6
    rw [hw_6g] at hP
    refine lv_if_ne (tgt := 19) hx hb dX11_length_13 (by decide) (fun hc_9 => ?_) (fun hc_9 => ?_)
    · have hhc_9 := n_ne (rfl : r_8.toInt = r_8.toInt) (by decide : (0 : Int32).toInt = 0) hc_9
      refine lv_aload_n hx hb dX11_length_19 rfl (lv_at hl 0 rfl) ?_
      have hk_10 := hOc_4.ref 6 rfl
      refine q_get X iX11_length_11 hP (by decide) hgc_4 rfl 6 (by decide) (List.mem_of_getElem? (i := 8) rfl) (v := .ref (ad 114)) hk_10 dX11_length_20 ?_
      refine lv_iload_n hx hb dX11_length_23 rfl (lv_at hl 1 rfl) ?_
      refine lv_iload_n hx hb dX11_length_24 rfl (lv_at hl 2 rfl) ?_
      obtain ⟨fsc_14, hgc_14, hOc_14⟩ := hW.obj (i := 114) (by decide) (sh_114 ad K)
      refine s_calli (q := (RX10, TX10, 4)) (As := [.int ic, .int dy]) (rest := []) X Z (s_X10_fellBy l D cs ad kS K hKO hj g hW 114 ic dy (by omega) (by omega)) (cwV 2 X.2.2.2.2.1 gg_X11_length_X10_fellBy rfl rfl rfl (by decide +kernel) ⟨Nat.le_of_ble_eq_true rfl, Nat.le_of_ble_eq_true rfl⟩) (by decide) hgc_14 rfl hP hA hS.2.1 hS rfl hl.1 rfl (Nat.le_of_ble_eq_true rfl) dX11_length_25 ⟨Nat.le_of_ble_eq_true rfl, Nat.le_of_ble_eq_true rfl⟩ (fun r_13 g_12 H locs hw_11 hP hS => ?_)
      obtain ⟨hw_11g, hw_11⟩ := hw_11
      rw [hw_11g] at hP
      refine lv_if_eq (tgt := 33) hx hb dX11_length_28 (by decide) (fun hc_15 => ?_) (fun hc_15 => ?_)
      · have hhc_15 := n_eq (rfl : r_13.toInt = r_13.toInt) (by decide : (0 : Int32).toInt = 0) hc_15
        refine lv_aload_n hx hb dX11_length_33 rfl (lv_at hl 0 rfl) ?_
        have hk_16 := hOc_4.ref 1 rfl
        refine q_get X iX11_length_11 hP (by decide) hgc_4 rfl 1 (by decide) (List.mem_of_getElem? (i := 13) rfl) (v := .ref (ad 3)) hk_16 dX11_length_34 ?_
        obtain ⟨fsc_17, hgc_17, hOc_17⟩ := hW.obj (i := 3) (by decide) (sh_3 ad K)
        have hk_18 := hOc_17.ref 13 rfl
        refine q_get X iX11_length_6 hP (by decide) hgc_17 rfl 13 (by decide) (List.mem_of_getElem? (i := 14) rfl) (v := .ref (ad 9)) hk_18 dX11_length_37 ?_
        refine lv_iload_n hx hb dX11_length_40 rfl (lv_at hl 1 rfl) ?_
        obtain ⟨fc_19, hgc_19, hFc_19⟩ := hW.arr (i := 9) (by decide) (sh_9 ad K)
        refine q_iald X hP (by decide) hgc_19 (n_in (rfl : ic.toInt = ic.toInt) (by omega) (by omega)) dX11_length_41 ?_
        refine lv_topi (fun z_20 ez_20 => ?_)
        refine lv_aload_n hx hb dX11_length_42 rfl (lv_at hl 0 rfl) ?_
        refine q_get X iX11_length_11 hP (by decide) hgc_4 rfl 6 (by decide) (List.mem_of_getElem? (i := 8) rfl) (v := .ref (ad 114)) hk_10 dX11_length_43 ?_
        refine lv_aload_n hx hb dX11_length_46 rfl (lv_at hl 0 rfl) ?_
        refine q_get X iX11_length_11 hP (by decide) hgc_4 rfl 1 (by decide) (List.mem_of_getElem? (i := 13) rfl) (v := .ref (ad 3)) hk_16 dX11_length_47 ?_
        refine lv_aload_n hx hb dX11_length_50 rfl (lv_at hl 0 rfl) ?_
        refine q_get X iX11_length_11 hP (by decide) hgc_4 rfl 1 (by decide) (List.mem_of_getElem? (i := 13) rfl) (v := .ref (ad 3)) hk_16 dX11_length_51 ?_
        have hk_21 := hOc_17.ref 11 rfl
        refine q_get X iX11_length_6 hP (by decide) hgc_17 rfl 11 (by decide) (List.mem_of_getElem? (i := 15) rfl) (v := .ref (ad 7)) hk_21 dX11_length_54 ?_
        refine lv_iload_n hx hb dX11_length_57 rfl (lv_at hl 1 rfl) ?_
        obtain ⟨fc_22, hgc_22, hFc_22⟩ := hW.arr (i := 7) (by decide) (sh_7 ad K)
        refine q_iald X hP (by decide) hgc_22 (n_in (rfl : ic.toInt = ic.toInt) (by omega) (by omega)) dX11_length_58 ?_
        refine lv_topi (fun z_23 ez_23 => ?_)
        have hz_23 : 0 ≤ z_23.toInt ∧ z_23.toInt ≤ 4 := ez_23 ▸ hFc_22 _
        refine lv_iload_n hx hb dX11_length_59 rfl (lv_at hl 2 rfl) ?_
        refine s_calli (q := (RX10, TX10, 4)) (As := [.ref (ad 3), .int z_23, .int dy]) (rest := [.int z_20]) X Z (s_X10_lossThrough l D cs ad kS K hKO hj g hW 114 z_23 dy (by omega) (by omega) (by omega)) (cwV 3 X.2.2.2.2.1 gg_X11_length_X10_lossThrough rfl rfl rfl (by decide +kernel) ⟨Nat.le_of_ble_eq_true rfl, Nat.le_of_ble_eq_true rfl⟩) (by decide) hgc_14 rfl hP hA hS.2.1 hS rfl hl.1 rfl (Nat.le_of_ble_eq_true rfl) dX11_length_60 ⟨Nat.le_of_ble_eq_true rfl, Nat.le_of_ble_eq_true rfl⟩ (fun r_26 g_25 H locs hw_24 hP hS => ?_)
        rw [hw_24] at hP
        refine lv_isub hx hb dX11_length_63 ?_
        refine lv_topi (fun z_27 ez_27 => ?_)
        exact q_iret X hP hS rfl dX11_length_64
      · have hhc_15 := n_ne (rfl : r_13.toInt = r_13.toInt) (by decide : (0 : Int32).toInt = 0) hc_15
        refine lv_iconst (v := 0) hx hb dX11_length_31 (by decide) ?_
        exact q_iret X hP hS rfl dX11_length_32
    · have hhc_9 := n_eq (rfl : r_8.toInt = r_8.toInt) (by decide : (0 : Int32).toInt = 0) hc_9
      exact HJ16 _ _ ls hP hS (lv_sub hl [] rfl)

theorem dX11_longest_0 : decode cX11_longest 0 = .ok (.aload_n 0, 1) := by decide +kernel
theorem dX11_longest_1 : decode cX11_longest 1 = .ok (.iload_n 1, 1) := by decide +kernel
theorem dX11_longest_2 : decode cX11_longest 2 = .ok (.invokevirtual 136, 3) := by decide +kernel
theorem dX11_longest_5 : decode cX11_longest 5 = .ok (.ifCond .ne 6, 3) := by decide +kernel
theorem dX11_longest_8 : decode cX11_longest 8 = .ok (.bipush (-2), 2) := by decide +kernel
theorem dX11_longest_10 : decode cX11_longest 10 = .ok (.ireturn, 1) := by decide +kernel
theorem dX11_longest_11 : decode cX11_longest 11 = .ok (.aload_n 0, 1) := by decide +kernel
theorem dX11_longest_12 : decode cX11_longest 12 = .ok (.getfield 19, 3) := by decide +kernel
theorem dX11_longest_15 : decode cX11_longest 15 = .ok (.getfield 170, 3) := by decide +kernel
theorem dX11_longest_18 : decode cX11_longest 18 = .ok (.iload_n 1, 1) := by decide +kernel
theorem dX11_longest_19 : decode cX11_longest 19 = .ok (.iaload, 1) := by decide +kernel
theorem dX11_longest_20 : decode cX11_longest 20 = .ok (.istore_n 2, 1) := by decide +kernel
theorem dX11_longest_21 : decode cX11_longest 21 = .ok (.iload_n 2, 1) := by decide +kernel
theorem dX11_longest_22 : decode cX11_longest 22 = .ok (.istore_n 3, 1) := by decide +kernel
theorem dX11_longest_23 : decode cX11_longest 23 = .ok (.iconst 0, 1) := by decide +kernel
theorem dX11_longest_24 : decode cX11_longest 24 = .ok (.istore 4, 2) := by decide +kernel
theorem dX11_longest_26 : decode cX11_longest 26 = .ok (.iload 4, 2) := by decide +kernel
theorem dX11_longest_28 : decode cX11_longest 28 = .ok (.aload_n 0, 1) := by decide +kernel
theorem dX11_longest_29 : decode cX11_longest 29 = .ok (.getfield 19, 3) := by decide +kernel
theorem dX11_longest_32 : decode cX11_longest 32 = .ok (.getfield 177, 3) := by decide +kernel
theorem dX11_longest_35 : decode cX11_longest 35 = .ok (.if_icmp .ge 53, 3) := by decide +kernel
theorem dX11_longest_38 : decode cX11_longest 38 = .ok (.aload_n 0, 1) := by decide +kernel
theorem dX11_longest_39 : decode cX11_longest 39 = .ok (.getfield 44, 3) := by decide +kernel
theorem dX11_longest_42 : decode cX11_longest 42 = .ok (.iload_n 1, 1) := by decide +kernel
theorem dX11_longest_43 : decode cX11_longest 43 = .ok (.iload 4, 2) := by decide +kernel
theorem dX11_longest_45 : decode cX11_longest 45 = .ok (.invokevirtual 166, 3) := by decide +kernel
theorem dX11_longest_48 : decode cX11_longest 48 = .ok (.ifCond .ne 40, 3) := by decide +kernel
theorem dX11_longest_51 : decode cX11_longest 51 = .ok (.iload_n 2, 1) := by decide +kernel
theorem dX11_longest_52 : decode cX11_longest 52 = .ok (.aload_n 0, 1) := by decide +kernel
theorem dX11_longest_53 : decode cX11_longest 53 = .ok (.getfield 44, 3) := by decide +kernel
theorem dX11_longest_56 : decode cX11_longest 56 = .ok (.aload_n 0, 1) := by decide +kernel
theorem dX11_longest_57 : decode cX11_longest 57 = .ok (.getfield 19, 3) := by decide +kernel
theorem dX11_longest_60 : decode cX11_longest 60 = .ok (.aload_n 0, 1) := by decide +kernel
theorem dX11_longest_61 : decode cX11_longest 61 = .ok (.getfield 19, 3) := by decide +kernel
theorem dX11_longest_64 : decode cX11_longest 64 = .ok (.getfield 139, 3) := by decide +kernel
theorem dX11_longest_67 : decode cX11_longest 67 = .ok (.iload_n 1, 1) := by decide +kernel
theorem dX11_longest_68 : decode cX11_longest 68 = .ok (.iaload, 1) := by decide +kernel
theorem dX11_longest_69 : decode cX11_longest 69 = .ok (.iload 4, 2) := by decide +kernel
theorem dX11_longest_71 : decode cX11_longest 71 = .ok (.invokevirtual 180, 3) := by decide +kernel
theorem dX11_longest_74 : decode cX11_longest 74 = .ok (.isub, 1) := by decide +kernel
theorem dX11_longest_75 : decode cX11_longest 75 = .ok (.istore_n 2, 1) := by decide +kernel
theorem dX11_longest_76 : decode cX11_longest 76 = .ok (.iload_n 3, 1) := by decide +kernel
theorem dX11_longest_77 : decode cX11_longest 77 = .ok (.iload_n 2, 1) := by decide +kernel
theorem dX11_longest_78 : decode cX11_longest 78 = .ok (.invokestatic 183, 3) := by decide +kernel
theorem dX11_longest_81 : decode cX11_longest 81 = .ok (.istore_n 3, 1) := by decide +kernel
theorem dX11_longest_82 : decode cX11_longest 82 = .ok (.iinc 4 1, 3) := by decide +kernel
theorem dX11_longest_85 : decode cX11_longest 85 = .ok (.goto (-59), 3) := by decide +kernel
theorem dX11_longest_88 : decode cX11_longest 88 = .ok (.iload_n 3, 1) := by decide +kernel
theorem dX11_longest_89 : decode cX11_longest 89 = .ok (.ireturn, 1) := by decide +kernel
noncomputable def vX11_longest : List Cond := .code yX11_longest cX11_longest 5 (some .int) :: (([.methodLink RX11 136 yX11_isIcicle, .instanceMethod yX11_isIcicle, .selects RX11 yX11_isIcicle yX11_isIcicle, .initialized RX11, .fieldLink RX11 19 "IcicleClock" "now" "LIcicleClock$Street;", .fieldLink RX11 170 "IcicleClock$Street" "lengthHung" "[I", .fieldLink RX11 177 "IcicleClock$Street" "days" "I", .fieldLink RX11 44 "IcicleClock" "winter" "LIcicleClock$Winter;", .methodLink RX11 166 yX10_fellBy, .instanceMethod yX10_fellBy, .selects RX10 yX10_fellBy yX10_fellBy, .initialized RX10, .fieldLink RX11 139 "IcicleClock$Street" "eaveOf" "[I", .methodLink RX11 180 yX10_lossOn, .instanceMethod yX10_lossOn, .selects RX10 yX10_lossOn yX10_lossOn, .methodLink RX11 183 Lib.Math.max.name, .static Lib.Math.max.name, .initialized "java/lang/Math", .code Lib.Math.max.name Lib.Math.max.code 2 (some .int)] : List Cond) ++ (wsX110 ++ (wsX60 ++ (vX11_isIcicle ++ (vX10_fellBy ++ vX10_lossOn)))))
theorem iX11_longest_11 : ∀ w ∈ wsX110, w ∈ vX11_longest := fun _ h => List.mem_cons_of_mem _ (List.mem_append_right _ (List.mem_append_left _ h))
theorem iX11_longest_6 : ∀ w ∈ wsX60, w ∈ vX11_longest := fun _ h => List.mem_cons_of_mem _ (List.mem_append_right _ (List.mem_append_right _ (List.mem_append_left _ h)))
theorem gs_X11_longest : Gd vX11_longest := Gd.cons (by decide +kernel) (Gd.app (Gd.r (by decide +kernel)) (Gd.app gwX_11 (Gd.app gwX_6 (Gd.app gs_X11_isIcicle (Gd.app gs_X10_fellBy gs_X10_lossOn)))))
theorem gg_X11_longest_X11_isIcicle : GoodIn vX11_longest (wsV RX11 136 RX11 yX11_isIcicle vX11_isIcicle) := goodIn_app (goodIn_r _ [1, 2, 3, 4] (by decide +kernel) (by decide +kernel)) (fun w h => ⟨List.mem_cons_of_mem _ (List.mem_append_right _ (List.mem_append_right _ (List.mem_append_right _ (List.mem_append_left _ h)))), gs_X11_isIcicle w h⟩)
theorem gg_X11_longest_X10_fellBy : GoodIn vX11_longest (wsV RX11 166 RX10 yX10_fellBy vX10_fellBy) := goodIn_app (goodIn_r _ [9, 10, 11, 12] (by decide +kernel) (by decide +kernel)) (fun w h => ⟨List.mem_cons_of_mem _ (List.mem_append_right _ (List.mem_append_right _ (List.mem_append_right _ (List.mem_append_right _ (List.mem_append_left _ h))))), gs_X10_fellBy w h⟩)
theorem gg_X11_longest_X10_lossOn : GoodIn vX11_longest (wsV RX11 180 RX10 yX10_lossOn vX10_lossOn) := goodIn_app (goodIn_r _ [14, 15, 16, 12] (by decide +kernel) (by decide +kernel)) (fun w h => ⟨List.mem_cons_of_mem _ (List.mem_append_right _ (List.mem_append_right _ (List.mem_append_right _ (List.mem_append_right _ (List.mem_append_right _ (h)))))), gs_X10_lossOn w h⟩)
set_option maxHeartbeats 4000000 in
set_option maxRecDepth 100000 in
theorem s_X11_longest (l : Launch) (D : va_G) (cs : Nat → ClassId) (ad : Nat → Nat) (kS : kSt) (K : sK) (hKO : KO K) (hj : wJ ad 218) (g : Nat → va_E) (hW : WF (shp ad K) ad cs g) (ic : Int32) : sI l yX11_longest vX11_longest { frames := 2, cells := 0, slots := 0, locals := 46 } D cs ad kS [.ref (ad 0), .int ic] g (fun r g2 => g2 = g) := by
  refine Met.startS (cc := cX11_longest) (maxL := 5) (ret := (some .int)) RX11 rfl (by decide) rfl (Nat.le_of_ble_eq_true rfl) ?_
  intro p e s m below meth c ls X Z hP hl
  have hx := X.1
  have hb := X.2.1
  have hS : va_S (wA ad 218) s.heap s.heap [] := va_S.rf
  have hA : ∀ i, i < 218 → wA ad 218 (ad i) := fun i h => ⟨i, h, rfl⟩
  have hl : lv_has ls 5 [(0, .ref (ad 0)), (1, .int ic)] := hl
  refine lv_aload_n hx hb dX11_longest_0 rfl (lv_at hl 0 rfl) ?_
  refine lv_iload_n hx hb dX11_longest_1 rfl (lv_at hl 1 rfl) ?_
  obtain ⟨fsc_4, hgc_4, hOc_4⟩ := hW.obj (i := 0) (by decide) (sh_0 ad K)
  refine s_calli (q := (RX11, TX11, 14)) (As := [.int ic]) (rest := []) X Z (s_X11_isIcicle l D cs ad kS K hKO hj g hW ic) (cwV 1 X.2.2.2.2.1 gg_X11_longest_X11_isIcicle rfl rfl rfl (by decide +kernel) ⟨Nat.le_of_ble_eq_true rfl, Nat.le_of_ble_eq_true rfl⟩) (by decide) hgc_4 rfl hP hA hS.2.1 hS rfl hl.1 rfl (Nat.le_of_ble_eq_true rfl) dX11_longest_2 ⟨Nat.le_of_ble_eq_true rfl, Nat.le_of_ble_eq_true rfl⟩ (fun r_3 g_2 H locs hw_1 hP hS => ?_)
  obtain ⟨hw_1g, hw_1⟩ := hw_1
  rw [hw_1g] at hP
  refine lv_if_ne (tgt := 11) hx hb dX11_longest_5 (by decide) (fun hc_5 => ?_) (fun hc_5 => ?_)
  · have hhc_5 := n_ne (rfl : r_3.toInt = r_3.toInt) (by decide : (0 : Int32).toInt = 0) hc_5
    refine lv_aload_n hx hb dX11_longest_11 rfl (lv_at hl 0 rfl) ?_
    have hk_6 := hOc_4.ref 1 rfl
    refine q_get X iX11_longest_11 hP (by decide) hgc_4 rfl 1 (by decide) (List.mem_of_getElem? (i := 5) rfl) (v := .ref (ad 3)) hk_6 dX11_longest_12 ?_
    obtain ⟨fsc_7, hgc_7, hOc_7⟩ := hW.obj (i := 3) (by decide) (sh_3 ad K)
    have hk_8 := hOc_7.ref 13 rfl
    refine q_get X iX11_longest_6 hP (by decide) hgc_7 rfl 13 (by decide) (List.mem_of_getElem? (i := 6) rfl) (v := .ref (ad 9)) hk_8 dX11_longest_15 ?_
    refine lv_iload_n hx hb dX11_longest_18 rfl (lv_at hl 1 rfl) ?_
    obtain ⟨fc_9, hgc_9, hFc_9⟩ := hW.arr (i := 9) (by decide) (sh_9 ad K)
    refine q_iald X hP (by decide) hgc_9 (n_in (rfl : ic.toInt = ic.toInt) (by omega) (by omega)) dX11_longest_19 ?_
    refine lv_topi (fun z_10 ez_10 => ?_)
    refine lv_istore_n (lv' := [(2, .int z_10), (0, .ref (ad 0)), (1, .int ic)]) hx hb dX11_longest_20 rfl hl (by decide) rfl (fun ls hl => ?_)
    refine lv_iload_n hx hb dX11_longest_21 rfl (lv_at hl 0 rfl) ?_
    refine lv_istore_n (lv' := [(3, .int z_10), (2, .int z_10), (0, .ref (ad 0)), (1, .int ic)]) hx hb dX11_longest_22 rfl hl (by decide) rfl (fun ls hl => ?_)
    refine lv_iconst (v := 0) hx hb dX11_longest_23 (by decide) ?_
    refine lv_istore (lv' := [(4, .int 0), (3, .int z_10), (2, .int z_10), (0, .ref (ad 0)), (1, .int ic)]) hx hb dX11_longest_24 hl (by decide) rfl (fun ls hl => ?_)
    have HL26 : ∀ (n26 : Nat) (v26_4 : Int32) (v26_3 : Int32) (v26_2 : Int32) (H : Heap) (locs : List Loc) (ls : Array Slot), (14 - v26_4.toInt).toNat < n26 → (0 ≤ v26_4.toInt ∧ v26_4.toInt ≤ 14) → va_P D vwCl (wL ad g 218) H → va_S (wA ad 218) s.heap H locs → lv_has ls 5 [(4, .int v26_4), (3, .int v26_3), (2, .int v26_2), (0, .ref (ad 0)), (1, .int ic)] → W p l e ({ frames := 2, cells := 0, slots := 0, locals := 46 } : Room) s m ([.ref (ad 0), .int ic] : List Value).toArray below meth c H locs 0 0 (MQ below (qI D ad 218 (fun r g2 => g2 = g)) ([.ref (ad 0), .int ic] : List Value).toArray s 0 0 (wA ad 218)) (F0 m 26 ls []) := by
      intro n26
      induction n26 with
      | zero =>
        intro v26_4 v26_3 v26_2 H locs ls hm26 hv26_0 hP hS hl
        exact absurd hm26 (Nat.not_lt_zero _)
      | succ n26 ih26 =>
        intro v26_4 v26_3 v26_2 H locs ls hm26 hv26_0 hP hS hl
        refine lv_iload hx hb dX11_longest_26 (lv_at hl 0 rfl) ?_
        refine lv_aload_n hx hb dX11_longest_28 rfl (lv_at hl 3 rfl) ?_
        refine q_get X iX11_longest_11 hP (by decide) hgc_4 rfl 1 (by decide) (List.mem_of_getElem? (i := 5) rfl) (v := .ref (ad 3)) hk_6 dX11_longest_29 ?_
        obtain ⟨x_12, hk_11, hlx_12, hhx_12⟩ := hOc_7.int 3 rfl
        refine q_get X iX11_longest_6 hP (by decide) hgc_7 rfl 3 (by decide) (List.mem_of_getElem? (i := 7) rfl) (v := .int x_12) hk_11 dX11_longest_32 ?_
        have HJ88 : ∀ (H : Heap) (locs : List Loc) (ls : Array Slot), va_P D vwCl (wL ad g 218) H → va_S (wA ad 218) s.heap H locs → lv_has ls 5 [(3, .int v26_3)] → W p l e ({ frames := 2, cells := 0, slots := 0, locals := 46 } : Room) s m ([.ref (ad 0), .int ic] : List Value).toArray below meth c H locs 0 0 (MQ below (qI D ad 218 (fun r g2 => g2 = g)) ([.ref (ad 0), .int ic] : List Value).toArray s 0 0 (wA ad 218)) (F0 m 88 ls []) := by
          intro H locs ls hP hS hl
          refine lv_iload_n hx hb dX11_longest_88 rfl (lv_at hl 0 rfl) ?_
          exact q_iret X hP hS rfl dX11_longest_89
        refine lv_icmp_ge (tgt := 88) hx hb dX11_longest_35 (by decide) (fun hc_13 => ?_) (fun hc_13 => ?_)
        · have hhc_13 := n_le (rfl : x_12.toInt = x_12.toInt) (rfl : v26_4.toInt = v26_4.toInt) hc_13
          exact HJ88 _ _ ls hP hS (lv_sub hl [1] rfl)
        · have hhc_13 := n_nle (rfl : x_12.toInt = x_12.toInt) (rfl : v26_4.toInt = v26_4.toInt) hc_13
          refine lv_aload_n hx hb dX11_longest_38 rfl (lv_at hl 3 rfl) ?_
          have hk_14 := hOc_4.ref 6 rfl
          refine q_get X iX11_longest_11 hP (by decide) hgc_4 rfl 6 (by decide) (List.mem_of_getElem? (i := 8) rfl) (v := .ref (ad 114)) hk_14 dX11_longest_39 ?_
          refine lv_iload_n hx hb dX11_longest_42 rfl (lv_at hl 4 rfl) ?_
          refine lv_iload hx hb dX11_longest_43 (lv_at hl 0 rfl) ?_
          obtain ⟨fsc_18, hgc_18, hOc_18⟩ := hW.obj (i := 114) (by decide) (sh_114 ad K)
          refine s_calli (q := (RX10, TX10, 4)) (As := [.int ic, .int v26_4]) (rest := []) X Z (s_X10_fellBy l D cs ad kS K hKO hj g hW 114 ic v26_4 (by omega) (by omega)) (cwV 2 X.2.2.2.2.1 gg_X11_longest_X10_fellBy rfl rfl rfl (by decide +kernel) ⟨Nat.le_of_ble_eq_true rfl, Nat.le_of_ble_eq_true rfl⟩) (by decide) hgc_18 rfl hP hA hS.2.1 hS rfl hl.1 rfl (Nat.le_of_ble_eq_true rfl) dX11_longest_45 ⟨Nat.le_of_ble_eq_true rfl, Nat.le_of_ble_eq_true rfl⟩ (fun r_17 g_16 H locs hw_15 hP hS => ?_)
          obtain ⟨hw_15g, hw_15⟩ := hw_15
          rw [hw_15g] at hP
          refine lv_if_ne (tgt := 88) hx hb dX11_longest_48 (by decide) (fun hc_19 => ?_) (fun hc_19 => ?_)
          · have hhc_19 := n_ne (rfl : r_17.toInt = r_17.toInt) (by decide : (0 : Int32).toInt = 0) hc_19
            exact HJ88 _ _ ls hP hS (lv_sub hl [1] rfl)
          · have hhc_19 := n_eq (rfl : r_17.toInt = r_17.toInt) (by decide : (0 : Int32).toInt = 0) hc_19
            refine lv_iload_n hx hb dX11_longest_51 rfl (lv_at hl 2 rfl) ?_
            refine lv_aload_n hx hb dX11_longest_52 rfl (lv_at hl 3 rfl) ?_
            refine q_get X iX11_longest_11 hP (by decide) hgc_4 rfl 6 (by decide) (List.mem_of_getElem? (i := 8) rfl) (v := .ref (ad 114)) hk_14 dX11_longest_53 ?_
            refine lv_aload_n hx hb dX11_longest_56 rfl (lv_at hl 3 rfl) ?_
            refine q_get X iX11_longest_11 hP (by decide) hgc_4 rfl 1 (by decide) (List.mem_of_getElem? (i := 5) rfl) (v := .ref (ad 3)) hk_6 dX11_longest_57 ?_
            refine lv_aload_n hx hb dX11_longest_60 rfl (lv_at hl 3 rfl) ?_
            refine q_get X iX11_longest_11 hP (by decide) hgc_4 rfl 1 (by decide) (List.mem_of_getElem? (i := 5) rfl) (v := .ref (ad 3)) hk_6 dX11_longest_61 ?_
            have hk_20 := hOc_7.ref 11 rfl
            refine q_get X iX11_longest_6 hP (by decide) hgc_7 rfl 11 (by decide) (List.mem_of_getElem? (i := 13) rfl) (v := .ref (ad 7)) hk_20 dX11_longest_64 ?_
            refine lv_iload_n hx hb dX11_longest_67 rfl (lv_at hl 4 rfl) ?_
            obtain ⟨fc_21, hgc_21, hFc_21⟩ := hW.arr (i := 7) (by decide) (sh_7 ad K)
            refine q_iald X hP (by decide) hgc_21 (n_in (rfl : ic.toInt = ic.toInt) (by omega) (by omega)) dX11_longest_68 ?_
            refine lv_topi (fun z_22 ez_22 => ?_)
            have hz_22 : 0 ≤ z_22.toInt ∧ z_22.toInt ≤ 4 := ez_22 ▸ hFc_21 _
            refine lv_iload hx hb dX11_longest_69 (lv_at hl 0 rfl) ?_
            refine s_calli (q := (RX10, TX10, 4)) (As := [.ref (ad 3), .int z_22, .int v26_4]) (rest := [.int v26_2]) X Z (s_X10_lossOn l D cs ad kS K hKO hj g hW 114 z_22 v26_4 (by omega) (by omega) (by omega)) (cwV 3 X.2.2.2.2.1 gg_X11_longest_X10_lossOn rfl rfl rfl (by decide +kernel) ⟨Nat.le_of_ble_eq_true rfl, Nat.le_of_ble_eq_true rfl⟩) (by decide) hgc_18 rfl hP hA hS.2.1 hS rfl hl.1 rfl (Nat.le_of_ble_eq_true rfl) dX11_longest_71 ⟨Nat.le_of_ble_eq_true rfl, Nat.le_of_ble_eq_true rfl⟩ (fun r_25 g_24 H locs hw_23 hP hS => ?_)
            rw [hw_23] at hP
            refine lv_isub hx hb dX11_longest_74 ?_
            refine lv_topi (fun z_26 ez_26 => ?_)
            refine lv_istore_n (lv' := [(2, .int z_26), (4, .int v26_4), (3, .int v26_3), (0, .ref (ad 0)), (1, .int ic)]) hx hb dX11_longest_75 rfl hl (by decide) rfl (fun ls hl => ?_)
            refine lv_iload_n hx hb dX11_longest_76 rfl (lv_at hl 2 rfl) ?_
            refine lv_iload_n hx hb dX11_longest_77 rfl (lv_at hl 0 rfl) ?_
            refine va_mmax hx hb (X.2.2.2.1.trans hl.1.symm) X.2.2.2.2.2.1 (X.2.2.2.2.1 _ (List.mem_of_getElem? (i := 17) rfl)) (X.2.2.2.2.1 _ (List.mem_of_getElem? (i := 18) rfl)) (X.2.2.2.2.1 _ (List.mem_of_getElem? (i := 19) rfl)) (X.2.2.2.2.1 _ (List.mem_of_getElem? (i := 20) rfl)) (Nat.le_of_ble_eq_true rfl) (Nat.le_of_ble_eq_true rfl) (Nat.le_of_ble_eq_true rfl) (Nat.le_of_ble_eq_true rfl) dX11_longest_78 ?_
            refine lv_topi (fun z_27 ez_27 => ?_)
            have hz_27 := n_max (rfl : v26_3.toInt = v26_3.toInt) (rfl : z_26.toInt = z_26.toInt) ez_27
            refine lv_istore_n (lv' := [(3, .int z_27), (2, .int z_26), (4, .int v26_4), (0, .ref (ad 0)), (1, .int ic)]) hx hb dX11_longest_81 rfl hl (by decide) rfl (fun ls hl => ?_)
            obtain ⟨x_28, ex_28⟩ : ∃ y : Int32, y = v26_4 + 1 := ⟨_, rfl⟩
            have hx_28 : x_28.toInt = v26_4.toInt + 1 := n_add rfl (by decide : (1 : Int32).toInt = 1) ex_28 (by omega) (by omega)
            refine lv_iinc (v := x_28) (lv' := [(4, .int x_28), (3, .int z_27), (2, .int z_26), (0, .ref (ad 0)), (1, .int ic)]) hx hb dX11_longest_82 hl (k := 2) rfl (by rw [ex_28]; rfl) (by decide) rfl (fun ls hl => ?_)
            refine lv_goto (tgt := 26) hx hb dX11_longest_85 (by decide) ?_
            exact ih26 x_28 z_27 z_26 _ _ ls (by omega) (by omega) hP hS (lv_sub hl [0, 1, 2, 3, 4] rfl)
    have hiv26_4 : (0 : Int32).toInt = 0 := by decide
    exact HL26 _ 0 z_10 z_10 _ _ ls (Nat.lt_succ_self _) (by omega) hP hS (lv_sub hl [0, 1, 2, 3, 4] rfl)
  · have hhc_5 := n_eq (rfl : r_3.toInt = r_3.toInt) (by decide : (0 : Int32).toInt = 0) hc_5
    refine lv_bipush (v := (-2)) hx hb dX11_longest_8 (by decide) ?_
    exact q_iret X hP hS rfl dX11_longest_10

theorem dX11_drops_0 : decode cX11_drops 0 = .ok (.aload_n 0, 1) := by decide +kernel
theorem dX11_drops_1 : decode cX11_drops 1 = .ok (.iload_n 1, 1) := by decide +kernel
theorem dX11_drops_2 : decode cX11_drops 2 = .ok (.invokevirtual 121, 3) := by decide +kernel
theorem dX11_drops_5 : decode cX11_drops 5 = .ok (.ifCond .eq 18, 3) := by decide +kernel
theorem dX11_drops_8 : decode cX11_drops 8 = .ok (.aload_n 0, 1) := by decide +kernel
theorem dX11_drops_9 : decode cX11_drops 9 = .ok (.getfield 44, 3) := by decide +kernel
theorem dX11_drops_12 : decode cX11_drops 12 = .ok (.aload_n 0, 1) := by decide +kernel
theorem dX11_drops_13 : decode cX11_drops 13 = .ok (.getfield 19, 3) := by decide +kernel
theorem dX11_drops_16 : decode cX11_drops 16 = .ok (.iload_n 1, 1) := by decide +kernel
theorem dX11_drops_17 : decode cX11_drops 17 = .ok (.invokevirtual 188, 3) := by decide +kernel
theorem dX11_drops_20 : decode cX11_drops 20 = .ok (.goto 5, 3) := by decide +kernel
theorem dX11_drops_23 : decode cX11_drops 23 = .ok (.bipush (-2), 2) := by decide +kernel
theorem dX11_drops_25 : decode cX11_drops 25 = .ok (.ireturn, 1) := by decide +kernel
noncomputable def vX11_drops : List Cond := .code yX11_drops cX11_drops 2 (some .int) :: (([.methodLink RX11 121 yX11_isDay, .instanceMethod yX11_isDay, .selects RX11 yX11_isDay yX11_isDay, .initialized RX11, .fieldLink RX11 44 "IcicleClock" "winter" "LIcicleClock$Winter;", .fieldLink RX11 19 "IcicleClock" "now" "LIcicleClock$Street;", .methodLink RX11 188 yX10_fallenOn, .instanceMethod yX10_fallenOn, .selects RX10 yX10_fallenOn yX10_fallenOn, .initialized RX10] : List Cond) ++ (wsX110 ++ (vX11_isDay ++ vX10_fallenOn)))
theorem iX11_drops_11 : ∀ w ∈ wsX110, w ∈ vX11_drops := fun _ h => List.mem_cons_of_mem _ (List.mem_append_right _ (List.mem_append_left _ h))
theorem gs_X11_drops : Gd vX11_drops := Gd.cons (by decide +kernel) (Gd.app (Gd.r (by decide +kernel)) (Gd.app gwX_11 (Gd.app gs_X11_isDay gs_X10_fallenOn)))
theorem gg_X11_drops_X11_isDay : GoodIn vX11_drops (wsV RX11 121 RX11 yX11_isDay vX11_isDay) := goodIn_app (goodIn_r _ [1, 2, 3, 4] (by decide +kernel) (by decide +kernel)) (fun w h => ⟨List.mem_cons_of_mem _ (List.mem_append_right _ (List.mem_append_right _ (List.mem_append_left _ h))), gs_X11_isDay w h⟩)
theorem gg_X11_drops_X10_fallenOn : GoodIn vX11_drops (wsV RX11 188 RX10 yX10_fallenOn vX10_fallenOn) := goodIn_app (goodIn_r _ [7, 8, 9, 10] (by decide +kernel) (by decide +kernel)) (fun w h => ⟨List.mem_cons_of_mem _ (List.mem_append_right _ (List.mem_append_right _ (List.mem_append_right _ (h)))), gs_X10_fallenOn w h⟩)
set_option maxHeartbeats 4000000 in
set_option maxRecDepth 100000 in
theorem s_X11_drops (l : Launch) (D : va_G) (cs : Nat → ClassId) (ad : Nat → Nat) (kS : kSt) (K : sK) (hKO : KO K) (hj : wJ ad 218) (g : Nat → va_E) (hW : WF (shp ad K) ad cs g) (dy : Int32) : sI l yX11_drops vX11_drops { frames := 1, cells := 0, slots := 0, locals := 24 } D cs ad kS [.ref (ad 0), .int dy] g (fun r g2 => g2 = g) := by
  refine Met.startS (cc := cX11_drops) (maxL := 2) (ret := (some .int)) RX11 rfl (by decide) rfl (Nat.le_of_ble_eq_true rfl) ?_
  intro p e s m below meth c ls X Z hP hl
  have hx := X.1
  have hb := X.2.1
  have hS : va_S (wA ad 218) s.heap s.heap [] := va_S.rf
  have hA : ∀ i, i < 218 → wA ad 218 (ad i) := fun i h => ⟨i, h, rfl⟩
  have hl : lv_has ls 2 [(0, .ref (ad 0)), (1, .int dy)] := hl
  refine lv_aload_n hx hb dX11_drops_0 rfl (lv_at hl 0 rfl) ?_
  refine lv_iload_n hx hb dX11_drops_1 rfl (lv_at hl 1 rfl) ?_
  obtain ⟨fsc_4, hgc_4, hOc_4⟩ := hW.obj (i := 0) (by decide) (sh_0 ad K)
  refine s_calli (q := (RX11, TX11, 14)) (As := [.int dy]) (rest := []) X Z (s_X11_isDay l D cs ad kS K hKO hj g hW dy) (cwV 1 X.2.2.2.2.1 gg_X11_drops_X11_isDay rfl rfl rfl (by decide +kernel) ⟨Nat.le_of_ble_eq_true rfl, Nat.le_of_ble_eq_true rfl⟩) (by decide) hgc_4 rfl hP hA hS.2.1 hS rfl hl.1 rfl (Nat.le_of_ble_eq_true rfl) dX11_drops_2 ⟨Nat.le_of_ble_eq_true rfl, Nat.le_of_ble_eq_true rfl⟩ (fun r_3 g_2 H locs hw_1 hP hS => ?_)
  obtain ⟨hw_1g, hw_1⟩ := hw_1
  rw [hw_1g] at hP
  refine lv_if_eq (tgt := 23) hx hb dX11_drops_5 (by decide) (fun hc_5 => ?_) (fun hc_5 => ?_)
  · have hhc_5 := n_eq (rfl : r_3.toInt = r_3.toInt) (by decide : (0 : Int32).toInt = 0) hc_5
    refine lv_bipush (v := (-2)) hx hb dX11_drops_23 (by decide) ?_
    exact q_iret X hP hS rfl dX11_drops_25
  · have hhc_5 := n_ne (rfl : r_3.toInt = r_3.toInt) (by decide : (0 : Int32).toInt = 0) hc_5
    refine lv_aload_n hx hb dX11_drops_8 rfl (lv_at hl 0 rfl) ?_
    have hk_6 := hOc_4.ref 6 rfl
    refine q_get X iX11_drops_11 hP (by decide) hgc_4 rfl 6 (by decide) (List.mem_of_getElem? (i := 5) rfl) (v := .ref (ad 114)) hk_6 dX11_drops_9 ?_
    refine lv_aload_n hx hb dX11_drops_12 rfl (lv_at hl 0 rfl) ?_
    have hk_7 := hOc_4.ref 1 rfl
    refine q_get X iX11_drops_11 hP (by decide) hgc_4 rfl 1 (by decide) (List.mem_of_getElem? (i := 6) rfl) (v := .ref (ad 3)) hk_7 dX11_drops_13 ?_
    refine lv_iload_n hx hb dX11_drops_16 rfl (lv_at hl 1 rfl) ?_
    obtain ⟨fsc_11, hgc_11, hOc_11⟩ := hW.obj (i := 114) (by decide) (sh_114 ad K)
    refine s_calli (q := (RX10, TX10, 4)) (As := [.ref (ad 3), .int dy]) (rest := []) X Z (s_X10_fallenOn l D cs ad kS K hKO hj g hW 114 dy (by omega)) (cwV 2 X.2.2.2.2.1 gg_X11_drops_X10_fallenOn rfl rfl rfl (by decide +kernel) ⟨Nat.le_of_ble_eq_true rfl, Nat.le_of_ble_eq_true rfl⟩) (by decide) hgc_11 rfl hP hA hS.2.1 hS rfl hl.1 rfl (Nat.le_of_ble_eq_true rfl) dX11_drops_17 ⟨Nat.le_of_ble_eq_true rfl, Nat.le_of_ble_eq_true rfl⟩ (fun r_10 g_9 H locs hw_8 hP hS => ?_)
    rw [hw_8] at hP
    refine lv_goto (tgt := 25) hx hb dX11_drops_20 (by decide) ?_
    exact q_iret X hP hS rfl dX11_drops_25

theorem dX11_hang_0 : decode cX11_hang 0 = .ok (.aload_n 0, 1) := by decide +kernel
theorem dX11_hang_1 : decode cX11_hang 1 = .ok (.iload_n 1, 1) := by decide +kernel
theorem dX11_hang_2 : decode cX11_hang 2 = .ok (.invokevirtual 121, 3) := by decide +kernel
theorem dX11_hang_5 : decode cX11_hang 5 = .ok (.ifCond .ne 6, 3) := by decide +kernel
theorem dX11_hang_8 : decode cX11_hang 8 = .ok (.bipush (-2), 2) := by decide +kernel
theorem dX11_hang_10 : decode cX11_hang 10 = .ok (.ireturn, 1) := by decide +kernel
theorem dX11_hang_11 : decode cX11_hang 11 = .ok (.iconst 1, 1) := by decide +kernel
theorem dX11_hang_12 : decode cX11_hang 12 = .ok (.aload_n 0, 1) := by decide +kernel
theorem dX11_hang_13 : decode cX11_hang 13 = .ok (.getfield 19, 3) := by decide +kernel
theorem dX11_hang_16 : decode cX11_hang 16 = .ok (.getfield 160, 3) := by decide +kernel
theorem dX11_hang_19 : decode cX11_hang 19 = .ok (.ishl, 1) := by decide +kernel
theorem dX11_hang_20 : decode cX11_hang 20 = .ok (.iconst 1, 1) := by decide +kernel
theorem dX11_hang_21 : decode cX11_hang 21 = .ok (.isub, 1) := by decide +kernel
theorem dX11_hang_22 : decode cX11_hang 22 = .ok (.istore_n 2, 1) := by decide +kernel
theorem dX11_hang_23 : decode cX11_hang 23 = .ok (.iload_n 2, 1) := by decide +kernel
theorem dX11_hang_24 : decode cX11_hang 24 = .ok (.aload_n 0, 1) := by decide +kernel
theorem dX11_hang_25 : decode cX11_hang 25 = .ok (.getfield 44, 3) := by decide +kernel
theorem dX11_hang_28 : decode cX11_hang 28 = .ok (.aload_n 0, 1) := by decide +kernel
theorem dX11_hang_29 : decode cX11_hang 29 = .ok (.getfield 19, 3) := by decide +kernel
theorem dX11_hang_32 : decode cX11_hang 32 = .ok (.iload_n 1, 1) := by decide +kernel
theorem dX11_hang_33 : decode cX11_hang 33 = .ok (.invokevirtual 192, 3) := by decide +kernel
theorem dX11_hang_36 : decode cX11_hang 36 = .ok (.iconst (-1), 1) := by decide +kernel
theorem dX11_hang_37 : decode cX11_hang 37 = .ok (.ixor, 1) := by decide +kernel
theorem dX11_hang_38 : decode cX11_hang 38 = .ok (.iand, 1) := by decide +kernel
theorem dX11_hang_39 : decode cX11_hang 39 = .ok (.ireturn, 1) := by decide +kernel
noncomputable def vX11_hang : List Cond := .code yX11_hang cX11_hang 3 (some .int) :: (([.methodLink RX11 121 yX11_isDay, .instanceMethod yX11_isDay, .selects RX11 yX11_isDay yX11_isDay, .initialized RX11, .fieldLink RX11 19 "IcicleClock" "now" "LIcicleClock$Street;", .fieldLink RX11 160 "IcicleClock$Street" "icicles" "I", .fieldLink RX11 44 "IcicleClock" "winter" "LIcicleClock$Winter;", .methodLink RX11 192 yX10_fallenBy, .instanceMethod yX10_fallenBy, .selects RX10 yX10_fallenBy yX10_fallenBy, .initialized RX10] : List Cond) ++ (wsX110 ++ (wsX60 ++ (vX11_isDay ++ vX10_fallenBy))))
theorem iX11_hang_11 : ∀ w ∈ wsX110, w ∈ vX11_hang := fun _ h => List.mem_cons_of_mem _ (List.mem_append_right _ (List.mem_append_left _ h))
theorem iX11_hang_6 : ∀ w ∈ wsX60, w ∈ vX11_hang := fun _ h => List.mem_cons_of_mem _ (List.mem_append_right _ (List.mem_append_right _ (List.mem_append_left _ h)))
theorem gs_X11_hang : Gd vX11_hang := Gd.cons (by decide +kernel) (Gd.app (Gd.r (by decide +kernel)) (Gd.app gwX_11 (Gd.app gwX_6 (Gd.app gs_X11_isDay gs_X10_fallenBy))))
theorem gg_X11_hang_X11_isDay : GoodIn vX11_hang (wsV RX11 121 RX11 yX11_isDay vX11_isDay) := goodIn_app (goodIn_r _ [1, 2, 3, 4] (by decide +kernel) (by decide +kernel)) (fun w h => ⟨List.mem_cons_of_mem _ (List.mem_append_right _ (List.mem_append_right _ (List.mem_append_right _ (List.mem_append_left _ h)))), gs_X11_isDay w h⟩)
theorem gg_X11_hang_X10_fallenBy : GoodIn vX11_hang (wsV RX11 192 RX10 yX10_fallenBy vX10_fallenBy) := goodIn_app (goodIn_r _ [8, 9, 10, 11] (by decide +kernel) (by decide +kernel)) (fun w h => ⟨List.mem_cons_of_mem _ (List.mem_append_right _ (List.mem_append_right _ (List.mem_append_right _ (List.mem_append_right _ (h))))), gs_X10_fallenBy w h⟩)
set_option maxHeartbeats 4000000 in
set_option maxRecDepth 100000 in
theorem s_X11_hang (l : Launch) (D : va_G) (cs : Nat → ClassId) (ad : Nat → Nat) (kS : kSt) (K : sK) (hKO : KO K) (hj : wJ ad 218) (g : Nat → va_E) (hW : WF (shp ad K) ad cs g) (dy : Int32) : sI l yX11_hang vX11_hang { frames := 2, cells := 0, slots := 0, locals := 46 } D cs ad kS [.ref (ad 0), .int dy] g (fun r g2 => g2 = g) := by
  refine Met.startS (cc := cX11_hang) (maxL := 3) (ret := (some .int)) RX11 rfl (by decide) rfl (Nat.le_of_ble_eq_true rfl) ?_
  intro p e s m below meth c ls X Z hP hl
  have hx := X.1
  have hb := X.2.1
  have hS : va_S (wA ad 218) s.heap s.heap [] := va_S.rf
  have hA : ∀ i, i < 218 → wA ad 218 (ad i) := fun i h => ⟨i, h, rfl⟩
  have hl : lv_has ls 3 [(0, .ref (ad 0)), (1, .int dy)] := hl
  refine lv_aload_n hx hb dX11_hang_0 rfl (lv_at hl 0 rfl) ?_
  refine lv_iload_n hx hb dX11_hang_1 rfl (lv_at hl 1 rfl) ?_
  obtain ⟨fsc_4, hgc_4, hOc_4⟩ := hW.obj (i := 0) (by decide) (sh_0 ad K)
  refine s_calli (q := (RX11, TX11, 14)) (As := [.int dy]) (rest := []) X Z (s_X11_isDay l D cs ad kS K hKO hj g hW dy) (cwV 1 X.2.2.2.2.1 gg_X11_hang_X11_isDay rfl rfl rfl (by decide +kernel) ⟨Nat.le_of_ble_eq_true rfl, Nat.le_of_ble_eq_true rfl⟩) (by decide) hgc_4 rfl hP hA hS.2.1 hS rfl hl.1 rfl (Nat.le_of_ble_eq_true rfl) dX11_hang_2 ⟨Nat.le_of_ble_eq_true rfl, Nat.le_of_ble_eq_true rfl⟩ (fun r_3 g_2 H locs hw_1 hP hS => ?_)
  obtain ⟨hw_1g, hw_1⟩ := hw_1
  rw [hw_1g] at hP
  refine lv_if_ne (tgt := 11) hx hb dX11_hang_5 (by decide) (fun hc_5 => ?_) (fun hc_5 => ?_)
  · have hhc_5 := n_ne (rfl : r_3.toInt = r_3.toInt) (by decide : (0 : Int32).toInt = 0) hc_5
    refine lv_iconst (v := 1) hx hb dX11_hang_11 (by decide) ?_
    refine lv_aload_n hx hb dX11_hang_12 rfl (lv_at hl 0 rfl) ?_
    have hk_6 := hOc_4.ref 1 rfl
    refine q_get X iX11_hang_11 hP (by decide) hgc_4 rfl 1 (by decide) (List.mem_of_getElem? (i := 5) rfl) (v := .ref (ad 3)) hk_6 dX11_hang_13 ?_
    obtain ⟨fsc_7, hgc_7, hOc_7⟩ := hW.obj (i := 3) (by decide) (sh_3 ad K)
    obtain ⟨x_9, hk_8, hlx_9, hhx_9⟩ := hOc_7.int 5 rfl
    refine q_get X iX11_hang_6 hP (by decide) hgc_7 rfl 5 (by decide) (List.mem_of_getElem? (i := 6) rfl) (v := .int x_9) hk_8 dX11_hang_16 ?_
    refine lv_ishl hx hb dX11_hang_19 ?_
    refine lv_topi (fun z_10 ez_10 => ?_)
    refine lv_iconst (v := 1) hx hb dX11_hang_20 (by decide) ?_
    refine lv_isub hx hb dX11_hang_21 ?_
    refine lv_topi (fun z_11 ez_11 => ?_)
    refine lv_istore_n (lv' := [(2, .int z_11), (0, .ref (ad 0)), (1, .int dy)]) hx hb dX11_hang_22 rfl hl (by decide) rfl (fun ls hl => ?_)
    refine lv_iload_n hx hb dX11_hang_23 rfl (lv_at hl 0 rfl) ?_
    refine lv_aload_n hx hb dX11_hang_24 rfl (lv_at hl 1 rfl) ?_
    have hk_12 := hOc_4.ref 6 rfl
    refine q_get X iX11_hang_11 hP (by decide) hgc_4 rfl 6 (by decide) (List.mem_of_getElem? (i := 7) rfl) (v := .ref (ad 114)) hk_12 dX11_hang_25 ?_
    refine lv_aload_n hx hb dX11_hang_28 rfl (lv_at hl 1 rfl) ?_
    refine q_get X iX11_hang_11 hP (by decide) hgc_4 rfl 1 (by decide) (List.mem_of_getElem? (i := 5) rfl) (v := .ref (ad 3)) hk_6 dX11_hang_29 ?_
    refine lv_iload_n hx hb dX11_hang_32 rfl (lv_at hl 2 rfl) ?_
    obtain ⟨fsc_16, hgc_16, hOc_16⟩ := hW.obj (i := 114) (by decide) (sh_114 ad K)
    refine s_calli (q := (RX10, TX10, 4)) (As := [.ref (ad 3), .int dy]) (rest := [.int z_11]) X Z (s_X10_fallenBy l D cs ad kS K hKO hj g hW 114 dy (by omega)) (cwV 2 X.2.2.2.2.1 gg_X11_hang_X10_fallenBy rfl rfl rfl (by decide +kernel) ⟨Nat.le_of_ble_eq_true rfl, Nat.le_of_ble_eq_true rfl⟩) (by decide) hgc_16 rfl hP hA hS.2.1 hS rfl hl.1 rfl (Nat.le_of_ble_eq_true rfl) dX11_hang_33 ⟨Nat.le_of_ble_eq_true rfl, Nat.le_of_ble_eq_true rfl⟩ (fun r_15 g_14 H locs hw_13 hP hS => ?_)
    rw [hw_13] at hP
    refine lv_iconst (v := (-1)) hx hb dX11_hang_36 (by decide) ?_
    refine lv_ixor hx hb dX11_hang_37 ?_
    refine lv_topi (fun z_17 ez_17 => ?_)
    refine lv_iand hx hb dX11_hang_38 ?_
    refine lv_topi (fun z_18 ez_18 => ?_)
    exact q_iret X hP hS rfl dX11_hang_39
  · have hhc_5 := n_eq (rfl : r_3.toInt = r_3.toInt) (by decide : (0 : Int32).toInt = 0) hc_5
    refine lv_bipush (v := (-2)) hx hb dX11_hang_8 (by decide) ?_
    exact q_iret X hP hS rfl dX11_hang_10

theorem dX11_under_0 : decode cX11_under 0 = .ok (.aload_n 0, 1) := by decide +kernel
theorem dX11_under_1 : decode cX11_under 1 = .ok (.iload_n 1, 1) := by decide +kernel
theorem dX11_under_2 : decode cX11_under 2 = .ok (.invokevirtual 129, 3) := by decide +kernel
theorem dX11_under_5 : decode cX11_under 5 = .ok (.ifCond .ne 6, 3) := by decide +kernel
theorem dX11_under_8 : decode cX11_under 8 = .ok (.bipush (-2), 2) := by decide +kernel
theorem dX11_under_10 : decode cX11_under 10 = .ok (.ireturn, 1) := by decide +kernel
theorem dX11_under_11 : decode cX11_under 11 = .ok (.iconst 0, 1) := by decide +kernel
theorem dX11_under_12 : decode cX11_under 12 = .ok (.istore_n 2, 1) := by decide +kernel
theorem dX11_under_13 : decode cX11_under 13 = .ok (.iconst 0, 1) := by decide +kernel
theorem dX11_under_14 : decode cX11_under 14 = .ok (.istore_n 3, 1) := by decide +kernel
theorem dX11_under_15 : decode cX11_under 15 = .ok (.iload_n 3, 1) := by decide +kernel
theorem dX11_under_16 : decode cX11_under 16 = .ok (.aload_n 0, 1) := by decide +kernel
theorem dX11_under_17 : decode cX11_under 17 = .ok (.getfield 19, 3) := by decide +kernel
theorem dX11_under_20 : decode cX11_under 20 = .ok (.getfield 160, 3) := by decide +kernel
theorem dX11_under_23 : decode cX11_under 23 = .ok (.if_icmp .ge 49, 3) := by decide +kernel
theorem dX11_under_26 : decode cX11_under 26 = .ok (.aload_n 0, 1) := by decide +kernel
theorem dX11_under_27 : decode cX11_under 27 = .ok (.getfield 19, 3) := by decide +kernel
theorem dX11_under_30 : decode cX11_under 30 = .ok (.getfield 139, 3) := by decide +kernel
theorem dX11_under_33 : decode cX11_under 33 = .ok (.iload_n 3, 1) := by decide +kernel
theorem dX11_under_34 : decode cX11_under 34 = .ok (.iaload, 1) := by decide +kernel
theorem dX11_under_35 : decode cX11_under 35 = .ok (.iload_n 1, 1) := by decide +kernel
theorem dX11_under_36 : decode cX11_under 36 = .ok (.if_icmp .ne 30, 3) := by decide +kernel
theorem dX11_under_39 : decode cX11_under 39 = .ok (.aload_n 0, 1) := by decide +kernel
theorem dX11_under_40 : decode cX11_under 40 = .ok (.getfield 44, 3) := by decide +kernel
theorem dX11_under_43 : decode cX11_under 43 = .ok (.getfield 163, 3) := by decide +kernel
theorem dX11_under_46 : decode cX11_under 46 = .ok (.iload_n 3, 1) := by decide +kernel
theorem dX11_under_47 : decode cX11_under 47 = .ok (.iaload, 1) := by decide +kernel
theorem dX11_under_48 : decode cX11_under 48 = .ok (.iconst (-1), 1) := by decide +kernel
theorem dX11_under_49 : decode cX11_under 49 = .ok (.if_icmp .eq 17, 3) := by decide +kernel
theorem dX11_under_52 : decode cX11_under 52 = .ok (.iload_n 2, 1) := by decide +kernel
theorem dX11_under_53 : decode cX11_under 53 = .ok (.iconst 1, 1) := by decide +kernel
theorem dX11_under_54 : decode cX11_under 54 = .ok (.aload_n 0, 1) := by decide +kernel
theorem dX11_under_55 : decode cX11_under 55 = .ok (.getfield 44, 3) := by decide +kernel
theorem dX11_under_58 : decode cX11_under 58 = .ok (.getfield 163, 3) := by decide +kernel
theorem dX11_under_61 : decode cX11_under 61 = .ok (.iload_n 3, 1) := by decide +kernel
theorem dX11_under_62 : decode cX11_under 62 = .ok (.iaload, 1) := by decide +kernel
theorem dX11_under_63 : decode cX11_under 63 = .ok (.ishl, 1) := by decide +kernel
theorem dX11_under_64 : decode cX11_under 64 = .ok (.ior, 1) := by decide +kernel
theorem dX11_under_65 : decode cX11_under 65 = .ok (.istore_n 2, 1) := by decide +kernel
theorem dX11_under_66 : decode cX11_under 66 = .ok (.iinc 3 1, 3) := by decide +kernel
theorem dX11_under_69 : decode cX11_under 69 = .ok (.goto (-54), 3) := by decide +kernel
theorem dX11_under_72 : decode cX11_under 72 = .ok (.iload_n 2, 1) := by decide +kernel
theorem dX11_under_73 : decode cX11_under 73 = .ok (.ireturn, 1) := by decide +kernel
noncomputable def vX11_under : List Cond := .code yX11_under cX11_under 4 (some .int) :: (([.methodLink RX11 129 yX11_isEave, .instanceMethod yX11_isEave, .selects RX11 yX11_isEave yX11_isEave, .initialized RX11, .fieldLink RX11 19 "IcicleClock" "now" "LIcicleClock$Street;", .fieldLink RX11 160 "IcicleClock$Street" "icicles" "I", .fieldLink RX11 139 "IcicleClock$Street" "eaveOf" "[I", .fieldLink RX11 44 "IcicleClock" "winter" "LIcicleClock$Winter;", .fieldLink RX11 163 "IcicleClock$Winter" "fall" "[I"] : List Cond) ++ (wsX110 ++ (wsX60 ++ (wsX100 ++ vX11_isEave))))
theorem iX11_under_11 : ∀ w ∈ wsX110, w ∈ vX11_under := fun _ h => List.mem_cons_of_mem _ (List.mem_append_right _ (List.mem_append_left _ h))
theorem iX11_under_6 : ∀ w ∈ wsX60, w ∈ vX11_under := fun _ h => List.mem_cons_of_mem _ (List.mem_append_right _ (List.mem_append_right _ (List.mem_append_left _ h)))
theorem iX11_under_10 : ∀ w ∈ wsX100, w ∈ vX11_under := fun _ h => List.mem_cons_of_mem _ (List.mem_append_right _ (List.mem_append_right _ (List.mem_append_right _ (List.mem_append_left _ h))))
theorem gs_X11_under : Gd vX11_under := Gd.cons (by decide +kernel) (Gd.app (Gd.r (by decide +kernel)) (Gd.app gwX_11 (Gd.app gwX_6 (Gd.app gwX_10 gs_X11_isEave))))
theorem gg_X11_under_X11_isEave : GoodIn vX11_under (wsV RX11 129 RX11 yX11_isEave vX11_isEave) := goodIn_app (goodIn_r _ [1, 2, 3, 4] (by decide +kernel) (by decide +kernel)) (fun w h => ⟨List.mem_cons_of_mem _ (List.mem_append_right _ (List.mem_append_right _ (List.mem_append_right _ (List.mem_append_right _ (h))))), gs_X11_isEave w h⟩)
set_option maxHeartbeats 4000000 in
set_option maxRecDepth 100000 in
theorem s_X11_under (l : Launch) (D : va_G) (cs : Nat → ClassId) (ad : Nat → Nat) (kS : kSt) (K : sK) (hKO : KO K) (hj : wJ ad 218) (g : Nat → va_E) (hW : WF (shp ad K) ad cs g) (ev : Int32) : sI l yX11_under vX11_under { frames := 1, cells := 0, slots := 0, locals := 21 } D cs ad kS [.ref (ad 0), .int ev] g (fun r g2 => g2 = g) := by
  refine Met.startS (cc := cX11_under) (maxL := 4) (ret := (some .int)) RX11 rfl (by decide) rfl (Nat.le_of_ble_eq_true rfl) ?_
  intro p e s m below meth c ls X Z hP hl
  have hx := X.1
  have hb := X.2.1
  have hS : va_S (wA ad 218) s.heap s.heap [] := va_S.rf
  have hA : ∀ i, i < 218 → wA ad 218 (ad i) := fun i h => ⟨i, h, rfl⟩
  have hl : lv_has ls 4 [(0, .ref (ad 0)), (1, .int ev)] := hl
  refine lv_aload_n hx hb dX11_under_0 rfl (lv_at hl 0 rfl) ?_
  refine lv_iload_n hx hb dX11_under_1 rfl (lv_at hl 1 rfl) ?_
  obtain ⟨fsc_4, hgc_4, hOc_4⟩ := hW.obj (i := 0) (by decide) (sh_0 ad K)
  refine s_calli (q := (RX11, TX11, 14)) (As := [.int ev]) (rest := []) X Z (s_X11_isEave l D cs ad kS K hKO hj g hW ev) (cwV 1 X.2.2.2.2.1 gg_X11_under_X11_isEave rfl rfl rfl (by decide +kernel) ⟨Nat.le_of_ble_eq_true rfl, Nat.le_of_ble_eq_true rfl⟩) (by decide) hgc_4 rfl hP hA hS.2.1 hS rfl hl.1 rfl (Nat.le_of_ble_eq_true rfl) dX11_under_2 ⟨Nat.le_of_ble_eq_true rfl, Nat.le_of_ble_eq_true rfl⟩ (fun r_3 g_2 H locs hw_1 hP hS => ?_)
  obtain ⟨hw_1g, hw_1⟩ := hw_1
  rw [hw_1g] at hP
  refine lv_if_ne (tgt := 11) hx hb dX11_under_5 (by decide) (fun hc_5 => ?_) (fun hc_5 => ?_)
  · have hhc_5 := n_ne (rfl : r_3.toInt = r_3.toInt) (by decide : (0 : Int32).toInt = 0) hc_5
    refine lv_iconst (v := 0) hx hb dX11_under_11 (by decide) ?_
    refine lv_istore_n (lv' := [(2, .int 0), (0, .ref (ad 0)), (1, .int ev)]) hx hb dX11_under_12 rfl hl (by decide) rfl (fun ls hl => ?_)
    refine lv_iconst (v := 0) hx hb dX11_under_13 (by decide) ?_
    refine lv_istore_n (lv' := [(3, .int 0), (2, .int 0), (0, .ref (ad 0)), (1, .int ev)]) hx hb dX11_under_14 rfl hl (by decide) rfl (fun ls hl => ?_)
    have HL15 : ∀ (n15 : Nat) (v15_3 : Int32) (v15_2 : Int32) (H : Heap) (locs : List Loc) (ls : Array Slot), (8 - v15_3.toInt).toNat < n15 → (0 ≤ v15_3.toInt ∧ v15_3.toInt ≤ 8) → va_P D vwCl (wL ad g 218) H → va_S (wA ad 218) s.heap H locs → lv_has ls 4 [(3, .int v15_3), (2, .int v15_2), (0, .ref (ad 0)), (1, .int ev)] → W p l e ({ frames := 1, cells := 0, slots := 0, locals := 21 } : Room) s m ([.ref (ad 0), .int ev] : List Value).toArray below meth c H locs 0 0 (MQ below (qI D ad 218 (fun r g2 => g2 = g)) ([.ref (ad 0), .int ev] : List Value).toArray s 0 0 (wA ad 218)) (F0 m 15 ls []) := by
      intro n15
      induction n15 with
      | zero =>
        intro v15_3 v15_2 H locs ls hm15 hv15_0 hP hS hl
        exact absurd hm15 (Nat.not_lt_zero _)
      | succ n15 ih15 =>
        intro v15_3 v15_2 H locs ls hm15 hv15_0 hP hS hl
        refine lv_iload_n hx hb dX11_under_15 rfl (lv_at hl 0 rfl) ?_
        refine lv_aload_n hx hb dX11_under_16 rfl (lv_at hl 2 rfl) ?_
        have hk_6 := hOc_4.ref 1 rfl
        refine q_get X iX11_under_11 hP (by decide) hgc_4 rfl 1 (by decide) (List.mem_of_getElem? (i := 5) rfl) (v := .ref (ad 3)) hk_6 dX11_under_17 ?_
        obtain ⟨fsc_7, hgc_7, hOc_7⟩ := hW.obj (i := 3) (by decide) (sh_3 ad K)
        obtain ⟨x_9, hk_8, hlx_9, hhx_9⟩ := hOc_7.int 5 rfl
        refine q_get X iX11_under_6 hP (by decide) hgc_7 rfl 5 (by decide) (List.mem_of_getElem? (i := 6) rfl) (v := .int x_9) hk_8 dX11_under_20 ?_
        refine lv_icmp_ge (tgt := 72) hx hb dX11_under_23 (by decide) (fun hc_10 => ?_) (fun hc_10 => ?_)
        · have hhc_10 := n_le (rfl : x_9.toInt = x_9.toInt) (rfl : v15_3.toInt = v15_3.toInt) hc_10
          refine lv_iload_n hx hb dX11_under_72 rfl (lv_at hl 1 rfl) ?_
          exact q_iret X hP hS rfl dX11_under_73
        · have hhc_10 := n_nle (rfl : x_9.toInt = x_9.toInt) (rfl : v15_3.toInt = v15_3.toInt) hc_10
          refine lv_aload_n hx hb dX11_under_26 rfl (lv_at hl 2 rfl) ?_
          refine q_get X iX11_under_11 hP (by decide) hgc_4 rfl 1 (by decide) (List.mem_of_getElem? (i := 5) rfl) (v := .ref (ad 3)) hk_6 dX11_under_27 ?_
          have hk_11 := hOc_7.ref 11 rfl
          refine q_get X iX11_under_6 hP (by decide) hgc_7 rfl 11 (by decide) (List.mem_of_getElem? (i := 7) rfl) (v := .ref (ad 7)) hk_11 dX11_under_30 ?_
          refine lv_iload_n hx hb dX11_under_33 rfl (lv_at hl 0 rfl) ?_
          obtain ⟨fc_12, hgc_12, hFc_12⟩ := hW.arr (i := 7) (by decide) (sh_7 ad K)
          refine q_iald X hP (by decide) hgc_12 (n_in (rfl : v15_3.toInt = v15_3.toInt) (by omega) (by omega)) dX11_under_34 ?_
          refine lv_topi (fun z_13 ez_13 => ?_)
          have hz_13 : 0 ≤ z_13.toInt ∧ z_13.toInt ≤ 4 := ez_13 ▸ hFc_12 _
          refine lv_iload_n hx hb dX11_under_35 rfl (lv_at hl 3 rfl) ?_
          have HJ66 : ∀ (v66_2 : Int32) (H : Heap) (locs : List Loc) (ls : Array Slot), va_P D vwCl (wL ad g 218) H → va_S (wA ad 218) s.heap H locs → lv_has ls 4 [(3, .int v15_3), (2, .int v66_2), (0, .ref (ad 0)), (1, .int ev)] → W p l e ({ frames := 1, cells := 0, slots := 0, locals := 21 } : Room) s m ([.ref (ad 0), .int ev] : List Value).toArray below meth c H locs 0 0 (MQ below (qI D ad 218 (fun r g2 => g2 = g)) ([.ref (ad 0), .int ev] : List Value).toArray s 0 0 (wA ad 218)) (F0 m 66 ls []) := by
            intro v66_2 H locs ls hP hS hl
            obtain ⟨x_14, ex_14⟩ : ∃ y : Int32, y = v15_3 + 1 := ⟨_, rfl⟩
            have hx_14 : x_14.toInt = v15_3.toInt + 1 := n_add rfl (by decide : (1 : Int32).toInt = 1) ex_14 (by omega) (by omega)
            refine lv_iinc (v := x_14) (lv' := [(3, .int x_14), (2, .int v66_2), (0, .ref (ad 0)), (1, .int ev)]) hx hb dX11_under_66 hl (k := 0) rfl (by rw [ex_14]; rfl) (by decide) rfl (fun ls hl => ?_)
            refine lv_goto (tgt := 15) hx hb dX11_under_69 (by decide) ?_
            exact ih15 x_14 v66_2 _ _ ls (by omega) (by omega) hP hS (lv_sub hl [0, 1, 2, 3] rfl)
          refine lv_icmp_ne (tgt := 66) hx hb dX11_under_36 (by decide) (fun hc_15 => ?_) (fun hc_15 => ?_)
          · have hhc_15 := n_ne (rfl : z_13.toInt = z_13.toInt) (rfl : ev.toInt = ev.toInt) hc_15
            exact HJ66 v15_2 _ _ ls hP hS (lv_sub hl [0, 1, 2, 3] rfl)
          · have hhc_15 := n_eq (rfl : z_13.toInt = z_13.toInt) (rfl : ev.toInt = ev.toInt) hc_15
            refine lv_aload_n hx hb dX11_under_39 rfl (lv_at hl 2 rfl) ?_
            have hk_16 := hOc_4.ref 6 rfl
            refine q_get X iX11_under_11 hP (by decide) hgc_4 rfl 6 (by decide) (List.mem_of_getElem? (i := 8) rfl) (v := .ref (ad 114)) hk_16 dX11_under_40 ?_
            obtain ⟨fsc_17, hgc_17, hOc_17⟩ := hW.obj (i := 114) (by decide) (sh_114 ad K)
            have hk_18 := hOc_17.ref 3 rfl
            refine q_get X iX11_under_10 hP (by decide) hgc_17 rfl 3 (by decide) (List.mem_of_getElem? (i := 9) rfl) (v := .ref (ad 115)) hk_18 dX11_under_43 ?_
            refine lv_iload_n hx hb dX11_under_46 rfl (lv_at hl 0 rfl) ?_
            obtain ⟨fc_19, hgc_19, hFc_19⟩ := hW.arr (i := 115) (by decide) (sh_115 ad K)
            refine q_iald X hP (by decide) hgc_19 (n_in (rfl : v15_3.toInt = v15_3.toInt) (by omega) (by omega)) dX11_under_47 ?_
            refine lv_topi (fun z_20 ez_20 => ?_)
            have hz_20 : (-1) ≤ z_20.toInt ∧ z_20.toInt ≤ 13 := ez_20 ▸ hFc_19 _
            refine lv_iconst (v := (-1)) hx hb dX11_under_48 (by decide) ?_
            refine lv_icmp_eq (tgt := 66) hx hb dX11_under_49 (by decide) (fun hc_21 => ?_) (fun hc_21 => ?_)
            · have hhc_21 := n_eq (rfl : z_20.toInt = z_20.toInt) (by decide : (-1 : Int32).toInt = -1) hc_21
              exact HJ66 v15_2 _ _ ls hP hS (lv_sub hl [0, 1, 2, 3] rfl)
            · have hhc_21 := n_ne (rfl : z_20.toInt = z_20.toInt) (by decide : (-1 : Int32).toInt = -1) hc_21
              refine lv_iload_n hx hb dX11_under_52 rfl (lv_at hl 1 rfl) ?_
              refine lv_iconst (v := 1) hx hb dX11_under_53 (by decide) ?_
              refine lv_aload_n hx hb dX11_under_54 rfl (lv_at hl 2 rfl) ?_
              refine q_get X iX11_under_11 hP (by decide) hgc_4 rfl 6 (by decide) (List.mem_of_getElem? (i := 8) rfl) (v := .ref (ad 114)) hk_16 dX11_under_55 ?_
              refine q_get X iX11_under_10 hP (by decide) hgc_17 rfl 3 (by decide) (List.mem_of_getElem? (i := 9) rfl) (v := .ref (ad 115)) hk_18 dX11_under_58 ?_
              refine lv_iload_n hx hb dX11_under_61 rfl (lv_at hl 0 rfl) ?_
              refine q_iald X hP (by decide) hgc_19 (n_in (rfl : v15_3.toInt = v15_3.toInt) (by omega) (by omega)) dX11_under_62 ?_
              refine lv_topi (fun z_22 ez_22 => ?_)
              have hz_22 : (-1) ≤ z_22.toInt ∧ z_22.toInt ≤ 13 := ez_22 ▸ hFc_19 _
              have hsz_22 : z_22.toInt = z_20.toInt := by rw [ez_22, ez_20]
              refine lv_ishl hx hb dX11_under_63 ?_
              refine lv_topi (fun z_23 ez_23 => ?_)
              refine lv_ior hx hb dX11_under_64 ?_
              refine lv_topi (fun z_24 ez_24 => ?_)
              refine lv_istore_n (lv' := [(2, .int z_24), (3, .int v15_3), (0, .ref (ad 0)), (1, .int ev)]) hx hb dX11_under_65 rfl hl (by decide) rfl (fun ls hl => ?_)
              exact HJ66 z_24 _ _ ls hP hS (lv_sub hl [1, 0, 2, 3] rfl)
    have hiv15_3 : (0 : Int32).toInt = 0 := by decide
    have hiv15_2 : (0 : Int32).toInt = 0 := by decide
    exact HL15 _ 0 0 _ _ ls (Nat.lt_succ_self _) (by omega) hP hS (lv_sub hl [0, 1, 2, 3] rfl)
  · have hhc_5 := n_eq (rfl : r_3.toInt = r_3.toInt) (by decide : (0 : Int32).toInt = 0) hc_5
    refine lv_bipush (v := (-2)) hx hb dX11_under_8 (by decide) ?_
    exact q_iret X hP hS rfl dX11_under_10

theorem dX11_rush_0 : decode cX11_rush 0 = .ok (.aload_n 0, 1) := by decide +kernel
theorem dX11_rush_1 : decode cX11_rush 1 = .ok (.invokevirtual 195, 3) := by decide +kernel
theorem dX11_rush_4 : decode cX11_rush 4 = .ok (.ifCond .ne 6, 3) := by decide +kernel
theorem dX11_rush_7 : decode cX11_rush 7 = .ok (.bipush (-2), 2) := by decide +kernel
theorem dX11_rush_9 : decode cX11_rush 9 = .ok (.ireturn, 1) := by decide +kernel
theorem dX11_rush_10 : decode cX11_rush 10 = .ok (.iconst (-1), 1) := by decide +kernel
theorem dX11_rush_11 : decode cX11_rush 11 = .ok (.istore_n 1, 1) := by decide +kernel
theorem dX11_rush_12 : decode cX11_rush 12 = .ok (.iconst 0, 1) := by decide +kernel
theorem dX11_rush_13 : decode cX11_rush 13 = .ok (.istore_n 2, 1) := by decide +kernel
theorem dX11_rush_14 : decode cX11_rush 14 = .ok (.iconst 0, 1) := by decide +kernel
theorem dX11_rush_15 : decode cX11_rush 15 = .ok (.istore_n 3, 1) := by decide +kernel
theorem dX11_rush_16 : decode cX11_rush 16 = .ok (.iload_n 3, 1) := by decide +kernel
theorem dX11_rush_17 : decode cX11_rush 17 = .ok (.aload_n 0, 1) := by decide +kernel
theorem dX11_rush_18 : decode cX11_rush 18 = .ok (.getfield 19, 3) := by decide +kernel
theorem dX11_rush_21 : decode cX11_rush 21 = .ok (.getfield 177, 3) := by decide +kernel
theorem dX11_rush_24 : decode cX11_rush 24 = .ok (.if_icmp .ge 37, 3) := by decide +kernel
theorem dX11_rush_27 : decode cX11_rush 27 = .ok (.aload_n 0, 1) := by decide +kernel
theorem dX11_rush_28 : decode cX11_rush 28 = .ok (.getfield 44, 3) := by decide +kernel
theorem dX11_rush_31 : decode cX11_rush 31 = .ok (.aload_n 0, 1) := by decide +kernel
theorem dX11_rush_32 : decode cX11_rush 32 = .ok (.getfield 19, 3) := by decide +kernel
theorem dX11_rush_35 : decode cX11_rush 35 = .ok (.iload_n 3, 1) := by decide +kernel
theorem dX11_rush_36 : decode cX11_rush 36 = .ok (.invokevirtual 188, 3) := by decide +kernel
theorem dX11_rush_39 : decode cX11_rush 39 = .ok (.invokestatic 199, 3) := by decide +kernel
theorem dX11_rush_42 : decode cX11_rush 42 = .ok (.istore 4, 2) := by decide +kernel
theorem dX11_rush_44 : decode cX11_rush 44 = .ok (.iload 4, 2) := by decide +kernel
theorem dX11_rush_46 : decode cX11_rush 46 = .ok (.iload_n 2, 1) := by decide +kernel
theorem dX11_rush_47 : decode cX11_rush 47 = .ok (.if_icmp .le 8, 3) := by decide +kernel
theorem dX11_rush_50 : decode cX11_rush 50 = .ok (.iload 4, 2) := by decide +kernel
theorem dX11_rush_52 : decode cX11_rush 52 = .ok (.istore_n 2, 1) := by decide +kernel
theorem dX11_rush_53 : decode cX11_rush 53 = .ok (.iload_n 3, 1) := by decide +kernel
theorem dX11_rush_54 : decode cX11_rush 54 = .ok (.istore_n 1, 1) := by decide +kernel
theorem dX11_rush_55 : decode cX11_rush 55 = .ok (.iinc 3 1, 3) := by decide +kernel
theorem dX11_rush_58 : decode cX11_rush 58 = .ok (.goto (-42), 3) := by decide +kernel
theorem dX11_rush_61 : decode cX11_rush 61 = .ok (.iload_n 1, 1) := by decide +kernel
theorem dX11_rush_62 : decode cX11_rush 62 = .ok (.ireturn, 1) := by decide +kernel
noncomputable def vX11_rush : List Cond := .code yX11_rush cX11_rush 5 (some .int) :: (([.methodLink RX11 195 yX11_isTold, .instanceMethod yX11_isTold, .selects RX11 yX11_isTold yX11_isTold, .initialized RX11, .fieldLink RX11 19 "IcicleClock" "now" "LIcicleClock$Street;", .fieldLink RX11 177 "IcicleClock$Street" "days" "I", .fieldLink RX11 44 "IcicleClock" "winter" "LIcicleClock$Winter;", .methodLink RX11 188 yX10_fallenOn, .instanceMethod yX10_fallenOn, .selects RX10 yX10_fallenOn yX10_fallenOn, .initialized RX10, .methodLink RX11 199 yJ6_bitCount_0f7a4, .static yJ6_bitCount_0f7a4, .initialized RJ6] : List Cond) ++ (wsX110 ++ (wsX60 ++ (vX11_isTold ++ (vX10_fallenOn ++ vJ6_bitCount_0f7a4)))))
theorem iX11_rush_11 : ∀ w ∈ wsX110, w ∈ vX11_rush := fun _ h => List.mem_cons_of_mem _ (List.mem_append_right _ (List.mem_append_left _ h))
theorem iX11_rush_6 : ∀ w ∈ wsX60, w ∈ vX11_rush := fun _ h => List.mem_cons_of_mem _ (List.mem_append_right _ (List.mem_append_right _ (List.mem_append_left _ h)))
theorem gs_X11_rush : Gd vX11_rush := Gd.cons (by decide +kernel) (Gd.app (Gd.r (by decide +kernel)) (Gd.app gwX_11 (Gd.app gwX_6 (Gd.app gs_X11_isTold (Gd.app gs_X10_fallenOn gs_J6_bitCount_0f7a4)))))
theorem gg_X11_rush_X11_isTold : GoodIn vX11_rush (wsV RX11 195 RX11 yX11_isTold vX11_isTold) := goodIn_app (goodIn_r _ [1, 2, 3, 4] (by decide +kernel) (by decide +kernel)) (fun w h => ⟨List.mem_cons_of_mem _ (List.mem_append_right _ (List.mem_append_right _ (List.mem_append_right _ (List.mem_append_left _ h)))), gs_X11_isTold w h⟩)
theorem gg_X11_rush_X10_fallenOn : GoodIn vX11_rush (wsV RX11 188 RX10 yX10_fallenOn vX10_fallenOn) := goodIn_app (goodIn_r _ [8, 9, 10, 11] (by decide +kernel) (by decide +kernel)) (fun w h => ⟨List.mem_cons_of_mem _ (List.mem_append_right _ (List.mem_append_right _ (List.mem_append_right _ (List.mem_append_right _ (List.mem_append_left _ h))))), gs_X10_fallenOn w h⟩)
theorem gg_X11_rush_J6_bitCount_0f7a4 : GoodIn vX11_rush (va_wsS RX11 199 yJ6_bitCount_0f7a4 vJ6_bitCount_0f7a4) := goodIn_app (goodIn_r _ [12, 13, 14] (by decide +kernel) (by decide +kernel)) (fun w h => ⟨List.mem_cons_of_mem _ (List.mem_append_right _ (List.mem_append_right _ (List.mem_append_right _ (List.mem_append_right _ (List.mem_append_right _ (h)))))), gs_J6_bitCount_0f7a4 w h⟩)
set_option maxHeartbeats 4000000 in
set_option maxRecDepth 100000 in
theorem s_X11_rush (l : Launch) (D : va_G) (cs : Nat → ClassId) (ad : Nat → Nat) (kS : kSt) (K : sK) (hKO : KO K) (hj : wJ ad 218) (g : Nat → va_E) (hW : WF (shp ad K) ad cs g) : sI l yX11_rush vX11_rush { frames := 1, cells := 0, slots := 0, locals := 24 } D cs ad kS [.ref (ad 0)] g (fun r g2 => g2 = g) := by
  refine Met.startS (cc := cX11_rush) (maxL := 5) (ret := (some .int)) RX11 rfl (by decide) rfl (Nat.le_of_ble_eq_true rfl) ?_
  intro p e s m below meth c ls X Z hP hl
  have hx := X.1
  have hb := X.2.1
  have hS : va_S (wA ad 218) s.heap s.heap [] := va_S.rf
  have hA : ∀ i, i < 218 → wA ad 218 (ad i) := fun i h => ⟨i, h, rfl⟩
  have hl : lv_has ls 5 [(0, .ref (ad 0))] := hl
  refine lv_aload_n hx hb dX11_rush_0 rfl (lv_at hl 0 rfl) ?_
  obtain ⟨fsc_4, hgc_4, hOc_4⟩ := hW.obj (i := 0) (by decide) (sh_0 ad K)
  refine s_calli (q := (RX11, TX11, 14)) (As := []) (rest := []) X Z (s_X11_isTold l D cs ad kS K hKO hj g hW) (cwV 0 X.2.2.2.2.1 gg_X11_rush_X11_isTold rfl rfl rfl (by decide +kernel) ⟨Nat.le_of_ble_eq_true rfl, Nat.le_of_ble_eq_true rfl⟩) (by decide) hgc_4 rfl hP hA hS.2.1 hS rfl hl.1 rfl (Nat.le_of_ble_eq_true rfl) dX11_rush_1 ⟨Nat.le_of_ble_eq_true rfl, Nat.le_of_ble_eq_true rfl⟩ (fun r_3 g_2 H locs hw_1 hP hS => ?_)
  obtain ⟨hw_1g, hw_1⟩ := hw_1
  rw [hw_1g] at hP
  refine lv_if_ne (tgt := 10) hx hb dX11_rush_4 (by decide) (fun hc_5 => ?_) (fun hc_5 => ?_)
  · have hhc_5 := n_ne (rfl : r_3.toInt = r_3.toInt) (by decide : (0 : Int32).toInt = 0) hc_5
    refine lv_iconst (v := (-1)) hx hb dX11_rush_10 (by decide) ?_
    refine lv_istore_n (lv' := [(1, .int (-1)), (0, .ref (ad 0))]) hx hb dX11_rush_11 rfl hl (by decide) rfl (fun ls hl => ?_)
    refine lv_iconst (v := 0) hx hb dX11_rush_12 (by decide) ?_
    refine lv_istore_n (lv' := [(2, .int 0), (1, .int (-1)), (0, .ref (ad 0))]) hx hb dX11_rush_13 rfl hl (by decide) rfl (fun ls hl => ?_)
    refine lv_iconst (v := 0) hx hb dX11_rush_14 (by decide) ?_
    refine lv_istore_n (lv' := [(3, .int 0), (2, .int 0), (1, .int (-1)), (0, .ref (ad 0))]) hx hb dX11_rush_15 rfl hl (by decide) rfl (fun ls hl => ?_)
    have HL16 : ∀ (n16 : Nat) (v16_3 : Int32) (v16_2 : Int32) (v16_1 : Int32) (H : Heap) (locs : List Loc) (ls : Array Slot), (14 - v16_3.toInt).toNat < n16 → (0 ≤ v16_3.toInt ∧ v16_3.toInt ≤ 14) → (0 ≤ v16_2.toInt ∧ v16_2.toInt ≤ 63) → ((-1) ≤ v16_1.toInt ∧ v16_1.toInt ≤ 13) → va_P D vwCl (wL ad g 218) H → va_S (wA ad 218) s.heap H locs → lv_has ls 5 [(3, .int v16_3), (2, .int v16_2), (1, .int v16_1), (0, .ref (ad 0))] → W p l e ({ frames := 1, cells := 0, slots := 0, locals := 24 } : Room) s m ([.ref (ad 0)] : List Value).toArray below meth c H locs 0 0 (MQ below (qI D ad 218 (fun r g2 => g2 = g)) ([.ref (ad 0)] : List Value).toArray s 0 0 (wA ad 218)) (F0 m 16 ls []) := by
      intro n16
      induction n16 with
      | zero =>
        intro v16_3 v16_2 v16_1 H locs ls hm16 hv16_0 hv16_1 hv16_2 hP hS hl
        exact absurd hm16 (Nat.not_lt_zero _)
      | succ n16 ih16 =>
        intro v16_3 v16_2 v16_1 H locs ls hm16 hv16_0 hv16_1 hv16_2 hP hS hl
        refine lv_iload_n hx hb dX11_rush_16 rfl (lv_at hl 0 rfl) ?_
        refine lv_aload_n hx hb dX11_rush_17 rfl (lv_at hl 3 rfl) ?_
        have hk_6 := hOc_4.ref 1 rfl
        refine q_get X iX11_rush_11 hP (by decide) hgc_4 rfl 1 (by decide) (List.mem_of_getElem? (i := 5) rfl) (v := .ref (ad 3)) hk_6 dX11_rush_18 ?_
        obtain ⟨fsc_7, hgc_7, hOc_7⟩ := hW.obj (i := 3) (by decide) (sh_3 ad K)
        obtain ⟨x_9, hk_8, hlx_9, hhx_9⟩ := hOc_7.int 3 rfl
        refine q_get X iX11_rush_6 hP (by decide) hgc_7 rfl 3 (by decide) (List.mem_of_getElem? (i := 6) rfl) (v := .int x_9) hk_8 dX11_rush_21 ?_
        refine lv_icmp_ge (tgt := 61) hx hb dX11_rush_24 (by decide) (fun hc_10 => ?_) (fun hc_10 => ?_)
        · have hhc_10 := n_le (rfl : x_9.toInt = x_9.toInt) (rfl : v16_3.toInt = v16_3.toInt) hc_10
          refine lv_iload_n hx hb dX11_rush_61 rfl (lv_at hl 2 rfl) ?_
          exact q_iret X hP hS rfl dX11_rush_62
        · have hhc_10 := n_nle (rfl : x_9.toInt = x_9.toInt) (rfl : v16_3.toInt = v16_3.toInt) hc_10
          refine lv_aload_n hx hb dX11_rush_27 rfl (lv_at hl 3 rfl) ?_
          have hk_11 := hOc_4.ref 6 rfl
          refine q_get X iX11_rush_11 hP (by decide) hgc_4 rfl 6 (by decide) (List.mem_of_getElem? (i := 7) rfl) (v := .ref (ad 114)) hk_11 dX11_rush_28 ?_
          refine lv_aload_n hx hb dX11_rush_31 rfl (lv_at hl 3 rfl) ?_
          refine q_get X iX11_rush_11 hP (by decide) hgc_4 rfl 1 (by decide) (List.mem_of_getElem? (i := 5) rfl) (v := .ref (ad 3)) hk_6 dX11_rush_32 ?_
          refine lv_iload_n hx hb dX11_rush_35 rfl (lv_at hl 0 rfl) ?_
          obtain ⟨fsc_15, hgc_15, hOc_15⟩ := hW.obj (i := 114) (by decide) (sh_114 ad K)
          refine s_calli (q := (RX10, TX10, 4)) (As := [.ref (ad 3), .int v16_3]) (rest := []) X Z (s_X10_fallenOn l D cs ad kS K hKO hj g hW 114 v16_3 (by omega)) (cwV 2 X.2.2.2.2.1 gg_X11_rush_X10_fallenOn rfl rfl rfl (by decide +kernel) ⟨Nat.le_of_ble_eq_true rfl, Nat.le_of_ble_eq_true rfl⟩) (by decide) hgc_15 rfl hP hA hS.2.1 hS rfl hl.1 rfl (Nat.le_of_ble_eq_true rfl) dX11_rush_36 ⟨Nat.le_of_ble_eq_true rfl, Nat.le_of_ble_eq_true rfl⟩ (fun r_14 g_13 H locs hw_12 hP hS => ?_)
          rw [hw_12] at hP
          refine s_callSi (As := [.int r_14]) (rest := []) X Z (s_J6_bitCount_0f7a4 l D cs ad kS K hKO hj g hW r_14) (va_cwS 1 X.2.2.2.2.1 gg_X11_rush_J6_bitCount_0f7a4 rfl rfl rfl (by decide +kernel) ⟨Nat.le_of_ble_eq_true rfl, Nat.le_of_ble_eq_true rfl⟩) hP hA hS.2.1 hS rfl hl.1 rfl (Nat.le_of_ble_eq_true rfl) dX11_rush_39 ⟨Nat.le_of_ble_eq_true rfl, Nat.le_of_ble_eq_true rfl⟩ (fun r_18 g_17 H locs hw_16 hP hS => ?_)
          obtain ⟨hw_16g, hw_16⟩ := hw_16
          rw [hw_16g] at hP
          refine lv_istore (lv' := [(4, .int r_18), (3, .int v16_3), (2, .int v16_2), (1, .int v16_1), (0, .ref (ad 0))]) hx hb dX11_rush_42 hl (by decide) rfl (fun ls hl => ?_)
          refine lv_iload hx hb dX11_rush_44 (lv_at hl 0 rfl) ?_
          refine lv_iload_n hx hb dX11_rush_46 rfl (lv_at hl 2 rfl) ?_
          have HJ55 : ∀ (v55_2 : Int32) (v55_1 : Int32) (H : Heap) (locs : List Loc) (ls : Array Slot), (0 ≤ v55_2.toInt ∧ v55_2.toInt ≤ 63) → ((-1) ≤ v55_1.toInt ∧ v55_1.toInt ≤ 13) → va_P D vwCl (wL ad g 218) H → va_S (wA ad 218) s.heap H locs → lv_has ls 5 [(3, .int v16_3), (2, .int v55_2), (1, .int v55_1), (0, .ref (ad 0))] → W p l e ({ frames := 1, cells := 0, slots := 0, locals := 24 } : Room) s m ([.ref (ad 0)] : List Value).toArray below meth c H locs 0 0 (MQ below (qI D ad 218 (fun r g2 => g2 = g)) ([.ref (ad 0)] : List Value).toArray s 0 0 (wA ad 218)) (F0 m 55 ls []) := by
            intro v55_2 v55_1 H locs ls hv55_0 hv55_1 hP hS hl
            obtain ⟨x_19, ex_19⟩ : ∃ y : Int32, y = v16_3 + 1 := ⟨_, rfl⟩
            have hx_19 : x_19.toInt = v16_3.toInt + 1 := n_add rfl (by decide : (1 : Int32).toInt = 1) ex_19 (by omega) (by omega)
            refine lv_iinc (v := x_19) (lv' := [(3, .int x_19), (2, .int v55_2), (1, .int v55_1), (0, .ref (ad 0))]) hx hb dX11_rush_55 hl (k := 0) rfl (by rw [ex_19]; rfl) (by decide) rfl (fun ls hl => ?_)
            refine lv_goto (tgt := 16) hx hb dX11_rush_58 (by decide) ?_
            exact ih16 x_19 v55_2 v55_1 _ _ ls (by omega) (by omega) (by omega) (by omega) hP hS (lv_sub hl [0, 1, 2, 3] rfl)
          refine lv_icmp_le (tgt := 55) hx hb dX11_rush_47 (by decide) (fun hc_20 => ?_) (fun hc_20 => ?_)
          · have hhc_20 := n_le (rfl : r_18.toInt = r_18.toInt) (rfl : v16_2.toInt = v16_2.toInt) hc_20
            exact HJ55 v16_2 v16_1 _ _ ls (by omega) (by omega) hP hS (lv_sub hl [1, 2, 3, 4] rfl)
          · have hhc_20 := n_nle (rfl : r_18.toInt = r_18.toInt) (rfl : v16_2.toInt = v16_2.toInt) hc_20
            refine lv_iload hx hb dX11_rush_50 (lv_at hl 0 rfl) ?_
            refine lv_istore_n (lv' := [(2, .int r_18), (4, .int r_18), (3, .int v16_3), (1, .int v16_1), (0, .ref (ad 0))]) hx hb dX11_rush_52 rfl hl (by decide) rfl (fun ls hl => ?_)
            refine lv_iload_n hx hb dX11_rush_53 rfl (lv_at hl 2 rfl) ?_
            refine lv_istore_n (lv' := [(1, .int v16_3), (2, .int r_18), (4, .int r_18), (3, .int v16_3), (0, .ref (ad 0))]) hx hb dX11_rush_54 rfl hl (by decide) rfl (fun ls hl => ?_)
            exact HJ55 r_18 v16_3 _ _ ls (by omega) (by omega) hP hS (lv_sub hl [3, 1, 0, 4] rfl)
    have hiv16_3 : (0 : Int32).toInt = 0 := by decide
    have hiv16_2 : (0 : Int32).toInt = 0 := by decide
    have hiv16_1 : ((-1) : Int32).toInt = -1 := by decide
    exact HL16 _ 0 0 (-1) _ _ ls (Nat.lt_succ_self _) (by omega) (by omega) (by omega) hP hS (lv_sub hl [0, 1, 2, 3] rfl)
  · have hhc_5 := n_eq (rfl : r_3.toInt = r_3.toInt) (by decide : (0 : Int32).toInt = 0) hc_5
    refine lv_bipush (v := (-2)) hx hb dX11_rush_7 (by decide) ?_
    exact q_iret X hP hS rfl dX11_rush_9

theorem dX11_next_0 : decode cX11_next 0 = .ok (.aload_n 0, 1) := by decide +kernel
theorem dX11_next_1 : decode cX11_next 1 = .ok (.iload_n 1, 1) := by decide +kernel
theorem dX11_next_2 : decode cX11_next 2 = .ok (.invokevirtual 129, 3) := by decide +kernel
theorem dX11_next_5 : decode cX11_next 5 = .ok (.ifCond .eq 11, 3) := by decide +kernel
theorem dX11_next_8 : decode cX11_next 8 = .ok (.aload_n 0, 1) := by decide +kernel
theorem dX11_next_9 : decode cX11_next 9 = .ok (.iload_n 2, 1) := by decide +kernel
theorem dX11_next_10 : decode cX11_next 10 = .ok (.invokevirtual 121, 3) := by decide +kernel
theorem dX11_next_13 : decode cX11_next 13 = .ok (.ifCond .ne 6, 3) := by decide +kernel
theorem dX11_next_19 : decode cX11_next 19 = .ok (.iload_n 2, 1) := by decide +kernel
theorem dX11_next_20 : decode cX11_next 20 = .ok (.iconst 1, 1) := by decide +kernel
theorem dX11_next_21 : decode cX11_next 21 = .ok (.iadd, 1) := by decide +kernel
theorem dX11_next_22 : decode cX11_next 22 = .ok (.istore_n 3, 1) := by decide +kernel
theorem dX11_next_23 : decode cX11_next 23 = .ok (.iload_n 3, 1) := by decide +kernel
theorem dX11_next_24 : decode cX11_next 24 = .ok (.aload_n 0, 1) := by decide +kernel
theorem dX11_next_25 : decode cX11_next 25 = .ok (.getfield 19, 3) := by decide +kernel
theorem dX11_next_28 : decode cX11_next 28 = .ok (.getfield 177, 3) := by decide +kernel
theorem dX11_next_31 : decode cX11_next 31 = .ok (.if_icmp .ge 27, 3) := by decide +kernel
theorem dX11_next_34 : decode cX11_next 34 = .ok (.aload_n 0, 1) := by decide +kernel
theorem dX11_next_35 : decode cX11_next 35 = .ok (.getfield 44, 3) := by decide +kernel
theorem dX11_next_38 : decode cX11_next 38 = .ok (.aload_n 0, 1) := by decide +kernel
theorem dX11_next_39 : decode cX11_next 39 = .ok (.getfield 19, 3) := by decide +kernel
theorem dX11_next_42 : decode cX11_next 42 = .ok (.iload_n 1, 1) := by decide +kernel
theorem dX11_next_43 : decode cX11_next 43 = .ok (.iload_n 3, 1) := by decide +kernel
theorem dX11_next_44 : decode cX11_next 44 = .ok (.invokevirtual 205, 3) := by decide +kernel
theorem dX11_next_47 : decode cX11_next 47 = .ok (.ifCond .le 5, 3) := by decide +kernel
theorem dX11_next_50 : decode cX11_next 50 = .ok (.iload_n 3, 1) := by decide +kernel
theorem dX11_next_51 : decode cX11_next 51 = .ok (.ireturn, 1) := by decide +kernel
theorem dX11_next_52 : decode cX11_next 52 = .ok (.iinc 3 1, 3) := by decide +kernel
theorem dX11_next_55 : decode cX11_next 55 = .ok (.goto (-32), 3) := by decide +kernel
theorem dX11_next_58 : decode cX11_next 58 = .ok (.iconst (-1), 1) := by decide +kernel
theorem dX11_next_59 : decode cX11_next 59 = .ok (.ireturn, 1) := by decide +kernel
theorem dX11_next_16 : decode cX11_next 16 = .ok (.bipush (-2), 2) := by decide +kernel
theorem dX11_next_18 : decode cX11_next 18 = .ok (.ireturn, 1) := by decide +kernel
noncomputable def vX11_next : List Cond := .code yX11_next cX11_next 4 (some .int) :: (([.methodLink RX11 129 yX11_isEave, .instanceMethod yX11_isEave, .selects RX11 yX11_isEave yX11_isEave, .initialized RX11, .methodLink RX11 121 yX11_isDay, .instanceMethod yX11_isDay, .selects RX11 yX11_isDay yX11_isDay, .fieldLink RX11 19 "IcicleClock" "now" "LIcicleClock$Street;", .fieldLink RX11 177 "IcicleClock$Street" "days" "I", .fieldLink RX11 44 "IcicleClock" "winter" "LIcicleClock$Winter;", .methodLink RX11 205 yX10_fallsUnder, .instanceMethod yX10_fallsUnder, .selects RX10 yX10_fallsUnder yX10_fallsUnder, .initialized RX10] : List Cond) ++ (wsX110 ++ (wsX60 ++ (vX11_isEave ++ (vX11_isDay ++ vX10_fallsUnder)))))
theorem iX11_next_11 : ∀ w ∈ wsX110, w ∈ vX11_next := fun _ h => List.mem_cons_of_mem _ (List.mem_append_right _ (List.mem_append_left _ h))
theorem iX11_next_6 : ∀ w ∈ wsX60, w ∈ vX11_next := fun _ h => List.mem_cons_of_mem _ (List.mem_append_right _ (List.mem_append_right _ (List.mem_append_left _ h)))
theorem gs_X11_next : Gd vX11_next := Gd.cons (by decide +kernel) (Gd.app (Gd.r (by decide +kernel)) (Gd.app gwX_11 (Gd.app gwX_6 (Gd.app gs_X11_isEave (Gd.app gs_X11_isDay gs_X10_fallsUnder)))))
theorem gg_X11_next_X11_isEave : GoodIn vX11_next (wsV RX11 129 RX11 yX11_isEave vX11_isEave) := goodIn_app (goodIn_r _ [1, 2, 3, 4] (by decide +kernel) (by decide +kernel)) (fun w h => ⟨List.mem_cons_of_mem _ (List.mem_append_right _ (List.mem_append_right _ (List.mem_append_right _ (List.mem_append_left _ h)))), gs_X11_isEave w h⟩)
theorem gg_X11_next_X11_isDay : GoodIn vX11_next (wsV RX11 121 RX11 yX11_isDay vX11_isDay) := goodIn_app (goodIn_r _ [5, 6, 7, 4] (by decide +kernel) (by decide +kernel)) (fun w h => ⟨List.mem_cons_of_mem _ (List.mem_append_right _ (List.mem_append_right _ (List.mem_append_right _ (List.mem_append_right _ (List.mem_append_left _ h))))), gs_X11_isDay w h⟩)
theorem gg_X11_next_X10_fallsUnder : GoodIn vX11_next (wsV RX11 205 RX10 yX10_fallsUnder vX10_fallsUnder) := goodIn_app (goodIn_r _ [11, 12, 13, 14] (by decide +kernel) (by decide +kernel)) (fun w h => ⟨List.mem_cons_of_mem _ (List.mem_append_right _ (List.mem_append_right _ (List.mem_append_right _ (List.mem_append_right _ (List.mem_append_right _ (h)))))), gs_X10_fallsUnder w h⟩)
set_option maxHeartbeats 4000000 in
set_option maxRecDepth 100000 in
theorem s_X11_next (l : Launch) (D : va_G) (cs : Nat → ClassId) (ad : Nat → Nat) (kS : kSt) (K : sK) (hKO : KO K) (hj : wJ ad 218) (g : Nat → va_E) (hW : WF (shp ad K) ad cs g) (ev : Int32) (dy : Int32) : sI l yX11_next vX11_next { frames := 1, cells := 0, slots := 0, locals := 25 } D cs ad kS [.ref (ad 0), .int ev, .int dy] g (fun r g2 => g2 = g) := by
  refine Met.startS (cc := cX11_next) (maxL := 4) (ret := (some .int)) RX11 rfl (by decide) rfl (Nat.le_of_ble_eq_true rfl) ?_
  intro p e s m below meth c ls X Z hP hl
  have hx := X.1
  have hb := X.2.1
  have hS : va_S (wA ad 218) s.heap s.heap [] := va_S.rf
  have hA : ∀ i, i < 218 → wA ad 218 (ad i) := fun i h => ⟨i, h, rfl⟩
  have hl : lv_has ls 4 [(0, .ref (ad 0)), (1, .int ev), (2, .int dy)] := hl
  refine lv_aload_n hx hb dX11_next_0 rfl (lv_at hl 0 rfl) ?_
  refine lv_iload_n hx hb dX11_next_1 rfl (lv_at hl 1 rfl) ?_
  obtain ⟨fsc_4, hgc_4, hOc_4⟩ := hW.obj (i := 0) (by decide) (sh_0 ad K)
  refine s_calli (q := (RX11, TX11, 14)) (As := [.int ev]) (rest := []) X Z (s_X11_isEave l D cs ad kS K hKO hj g hW ev) (cwV 1 X.2.2.2.2.1 gg_X11_next_X11_isEave rfl rfl rfl (by decide +kernel) ⟨Nat.le_of_ble_eq_true rfl, Nat.le_of_ble_eq_true rfl⟩) (by decide) hgc_4 rfl hP hA hS.2.1 hS rfl hl.1 rfl (Nat.le_of_ble_eq_true rfl) dX11_next_2 ⟨Nat.le_of_ble_eq_true rfl, Nat.le_of_ble_eq_true rfl⟩ (fun r_3 g_2 H locs hw_1 hP hS => ?_)
  obtain ⟨hw_1g, hw_1⟩ := hw_1
  rw [hw_1g] at hP
  have HJ16 : ∀ (H : Heap) (locs : List Loc) (ls : Array Slot), va_P D vwCl (wL ad g 218) H → va_S (wA ad 218) s.heap H locs → lv_has ls 4 [] → W p l e ({ frames := 1, cells := 0, slots := 0, locals := 25 } : Room) s m ([.ref (ad 0), .int ev, .int dy] : List Value).toArray below meth c H locs 0 0 (MQ below (qI D ad 218 (fun r g2 => g2 = g)) ([.ref (ad 0), .int ev, .int dy] : List Value).toArray s 0 0 (wA ad 218)) (F0 m 16 ls []) := by
    intro H locs ls hP hS hl
    refine lv_bipush (v := (-2)) hx hb dX11_next_16 (by decide) ?_
    exact q_iret X hP hS rfl dX11_next_18
  refine lv_if_eq (tgt := 16) hx hb dX11_next_5 (by decide) (fun hc_5 => ?_) (fun hc_5 => ?_)
  · have hhc_5 := n_eq (rfl : r_3.toInt = r_3.toInt) (by decide : (0 : Int32).toInt = 0) hc_5
    exact HJ16 _ _ ls hP hS (lv_sub hl [] rfl)
  · have hhc_5 := n_ne (rfl : r_3.toInt = r_3.toInt) (by decide : (0 : Int32).toInt = 0) hc_5
    refine lv_aload_n hx hb dX11_next_8 rfl (lv_at hl 0 rfl) ?_
    refine lv_iload_n hx hb dX11_next_9 rfl (lv_at hl 2 rfl) ?_
    refine s_calli (q := (RX11, TX11, 14)) (As := [.int dy]) (rest := []) X Z (s_X11_isDay l D cs ad kS K hKO hj g hW dy) (cwV 1 X.2.2.2.2.1 gg_X11_next_X11_isDay rfl rfl rfl (by decide +kernel) ⟨Nat.le_of_ble_eq_true rfl, Nat.le_of_ble_eq_true rfl⟩) (by decide) hgc_4 rfl hP hA hS.2.1 hS rfl hl.1 rfl (Nat.le_of_ble_eq_true rfl) dX11_next_10 ⟨Nat.le_of_ble_eq_true rfl, Nat.le_of_ble_eq_true rfl⟩ (fun r_8 g_7 H locs hw_6 hP hS => ?_)
    obtain ⟨hw_6g, hw_6⟩ := hw_6
    rw [hw_6g] at hP
    refine lv_if_ne (tgt := 19) hx hb dX11_next_13 (by decide) (fun hc_9 => ?_) (fun hc_9 => ?_)
    · have hhc_9 := n_ne (rfl : r_8.toInt = r_8.toInt) (by decide : (0 : Int32).toInt = 0) hc_9
      refine lv_iload_n hx hb dX11_next_19 rfl (lv_at hl 2 rfl) ?_
      refine lv_iconst (v := 1) hx hb dX11_next_20 (by decide) ?_
      refine lv_iadd hx hb dX11_next_21 ?_
      refine lv_topi (fun z_10 ez_10 => ?_)
      have hz_10 : z_10.toInt = dy.toInt + 1 := n_add (rfl : dy.toInt = dy.toInt) (by decide : (1 : Int32).toInt = 1) ez_10 (by omega) (by omega)
      refine lv_istore_n (lv' := [(3, .int z_10), (0, .ref (ad 0)), (1, .int ev), (2, .int dy)]) hx hb dX11_next_22 rfl hl (by decide) rfl (fun ls hl => ?_)
      have HL23 : ∀ (n23 : Nat) (v23_3 : Int32) (H : Heap) (locs : List Loc) (ls : Array Slot), (14 - v23_3.toInt).toNat < n23 → (1 ≤ v23_3.toInt ∧ v23_3.toInt ≤ 14) → va_P D vwCl (wL ad g 218) H → va_S (wA ad 218) s.heap H locs → lv_has ls 4 [(3, .int v23_3), (0, .ref (ad 0)), (1, .int ev)] → W p l e ({ frames := 1, cells := 0, slots := 0, locals := 25 } : Room) s m ([.ref (ad 0), .int ev, .int dy] : List Value).toArray below meth c H locs 0 0 (MQ below (qI D ad 218 (fun r g2 => g2 = g)) ([.ref (ad 0), .int ev, .int dy] : List Value).toArray s 0 0 (wA ad 218)) (F0 m 23 ls []) := by
        intro n23
        induction n23 with
        | zero =>
          intro v23_3 H locs ls hm23 hv23_0 hP hS hl
          exact absurd hm23 (Nat.not_lt_zero _)
        | succ n23 ih23 =>
          intro v23_3 H locs ls hm23 hv23_0 hP hS hl
          refine lv_iload_n hx hb dX11_next_23 rfl (lv_at hl 0 rfl) ?_
          refine lv_aload_n hx hb dX11_next_24 rfl (lv_at hl 1 rfl) ?_
          have hk_11 := hOc_4.ref 1 rfl
          refine q_get X iX11_next_11 hP (by decide) hgc_4 rfl 1 (by decide) (List.mem_of_getElem? (i := 8) rfl) (v := .ref (ad 3)) hk_11 dX11_next_25 ?_
          obtain ⟨fsc_12, hgc_12, hOc_12⟩ := hW.obj (i := 3) (by decide) (sh_3 ad K)
          obtain ⟨x_14, hk_13, hlx_14, hhx_14⟩ := hOc_12.int 3 rfl
          refine q_get X iX11_next_6 hP (by decide) hgc_12 rfl 3 (by decide) (List.mem_of_getElem? (i := 9) rfl) (v := .int x_14) hk_13 dX11_next_28 ?_
          refine lv_icmp_ge (tgt := 58) hx hb dX11_next_31 (by decide) (fun hc_15 => ?_) (fun hc_15 => ?_)
          · have hhc_15 := n_le (rfl : x_14.toInt = x_14.toInt) (rfl : v23_3.toInt = v23_3.toInt) hc_15
            refine lv_iconst (v := (-1)) hx hb dX11_next_58 (by decide) ?_
            exact q_iret X hP hS rfl dX11_next_59
          · have hhc_15 := n_nle (rfl : x_14.toInt = x_14.toInt) (rfl : v23_3.toInt = v23_3.toInt) hc_15
            refine lv_aload_n hx hb dX11_next_34 rfl (lv_at hl 1 rfl) ?_
            have hk_16 := hOc_4.ref 6 rfl
            refine q_get X iX11_next_11 hP (by decide) hgc_4 rfl 6 (by decide) (List.mem_of_getElem? (i := 10) rfl) (v := .ref (ad 114)) hk_16 dX11_next_35 ?_
            refine lv_aload_n hx hb dX11_next_38 rfl (lv_at hl 1 rfl) ?_
            refine q_get X iX11_next_11 hP (by decide) hgc_4 rfl 1 (by decide) (List.mem_of_getElem? (i := 8) rfl) (v := .ref (ad 3)) hk_11 dX11_next_39 ?_
            refine lv_iload_n hx hb dX11_next_42 rfl (lv_at hl 2 rfl) ?_
            refine lv_iload_n hx hb dX11_next_43 rfl (lv_at hl 0 rfl) ?_
            obtain ⟨fsc_20, hgc_20, hOc_20⟩ := hW.obj (i := 114) (by decide) (sh_114 ad K)
            refine s_calli (q := (RX10, TX10, 4)) (As := [.ref (ad 3), .int ev, .int v23_3]) (rest := []) X Z (s_X10_fallsUnder l D cs ad kS K hKO hj g hW 114 ev v23_3 (by omega)) (cwV 3 X.2.2.2.2.1 gg_X11_next_X10_fallsUnder rfl rfl rfl (by decide +kernel) ⟨Nat.le_of_ble_eq_true rfl, Nat.le_of_ble_eq_true rfl⟩) (by decide) hgc_20 rfl hP hA hS.2.1 hS rfl hl.1 rfl (Nat.le_of_ble_eq_true rfl) dX11_next_44 ⟨Nat.le_of_ble_eq_true rfl, Nat.le_of_ble_eq_true rfl⟩ (fun r_19 g_18 H locs hw_17 hP hS => ?_)
            rw [hw_17] at hP
            refine lv_if_le (tgt := 52) hx hb dX11_next_47 (by decide) (fun hc_21 => ?_) (fun hc_21 => ?_)
            · have hhc_21 := n_le (rfl : r_19.toInt = r_19.toInt) (by decide : (0 : Int32).toInt = 0) hc_21
              obtain ⟨x_22, ex_22⟩ : ∃ y : Int32, y = v23_3 + 1 := ⟨_, rfl⟩
              have hx_22 : x_22.toInt = v23_3.toInt + 1 := n_add rfl (by decide : (1 : Int32).toInt = 1) ex_22 (by omega) (by omega)
              refine lv_iinc (v := x_22) (lv' := [(3, .int x_22), (0, .ref (ad 0)), (1, .int ev)]) hx hb dX11_next_52 hl (k := 0) rfl (by rw [ex_22]; rfl) (by decide) rfl (fun ls hl => ?_)
              refine lv_goto (tgt := 23) hx hb dX11_next_55 (by decide) ?_
              exact ih23 x_22 _ _ ls (by omega) (by omega) hP hS (lv_sub hl [0, 1, 2] rfl)
            · have hhc_21 := n_nle (rfl : r_19.toInt = r_19.toInt) (by decide : (0 : Int32).toInt = 0) hc_21
              refine lv_iload_n hx hb dX11_next_50 rfl (lv_at hl 0 rfl) ?_
              exact q_iret X hP hS rfl dX11_next_51
      exact HL23 _ z_10 _ _ ls (Nat.lt_succ_self _) (by omega) hP hS (lv_sub hl [0, 1, 2] rfl)
    · have hhc_9 := n_eq (rfl : r_8.toInt = r_8.toInt) (by decide : (0 : Int32).toInt = 0) hc_9
      exact HJ16 _ _ ls hP hS (lv_sub hl [] rfl)

theorem dX11_barest_0 : decode cX11_barest 0 = .ok (.aload_n 0, 1) := by decide +kernel
theorem dX11_barest_1 : decode cX11_barest 1 = .ok (.invokevirtual 195, 3) := by decide +kernel
theorem dX11_barest_4 : decode cX11_barest 4 = .ok (.ifCond .ne 6, 3) := by decide +kernel
theorem dX11_barest_7 : decode cX11_barest 7 = .ok (.bipush (-2), 2) := by decide +kernel
theorem dX11_barest_9 : decode cX11_barest 9 = .ok (.ireturn, 1) := by decide +kernel
theorem dX11_barest_10 : decode cX11_barest 10 = .ok (.iconst (-1), 1) := by decide +kernel
theorem dX11_barest_11 : decode cX11_barest 11 = .ok (.istore_n 1, 1) := by decide +kernel
theorem dX11_barest_12 : decode cX11_barest 12 = .ok (.iconst 0, 1) := by decide +kernel
theorem dX11_barest_13 : decode cX11_barest 13 = .ok (.istore_n 2, 1) := by decide +kernel
theorem dX11_barest_14 : decode cX11_barest 14 = .ok (.iconst 0, 1) := by decide +kernel
theorem dX11_barest_15 : decode cX11_barest 15 = .ok (.istore_n 3, 1) := by decide +kernel
theorem dX11_barest_16 : decode cX11_barest 16 = .ok (.iload_n 3, 1) := by decide +kernel
theorem dX11_barest_17 : decode cX11_barest 17 = .ok (.aload_n 0, 1) := by decide +kernel
theorem dX11_barest_18 : decode cX11_barest 18 = .ok (.getfield 19, 3) := by decide +kernel
theorem dX11_barest_21 : decode cX11_barest 21 = .ok (.getfield 208, 3) := by decide +kernel
theorem dX11_barest_24 : decode cX11_barest 24 = .ok (.if_icmp .ge 63, 3) := by decide +kernel
theorem dX11_barest_27 : decode cX11_barest 27 = .ok (.iconst 0, 1) := by decide +kernel
theorem dX11_barest_28 : decode cX11_barest 28 = .ok (.istore 4, 2) := by decide +kernel
theorem dX11_barest_30 : decode cX11_barest 30 = .ok (.iconst 0, 1) := by decide +kernel
theorem dX11_barest_31 : decode cX11_barest 31 = .ok (.istore 5, 2) := by decide +kernel
theorem dX11_barest_33 : decode cX11_barest 33 = .ok (.iload 5, 2) := by decide +kernel
theorem dX11_barest_35 : decode cX11_barest 35 = .ok (.aload_n 0, 1) := by decide +kernel
theorem dX11_barest_36 : decode cX11_barest 36 = .ok (.getfield 19, 3) := by decide +kernel
theorem dX11_barest_39 : decode cX11_barest 39 = .ok (.getfield 177, 3) := by decide +kernel
theorem dX11_barest_42 : decode cX11_barest 42 = .ok (.if_icmp .ge 28, 3) := by decide +kernel
theorem dX11_barest_45 : decode cX11_barest 45 = .ok (.iload 4, 2) := by decide +kernel
theorem dX11_barest_47 : decode cX11_barest 47 = .ok (.aload_n 0, 1) := by decide +kernel
theorem dX11_barest_48 : decode cX11_barest 48 = .ok (.getfield 44, 3) := by decide +kernel
theorem dX11_barest_51 : decode cX11_barest 51 = .ok (.aload_n 0, 1) := by decide +kernel
theorem dX11_barest_52 : decode cX11_barest 52 = .ok (.getfield 19, 3) := by decide +kernel
theorem dX11_barest_55 : decode cX11_barest 55 = .ok (.iload_n 3, 1) := by decide +kernel
theorem dX11_barest_56 : decode cX11_barest 56 = .ok (.iload 5, 2) := by decide +kernel
theorem dX11_barest_58 : decode cX11_barest 58 = .ok (.invokevirtual 205, 3) := by decide +kernel
theorem dX11_barest_61 : decode cX11_barest 61 = .ok (.iadd, 1) := by decide +kernel
theorem dX11_barest_62 : decode cX11_barest 62 = .ok (.istore 4, 2) := by decide +kernel
theorem dX11_barest_64 : decode cX11_barest 64 = .ok (.iinc 5 1, 3) := by decide +kernel
theorem dX11_barest_67 : decode cX11_barest 67 = .ok (.goto (-34), 3) := by decide +kernel
theorem dX11_barest_70 : decode cX11_barest 70 = .ok (.iload 4, 2) := by decide +kernel
theorem dX11_barest_72 : decode cX11_barest 72 = .ok (.iload_n 2, 1) := by decide +kernel
theorem dX11_barest_73 : decode cX11_barest 73 = .ok (.if_icmp .le 8, 3) := by decide +kernel
theorem dX11_barest_76 : decode cX11_barest 76 = .ok (.iload 4, 2) := by decide +kernel
theorem dX11_barest_78 : decode cX11_barest 78 = .ok (.istore_n 2, 1) := by decide +kernel
theorem dX11_barest_79 : decode cX11_barest 79 = .ok (.iload_n 3, 1) := by decide +kernel
theorem dX11_barest_80 : decode cX11_barest 80 = .ok (.istore_n 1, 1) := by decide +kernel
theorem dX11_barest_81 : decode cX11_barest 81 = .ok (.iinc 3 1, 3) := by decide +kernel
theorem dX11_barest_84 : decode cX11_barest 84 = .ok (.goto (-68), 3) := by decide +kernel
theorem dX11_barest_87 : decode cX11_barest 87 = .ok (.iload_n 1, 1) := by decide +kernel
theorem dX11_barest_88 : decode cX11_barest 88 = .ok (.ireturn, 1) := by decide +kernel
noncomputable def vX11_barest : List Cond := .code yX11_barest cX11_barest 6 (some .int) :: (([.methodLink RX11 195 yX11_isTold, .instanceMethod yX11_isTold, .selects RX11 yX11_isTold yX11_isTold, .initialized RX11, .fieldLink RX11 19 "IcicleClock" "now" "LIcicleClock$Street;", .fieldLink RX11 208 "IcicleClock$Street" "eaves" "I", .fieldLink RX11 177 "IcicleClock$Street" "days" "I", .fieldLink RX11 44 "IcicleClock" "winter" "LIcicleClock$Winter;", .methodLink RX11 205 yX10_fallsUnder, .instanceMethod yX10_fallsUnder, .selects RX10 yX10_fallsUnder yX10_fallsUnder, .initialized RX10] : List Cond) ++ (wsX110 ++ (wsX60 ++ (vX11_isTold ++ vX10_fallsUnder))))
theorem iX11_barest_11 : ∀ w ∈ wsX110, w ∈ vX11_barest := fun _ h => List.mem_cons_of_mem _ (List.mem_append_right _ (List.mem_append_left _ h))
theorem iX11_barest_6 : ∀ w ∈ wsX60, w ∈ vX11_barest := fun _ h => List.mem_cons_of_mem _ (List.mem_append_right _ (List.mem_append_right _ (List.mem_append_left _ h)))
theorem gs_X11_barest : Gd vX11_barest := Gd.cons (by decide +kernel) (Gd.app (Gd.r (by decide +kernel)) (Gd.app gwX_11 (Gd.app gwX_6 (Gd.app gs_X11_isTold gs_X10_fallsUnder))))
theorem gg_X11_barest_X11_isTold : GoodIn vX11_barest (wsV RX11 195 RX11 yX11_isTold vX11_isTold) := goodIn_app (goodIn_r _ [1, 2, 3, 4] (by decide +kernel) (by decide +kernel)) (fun w h => ⟨List.mem_cons_of_mem _ (List.mem_append_right _ (List.mem_append_right _ (List.mem_append_right _ (List.mem_append_left _ h)))), gs_X11_isTold w h⟩)
theorem gg_X11_barest_X10_fallsUnder : GoodIn vX11_barest (wsV RX11 205 RX10 yX10_fallsUnder vX10_fallsUnder) := goodIn_app (goodIn_r _ [9, 10, 11, 12] (by decide +kernel) (by decide +kernel)) (fun w h => ⟨List.mem_cons_of_mem _ (List.mem_append_right _ (List.mem_append_right _ (List.mem_append_right _ (List.mem_append_right _ (h))))), gs_X10_fallsUnder w h⟩)
set_option maxHeartbeats 4000000 in
set_option maxRecDepth 100000 in
theorem s_X11_barest (l : Launch) (D : va_G) (cs : Nat → ClassId) (ad : Nat → Nat) (kS : kSt) (K : sK) (hKO : KO K) (hj : wJ ad 218) (g : Nat → va_E) (hW : WF (shp ad K) ad cs g) : sI l yX11_barest vX11_barest { frames := 1, cells := 0, slots := 0, locals := 25 } D cs ad kS [.ref (ad 0)] g (fun r g2 => g2 = g) := by
  refine Met.startS (cc := cX11_barest) (maxL := 6) (ret := (some .int)) RX11 rfl (by decide) rfl (Nat.le_of_ble_eq_true rfl) ?_
  intro p e s m below meth c ls X Z hP hl
  have hx := X.1
  have hb := X.2.1
  have hS : va_S (wA ad 218) s.heap s.heap [] := va_S.rf
  have hA : ∀ i, i < 218 → wA ad 218 (ad i) := fun i h => ⟨i, h, rfl⟩
  have hl : lv_has ls 6 [(0, .ref (ad 0))] := hl
  refine lv_aload_n hx hb dX11_barest_0 rfl (lv_at hl 0 rfl) ?_
  obtain ⟨fsc_4, hgc_4, hOc_4⟩ := hW.obj (i := 0) (by decide) (sh_0 ad K)
  refine s_calli (q := (RX11, TX11, 14)) (As := []) (rest := []) X Z (s_X11_isTold l D cs ad kS K hKO hj g hW) (cwV 0 X.2.2.2.2.1 gg_X11_barest_X11_isTold rfl rfl rfl (by decide +kernel) ⟨Nat.le_of_ble_eq_true rfl, Nat.le_of_ble_eq_true rfl⟩) (by decide) hgc_4 rfl hP hA hS.2.1 hS rfl hl.1 rfl (Nat.le_of_ble_eq_true rfl) dX11_barest_1 ⟨Nat.le_of_ble_eq_true rfl, Nat.le_of_ble_eq_true rfl⟩ (fun r_3 g_2 H locs hw_1 hP hS => ?_)
  obtain ⟨hw_1g, hw_1⟩ := hw_1
  rw [hw_1g] at hP
  refine lv_if_ne (tgt := 10) hx hb dX11_barest_4 (by decide) (fun hc_5 => ?_) (fun hc_5 => ?_)
  · have hhc_5 := n_ne (rfl : r_3.toInt = r_3.toInt) (by decide : (0 : Int32).toInt = 0) hc_5
    refine lv_iconst (v := (-1)) hx hb dX11_barest_10 (by decide) ?_
    refine lv_istore_n (lv' := [(1, .int (-1)), (0, .ref (ad 0))]) hx hb dX11_barest_11 rfl hl (by decide) rfl (fun ls hl => ?_)
    refine lv_iconst (v := 0) hx hb dX11_barest_12 (by decide) ?_
    refine lv_istore_n (lv' := [(2, .int 0), (1, .int (-1)), (0, .ref (ad 0))]) hx hb dX11_barest_13 rfl hl (by decide) rfl (fun ls hl => ?_)
    refine lv_iconst (v := 0) hx hb dX11_barest_14 (by decide) ?_
    refine lv_istore_n (lv' := [(3, .int 0), (2, .int 0), (1, .int (-1)), (0, .ref (ad 0))]) hx hb dX11_barest_15 rfl hl (by decide) rfl (fun ls hl => ?_)
    have HL16 : ∀ (n16 : Nat) (v16_3 : Int32) (v16_2 : Int32) (v16_1 : Int32) (H : Heap) (locs : List Loc) (ls : Array Slot), (5 - v16_3.toInt).toNat < n16 → (0 ≤ v16_3.toInt ∧ v16_3.toInt ≤ 5) → (0 ≤ v16_2.toInt) → ((-1) ≤ v16_1.toInt ∧ v16_1.toInt ≤ 4) → va_P D vwCl (wL ad g 218) H → va_S (wA ad 218) s.heap H locs → lv_has ls 6 [(3, .int v16_3), (2, .int v16_2), (1, .int v16_1), (0, .ref (ad 0))] → W p l e ({ frames := 1, cells := 0, slots := 0, locals := 25 } : Room) s m ([.ref (ad 0)] : List Value).toArray below meth c H locs 0 0 (MQ below (qI D ad 218 (fun r g2 => g2 = g)) ([.ref (ad 0)] : List Value).toArray s 0 0 (wA ad 218)) (F0 m 16 ls []) := by
      intro n16
      induction n16 with
      | zero =>
        intro v16_3 v16_2 v16_1 H locs ls hm16 hv16_0 hv16_1 hv16_2 hP hS hl
        exact absurd hm16 (Nat.not_lt_zero _)
      | succ n16 ih16 =>
        intro v16_3 v16_2 v16_1 H locs ls hm16 hv16_0 hv16_1 hv16_2 hP hS hl
        refine lv_iload_n hx hb dX11_barest_16 rfl (lv_at hl 0 rfl) ?_
        refine lv_aload_n hx hb dX11_barest_17 rfl (lv_at hl 3 rfl) ?_
        have hk_6 := hOc_4.ref 1 rfl
        refine q_get X iX11_barest_11 hP (by decide) hgc_4 rfl 1 (by decide) (List.mem_of_getElem? (i := 5) rfl) (v := .ref (ad 3)) hk_6 dX11_barest_18 ?_
        obtain ⟨fsc_7, hgc_7, hOc_7⟩ := hW.obj (i := 3) (by decide) (sh_3 ad K)
        obtain ⟨x_9, hk_8, hlx_9, hhx_9⟩ := hOc_7.int 4 rfl
        refine q_get X iX11_barest_6 hP (by decide) hgc_7 rfl 4 (by decide) (List.mem_of_getElem? (i := 6) rfl) (v := .int x_9) hk_8 dX11_barest_21 ?_
        refine lv_icmp_ge (tgt := 87) hx hb dX11_barest_24 (by decide) (fun hc_10 => ?_) (fun hc_10 => ?_)
        · have hhc_10 := n_le (rfl : x_9.toInt = x_9.toInt) (rfl : v16_3.toInt = v16_3.toInt) hc_10
          refine lv_iload_n hx hb dX11_barest_87 rfl (lv_at hl 2 rfl) ?_
          exact q_iret X hP hS rfl dX11_barest_88
        · have hhc_10 := n_nle (rfl : x_9.toInt = x_9.toInt) (rfl : v16_3.toInt = v16_3.toInt) hc_10
          refine lv_iconst (v := 0) hx hb dX11_barest_27 (by decide) ?_
          refine lv_istore (lv' := [(4, .int 0), (3, .int v16_3), (2, .int v16_2), (1, .int v16_1), (0, .ref (ad 0))]) hx hb dX11_barest_28 hl (by decide) rfl (fun ls hl => ?_)
          refine lv_iconst (v := 0) hx hb dX11_barest_30 (by decide) ?_
          refine lv_istore (lv' := [(5, .int 0), (4, .int 0), (3, .int v16_3), (2, .int v16_2), (1, .int v16_1), (0, .ref (ad 0))]) hx hb dX11_barest_31 hl (by decide) rfl (fun ls hl => ?_)
          have HL33 : ∀ (n33 : Nat) (v33_5 : Int32) (v33_4 : Int32) (H : Heap) (locs : List Loc) (ls : Array Slot), (14 - v33_5.toInt).toNat < n33 → (0 ≤ v33_5.toInt ∧ v33_5.toInt ≤ 14) → va_P D vwCl (wL ad g 218) H → va_S (wA ad 218) s.heap H locs → lv_has ls 6 [(5, .int v33_5), (4, .int v33_4), (3, .int v16_3), (2, .int v16_2), (1, .int v16_1), (0, .ref (ad 0))] → W p l e ({ frames := 1, cells := 0, slots := 0, locals := 25 } : Room) s m ([.ref (ad 0)] : List Value).toArray below meth c H locs 0 0 (MQ below (qI D ad 218 (fun r g2 => g2 = g)) ([.ref (ad 0)] : List Value).toArray s 0 0 (wA ad 218)) (F0 m 33 ls []) := by
            intro n33
            induction n33 with
            | zero =>
              intro v33_5 v33_4 H locs ls hm33 hv33_0 hP hS hl
              exact absurd hm33 (Nat.not_lt_zero _)
            | succ n33 ih33 =>
              intro v33_5 v33_4 H locs ls hm33 hv33_0 hP hS hl
              refine lv_iload hx hb dX11_barest_33 (lv_at hl 0 rfl) ?_
              refine lv_aload_n hx hb dX11_barest_35 rfl (lv_at hl 5 rfl) ?_
              refine q_get X iX11_barest_11 hP (by decide) hgc_4 rfl 1 (by decide) (List.mem_of_getElem? (i := 5) rfl) (v := .ref (ad 3)) hk_6 dX11_barest_36 ?_
              obtain ⟨x_12, hk_11, hlx_12, hhx_12⟩ := hOc_7.int 3 rfl
              refine q_get X iX11_barest_6 hP (by decide) hgc_7 rfl 3 (by decide) (List.mem_of_getElem? (i := 7) rfl) (v := .int x_12) hk_11 dX11_barest_39 ?_
              refine lv_icmp_ge (tgt := 70) hx hb dX11_barest_42 (by decide) (fun hc_13 => ?_) (fun hc_13 => ?_)
              · have hhc_13 := n_le (rfl : x_12.toInt = x_12.toInt) (rfl : v33_5.toInt = v33_5.toInt) hc_13
                refine lv_iload hx hb dX11_barest_70 (lv_at hl 1 rfl) ?_
                refine lv_iload_n hx hb dX11_barest_72 rfl (lv_at hl 3 rfl) ?_
                have HJ81 : ∀ (v81_2 : Int32) (v81_1 : Int32) (H : Heap) (locs : List Loc) (ls : Array Slot), (0 ≤ v81_2.toInt) → ((-1) ≤ v81_1.toInt ∧ v81_1.toInt ≤ 4) → va_P D vwCl (wL ad g 218) H → va_S (wA ad 218) s.heap H locs → lv_has ls 6 [(3, .int v16_3), (2, .int v81_2), (1, .int v81_1), (0, .ref (ad 0))] → W p l e ({ frames := 1, cells := 0, slots := 0, locals := 25 } : Room) s m ([.ref (ad 0)] : List Value).toArray below meth c H locs 0 0 (MQ below (qI D ad 218 (fun r g2 => g2 = g)) ([.ref (ad 0)] : List Value).toArray s 0 0 (wA ad 218)) (F0 m 81 ls []) := by
                  intro v81_2 v81_1 H locs ls hv81_0 hv81_1 hP hS hl
                  obtain ⟨x_14, ex_14⟩ : ∃ y : Int32, y = v16_3 + 1 := ⟨_, rfl⟩
                  have hx_14 : x_14.toInt = v16_3.toInt + 1 := n_add rfl (by decide : (1 : Int32).toInt = 1) ex_14 (by omega) (by omega)
                  refine lv_iinc (v := x_14) (lv' := [(3, .int x_14), (2, .int v81_2), (1, .int v81_1), (0, .ref (ad 0))]) hx hb dX11_barest_81 hl (k := 0) rfl (by rw [ex_14]; rfl) (by decide) rfl (fun ls hl => ?_)
                  refine lv_goto (tgt := 16) hx hb dX11_barest_84 (by decide) ?_
                  exact ih16 x_14 v81_2 v81_1 _ _ ls (by omega) (by omega) (by omega) (by omega) hP hS (lv_sub hl [0, 1, 2, 3] rfl)
                refine lv_icmp_le (tgt := 81) hx hb dX11_barest_73 (by decide) (fun hc_15 => ?_) (fun hc_15 => ?_)
                · have hhc_15 := n_le (rfl : v33_4.toInt = v33_4.toInt) (rfl : v16_2.toInt = v16_2.toInt) hc_15
                  have := n_hi v16_2
                  have := n_hi v33_4
                  have := n_lo v33_4
                  exact HJ81 v16_2 v16_1 _ _ ls (by omega) (by omega) hP hS (lv_sub hl [2, 3, 4, 5] rfl)
                · have hhc_15 := n_nle (rfl : v33_4.toInt = v33_4.toInt) (rfl : v16_2.toInt = v16_2.toInt) hc_15
                  have := n_hi v16_2
                  have := n_hi v33_4
                  have := n_lo v33_4
                  refine lv_iload hx hb dX11_barest_76 (lv_at hl 1 rfl) ?_
                  refine lv_istore_n (lv' := [(2, .int v33_4), (5, .int v33_5), (4, .int v33_4), (3, .int v16_3), (1, .int v16_1), (0, .ref (ad 0))]) hx hb dX11_barest_78 rfl hl (by decide) rfl (fun ls hl => ?_)
                  refine lv_iload_n hx hb dX11_barest_79 rfl (lv_at hl 3 rfl) ?_
                  refine lv_istore_n (lv' := [(1, .int v16_3), (2, .int v33_4), (5, .int v33_5), (4, .int v33_4), (3, .int v16_3), (0, .ref (ad 0))]) hx hb dX11_barest_80 rfl hl (by decide) rfl (fun ls hl => ?_)
                  exact HJ81 v33_4 v16_3 _ _ ls (by omega) (by omega) hP hS (lv_sub hl [4, 1, 0, 5] rfl)
              · have hhc_13 := n_nle (rfl : x_12.toInt = x_12.toInt) (rfl : v33_5.toInt = v33_5.toInt) hc_13
                refine lv_iload hx hb dX11_barest_45 (lv_at hl 1 rfl) ?_
                refine lv_aload_n hx hb dX11_barest_47 rfl (lv_at hl 5 rfl) ?_
                have hk_16 := hOc_4.ref 6 rfl
                refine q_get X iX11_barest_11 hP (by decide) hgc_4 rfl 6 (by decide) (List.mem_of_getElem? (i := 8) rfl) (v := .ref (ad 114)) hk_16 dX11_barest_48 ?_
                refine lv_aload_n hx hb dX11_barest_51 rfl (lv_at hl 5 rfl) ?_
                refine q_get X iX11_barest_11 hP (by decide) hgc_4 rfl 1 (by decide) (List.mem_of_getElem? (i := 5) rfl) (v := .ref (ad 3)) hk_6 dX11_barest_52 ?_
                refine lv_iload_n hx hb dX11_barest_55 rfl (lv_at hl 2 rfl) ?_
                refine lv_iload hx hb dX11_barest_56 (lv_at hl 0 rfl) ?_
                obtain ⟨fsc_20, hgc_20, hOc_20⟩ := hW.obj (i := 114) (by decide) (sh_114 ad K)
                refine s_calli (q := (RX10, TX10, 4)) (As := [.ref (ad 3), .int v16_3, .int v33_5]) (rest := [.int v33_4]) X Z (s_X10_fallsUnder l D cs ad kS K hKO hj g hW 114 v16_3 v33_5 (by omega)) (cwV 3 X.2.2.2.2.1 gg_X11_barest_X10_fallsUnder rfl rfl rfl (by decide +kernel) ⟨Nat.le_of_ble_eq_true rfl, Nat.le_of_ble_eq_true rfl⟩) (by decide) hgc_20 rfl hP hA hS.2.1 hS rfl hl.1 rfl (Nat.le_of_ble_eq_true rfl) dX11_barest_58 ⟨Nat.le_of_ble_eq_true rfl, Nat.le_of_ble_eq_true rfl⟩ (fun r_19 g_18 H locs hw_17 hP hS => ?_)
                rw [hw_17] at hP
                refine lv_iadd hx hb dX11_barest_61 ?_
                refine lv_topi (fun z_21 ez_21 => ?_)
                refine lv_istore (lv' := [(4, .int z_21), (5, .int v33_5), (3, .int v16_3), (2, .int v16_2), (1, .int v16_1), (0, .ref (ad 0))]) hx hb dX11_barest_62 hl (by decide) rfl (fun ls hl => ?_)
                obtain ⟨x_22, ex_22⟩ : ∃ y : Int32, y = v33_5 + 1 := ⟨_, rfl⟩
                have hx_22 : x_22.toInt = v33_5.toInt + 1 := n_add rfl (by decide : (1 : Int32).toInt = 1) ex_22 (by omega) (by omega)
                refine lv_iinc (v := x_22) (lv' := [(5, .int x_22), (4, .int z_21), (3, .int v16_3), (2, .int v16_2), (1, .int v16_1), (0, .ref (ad 0))]) hx hb dX11_barest_64 hl (k := 1) rfl (by rw [ex_22]; rfl) (by decide) rfl (fun ls hl => ?_)
                refine lv_goto (tgt := 33) hx hb dX11_barest_67 (by decide) ?_
                exact ih33 x_22 z_21 _ _ ls (by omega) (by omega) hP hS (lv_sub hl [0, 1, 2, 3, 4, 5] rfl)
          have hiv33_5 : (0 : Int32).toInt = 0 := by decide
          have hiv33_4 : (0 : Int32).toInt = 0 := by decide
          exact HL33 _ 0 0 _ _ ls (Nat.lt_succ_self _) (by omega) hP hS (lv_sub hl [0, 1, 2, 3, 4, 5] rfl)
    have hiv16_3 : (0 : Int32).toInt = 0 := by decide
    have hiv16_2 : (0 : Int32).toInt = 0 := by decide
    have hiv16_1 : ((-1) : Int32).toInt = -1 := by decide
    exact HL16 _ 0 0 (-1) _ _ ls (Nat.lt_succ_self _) (by omega) (by omega) (by omega) hP hS (lv_sub hl [0, 1, 2, 3] rfl)
  · have hhc_5 := n_eq (rfl : r_3.toInt = r_3.toInt) (by decide : (0 : Int32).toInt = 0) hc_5
    refine lv_bipush (v := (-2)) hx hb dX11_barest_7 (by decide) ?_
    exact q_iret X hP hS rfl dX11_barest_9

theorem dX11_time_0 : decode cX11_time 0 = .ok (.aload_n 0, 1) := by decide +kernel
theorem dX11_time_1 : decode cX11_time 1 = .ok (.iload_n 1, 1) := by decide +kernel
theorem dX11_time_2 : decode cX11_time 2 = .ok (.invokevirtual 129, 3) := by decide +kernel
theorem dX11_time_5 : decode cX11_time 5 = .ok (.ifCond .eq 27, 3) := by decide +kernel
theorem dX11_time_8 : decode cX11_time 8 = .ok (.aload_n 0, 1) := by decide +kernel
theorem dX11_time_9 : decode cX11_time 9 = .ok (.iload_n 2, 1) := by decide +kernel
theorem dX11_time_10 : decode cX11_time 10 = .ok (.invokevirtual 121, 3) := by decide +kernel
theorem dX11_time_13 : decode cX11_time 13 = .ok (.ifCond .eq 19, 3) := by decide +kernel
theorem dX11_time_16 : decode cX11_time 16 = .ok (.aload_n 0, 1) := by decide +kernel
theorem dX11_time_17 : decode cX11_time 17 = .ok (.getfield 44, 3) := by decide +kernel
theorem dX11_time_20 : decode cX11_time 20 = .ok (.aload_n 0, 1) := by decide +kernel
theorem dX11_time_21 : decode cX11_time 21 = .ok (.getfield 19, 3) := by decide +kernel
theorem dX11_time_24 : decode cX11_time 24 = .ok (.iload_n 1, 1) := by decide +kernel
theorem dX11_time_25 : decode cX11_time 25 = .ok (.iload_n 2, 1) := by decide +kernel
theorem dX11_time_26 : decode cX11_time 26 = .ok (.invokevirtual 211, 3) := by decide +kernel
theorem dX11_time_29 : decode cX11_time 29 = .ok (.goto 5, 3) := by decide +kernel
theorem dX11_time_32 : decode cX11_time 32 = .ok (.bipush (-2), 2) := by decide +kernel
theorem dX11_time_34 : decode cX11_time 34 = .ok (.ireturn, 1) := by decide +kernel
noncomputable def vX11_time : List Cond := .code yX11_time cX11_time 3 (some .int) :: (([.methodLink RX11 129 yX11_isEave, .instanceMethod yX11_isEave, .selects RX11 yX11_isEave yX11_isEave, .initialized RX11, .methodLink RX11 121 yX11_isDay, .instanceMethod yX11_isDay, .selects RX11 yX11_isDay yX11_isDay, .fieldLink RX11 44 "IcicleClock" "winter" "LIcicleClock$Winter;", .fieldLink RX11 19 "IcicleClock" "now" "LIcicleClock$Street;", .methodLink RX11 211 yX10_timeAt, .instanceMethod yX10_timeAt, .selects RX10 yX10_timeAt yX10_timeAt, .initialized RX10] : List Cond) ++ (wsX110 ++ (vX11_isEave ++ (vX11_isDay ++ vX10_timeAt))))
theorem iX11_time_11 : ∀ w ∈ wsX110, w ∈ vX11_time := fun _ h => List.mem_cons_of_mem _ (List.mem_append_right _ (List.mem_append_left _ h))
theorem gs_X11_time : Gd vX11_time := Gd.cons (by decide +kernel) (Gd.app (Gd.r (by decide +kernel)) (Gd.app gwX_11 (Gd.app gs_X11_isEave (Gd.app gs_X11_isDay gs_X10_timeAt))))
theorem gg_X11_time_X11_isEave : GoodIn vX11_time (wsV RX11 129 RX11 yX11_isEave vX11_isEave) := goodIn_app (goodIn_r _ [1, 2, 3, 4] (by decide +kernel) (by decide +kernel)) (fun w h => ⟨List.mem_cons_of_mem _ (List.mem_append_right _ (List.mem_append_right _ (List.mem_append_left _ h))), gs_X11_isEave w h⟩)
theorem gg_X11_time_X11_isDay : GoodIn vX11_time (wsV RX11 121 RX11 yX11_isDay vX11_isDay) := goodIn_app (goodIn_r _ [5, 6, 7, 4] (by decide +kernel) (by decide +kernel)) (fun w h => ⟨List.mem_cons_of_mem _ (List.mem_append_right _ (List.mem_append_right _ (List.mem_append_right _ (List.mem_append_left _ h)))), gs_X11_isDay w h⟩)
theorem gg_X11_time_X10_timeAt : GoodIn vX11_time (wsV RX11 211 RX10 yX10_timeAt vX10_timeAt) := goodIn_app (goodIn_r _ [10, 11, 12, 13] (by decide +kernel) (by decide +kernel)) (fun w h => ⟨List.mem_cons_of_mem _ (List.mem_append_right _ (List.mem_append_right _ (List.mem_append_right _ (List.mem_append_right _ (h))))), gs_X10_timeAt w h⟩)
set_option maxHeartbeats 4000000 in
set_option maxRecDepth 100000 in
theorem s_X11_time (l : Launch) (D : va_G) (cs : Nat → ClassId) (ad : Nat → Nat) (kS : kSt) (K : sK) (hKO : KO K) (hj : wJ ad 218) (g : Nat → va_E) (hW : WF (shp ad K) ad cs g) (ev : Int32) (dy : Int32) : sI l yX11_time vX11_time { frames := 2, cells := 0, slots := 0, locals := 49 } D cs ad kS [.ref (ad 0), .int ev, .int dy] g (fun r g2 => g2 = g) := by
  refine Met.startS (cc := cX11_time) (maxL := 3) (ret := (some .int)) RX11 rfl (by decide) rfl (Nat.le_of_ble_eq_true rfl) ?_
  intro p e s m below meth c ls X Z hP hl
  have hx := X.1
  have hb := X.2.1
  have hS : va_S (wA ad 218) s.heap s.heap [] := va_S.rf
  have hA : ∀ i, i < 218 → wA ad 218 (ad i) := fun i h => ⟨i, h, rfl⟩
  have hl : lv_has ls 3 [(0, .ref (ad 0)), (1, .int ev), (2, .int dy)] := hl
  refine lv_aload_n hx hb dX11_time_0 rfl (lv_at hl 0 rfl) ?_
  refine lv_iload_n hx hb dX11_time_1 rfl (lv_at hl 1 rfl) ?_
  obtain ⟨fsc_4, hgc_4, hOc_4⟩ := hW.obj (i := 0) (by decide) (sh_0 ad K)
  refine s_calli (q := (RX11, TX11, 14)) (As := [.int ev]) (rest := []) X Z (s_X11_isEave l D cs ad kS K hKO hj g hW ev) (cwV 1 X.2.2.2.2.1 gg_X11_time_X11_isEave rfl rfl rfl (by decide +kernel) ⟨Nat.le_of_ble_eq_true rfl, Nat.le_of_ble_eq_true rfl⟩) (by decide) hgc_4 rfl hP hA hS.2.1 hS rfl hl.1 rfl (Nat.le_of_ble_eq_true rfl) dX11_time_2 ⟨Nat.le_of_ble_eq_true rfl, Nat.le_of_ble_eq_true rfl⟩ (fun r_3 g_2 H locs hw_1 hP hS => ?_)
  obtain ⟨hw_1g, hw_1⟩ := hw_1
  rw [hw_1g] at hP
  have HJ32 : ∀ (H : Heap) (locs : List Loc) (ls : Array Slot), va_P D vwCl (wL ad g 218) H → va_S (wA ad 218) s.heap H locs → lv_has ls 3 [] → W p l e ({ frames := 2, cells := 0, slots := 0, locals := 49 } : Room) s m ([.ref (ad 0), .int ev, .int dy] : List Value).toArray below meth c H locs 0 0 (MQ below (qI D ad 218 (fun r g2 => g2 = g)) ([.ref (ad 0), .int ev, .int dy] : List Value).toArray s 0 0 (wA ad 218)) (F0 m 32 ls []) := by
    intro H locs ls hP hS hl
    refine lv_bipush (v := (-2)) hx hb dX11_time_32 (by decide) ?_
    exact q_iret X hP hS rfl dX11_time_34
  refine lv_if_eq (tgt := 32) hx hb dX11_time_5 (by decide) (fun hc_5 => ?_) (fun hc_5 => ?_)
  · have hhc_5 := n_eq (rfl : r_3.toInt = r_3.toInt) (by decide : (0 : Int32).toInt = 0) hc_5
    exact HJ32 _ _ ls hP hS (lv_sub hl [] rfl)
  · have hhc_5 := n_ne (rfl : r_3.toInt = r_3.toInt) (by decide : (0 : Int32).toInt = 0) hc_5
    refine lv_aload_n hx hb dX11_time_8 rfl (lv_at hl 0 rfl) ?_
    refine lv_iload_n hx hb dX11_time_9 rfl (lv_at hl 2 rfl) ?_
    refine s_calli (q := (RX11, TX11, 14)) (As := [.int dy]) (rest := []) X Z (s_X11_isDay l D cs ad kS K hKO hj g hW dy) (cwV 1 X.2.2.2.2.1 gg_X11_time_X11_isDay rfl rfl rfl (by decide +kernel) ⟨Nat.le_of_ble_eq_true rfl, Nat.le_of_ble_eq_true rfl⟩) (by decide) hgc_4 rfl hP hA hS.2.1 hS rfl hl.1 rfl (Nat.le_of_ble_eq_true rfl) dX11_time_10 ⟨Nat.le_of_ble_eq_true rfl, Nat.le_of_ble_eq_true rfl⟩ (fun r_8 g_7 H locs hw_6 hP hS => ?_)
    obtain ⟨hw_6g, hw_6⟩ := hw_6
    rw [hw_6g] at hP
    refine lv_if_eq (tgt := 32) hx hb dX11_time_13 (by decide) (fun hc_9 => ?_) (fun hc_9 => ?_)
    · have hhc_9 := n_eq (rfl : r_8.toInt = r_8.toInt) (by decide : (0 : Int32).toInt = 0) hc_9
      exact HJ32 _ _ ls hP hS (lv_sub hl [] rfl)
    · have hhc_9 := n_ne (rfl : r_8.toInt = r_8.toInt) (by decide : (0 : Int32).toInt = 0) hc_9
      refine lv_aload_n hx hb dX11_time_16 rfl (lv_at hl 0 rfl) ?_
      have hk_10 := hOc_4.ref 6 rfl
      refine q_get X iX11_time_11 hP (by decide) hgc_4 rfl 6 (by decide) (List.mem_of_getElem? (i := 8) rfl) (v := .ref (ad 114)) hk_10 dX11_time_17 ?_
      refine lv_aload_n hx hb dX11_time_20 rfl (lv_at hl 0 rfl) ?_
      have hk_11 := hOc_4.ref 1 rfl
      refine q_get X iX11_time_11 hP (by decide) hgc_4 rfl 1 (by decide) (List.mem_of_getElem? (i := 9) rfl) (v := .ref (ad 3)) hk_11 dX11_time_21 ?_
      refine lv_iload_n hx hb dX11_time_24 rfl (lv_at hl 1 rfl) ?_
      refine lv_iload_n hx hb dX11_time_25 rfl (lv_at hl 2 rfl) ?_
      obtain ⟨fsc_15, hgc_15, hOc_15⟩ := hW.obj (i := 114) (by decide) (sh_114 ad K)
      refine s_calli (q := (RX10, TX10, 4)) (As := [.ref (ad 3), .int ev, .int dy]) (rest := []) X Z (s_X10_timeAt l D cs ad kS K hKO hj g hW 114 ev dy (by omega)) (cwV 3 X.2.2.2.2.1 gg_X11_time_X10_timeAt rfl rfl rfl (by decide +kernel) ⟨Nat.le_of_ble_eq_true rfl, Nat.le_of_ble_eq_true rfl⟩) (by decide) hgc_15 rfl hP hA hS.2.1 hS rfl hl.1 rfl (Nat.le_of_ble_eq_true rfl) dX11_time_26 ⟨Nat.le_of_ble_eq_true rfl, Nat.le_of_ble_eq_true rfl⟩ (fun r_14 g_13 H locs hw_12 hP hS => ?_)
      rw [hw_12] at hP
      refine lv_goto (tgt := 34) hx hb dX11_time_29 (by decide) ?_
      exact q_iret X hP hS rfl dX11_time_34

theorem dX11_hour_0 : decode cX11_hour 0 = .ok (.aload_n 0, 1) := by decide +kernel
theorem dX11_hour_1 : decode cX11_hour 1 = .ok (.iload_n 1, 1) := by decide +kernel
theorem dX11_hour_2 : decode cX11_hour 2 = .ok (.invokevirtual 121, 3) := by decide +kernel
theorem dX11_hour_5 : decode cX11_hour 5 = .ok (.ifCond .eq 19, 3) := by decide +kernel
theorem dX11_hour_8 : decode cX11_hour 8 = .ok (.aload_n 0, 1) := by decide +kernel
theorem dX11_hour_9 : decode cX11_hour 9 = .ok (.getfield 44, 3) := by decide +kernel
theorem dX11_hour_12 : decode cX11_hour 12 = .ok (.aload_n 0, 1) := by decide +kernel
theorem dX11_hour_13 : decode cX11_hour 13 = .ok (.getfield 19, 3) := by decide +kernel
theorem dX11_hour_16 : decode cX11_hour 16 = .ok (.iconst (-1), 1) := by decide +kernel
theorem dX11_hour_17 : decode cX11_hour 17 = .ok (.iload_n 1, 1) := by decide +kernel
theorem dX11_hour_18 : decode cX11_hour 18 = .ok (.invokevirtual 211, 3) := by decide +kernel
theorem dX11_hour_21 : decode cX11_hour 21 = .ok (.goto 5, 3) := by decide +kernel
theorem dX11_hour_24 : decode cX11_hour 24 = .ok (.bipush (-2), 2) := by decide +kernel
theorem dX11_hour_26 : decode cX11_hour 26 = .ok (.ireturn, 1) := by decide +kernel
noncomputable def vX11_hour : List Cond := .code yX11_hour cX11_hour 2 (some .int) :: (([.methodLink RX11 121 yX11_isDay, .instanceMethod yX11_isDay, .selects RX11 yX11_isDay yX11_isDay, .initialized RX11, .fieldLink RX11 44 "IcicleClock" "winter" "LIcicleClock$Winter;", .fieldLink RX11 19 "IcicleClock" "now" "LIcicleClock$Street;", .methodLink RX11 211 yX10_timeAt, .instanceMethod yX10_timeAt, .selects RX10 yX10_timeAt yX10_timeAt, .initialized RX10] : List Cond) ++ (wsX110 ++ (vX11_isDay ++ vX10_timeAt)))
theorem iX11_hour_11 : ∀ w ∈ wsX110, w ∈ vX11_hour := fun _ h => List.mem_cons_of_mem _ (List.mem_append_right _ (List.mem_append_left _ h))
theorem gs_X11_hour : Gd vX11_hour := Gd.cons (by decide +kernel) (Gd.app (Gd.r (by decide +kernel)) (Gd.app gwX_11 (Gd.app gs_X11_isDay gs_X10_timeAt)))
theorem gg_X11_hour_X11_isDay : GoodIn vX11_hour (wsV RX11 121 RX11 yX11_isDay vX11_isDay) := goodIn_app (goodIn_r _ [1, 2, 3, 4] (by decide +kernel) (by decide +kernel)) (fun w h => ⟨List.mem_cons_of_mem _ (List.mem_append_right _ (List.mem_append_right _ (List.mem_append_left _ h))), gs_X11_isDay w h⟩)
theorem gg_X11_hour_X10_timeAt : GoodIn vX11_hour (wsV RX11 211 RX10 yX10_timeAt vX10_timeAt) := goodIn_app (goodIn_r _ [7, 8, 9, 10] (by decide +kernel) (by decide +kernel)) (fun w h => ⟨List.mem_cons_of_mem _ (List.mem_append_right _ (List.mem_append_right _ (List.mem_append_right _ (h)))), gs_X10_timeAt w h⟩)
set_option maxHeartbeats 4000000 in
set_option maxRecDepth 100000 in
theorem s_X11_hour (l : Launch) (D : va_G) (cs : Nat → ClassId) (ad : Nat → Nat) (kS : kSt) (K : sK) (hKO : KO K) (hj : wJ ad 218) (g : Nat → va_E) (hW : WF (shp ad K) ad cs g) (dy : Int32) : sI l yX11_hour vX11_hour { frames := 2, cells := 0, slots := 0, locals := 49 } D cs ad kS [.ref (ad 0), .int dy] g (fun r g2 => g2 = g) := by
  refine Met.startS (cc := cX11_hour) (maxL := 2) (ret := (some .int)) RX11 rfl (by decide) rfl (Nat.le_of_ble_eq_true rfl) ?_
  intro p e s m below meth c ls X Z hP hl
  have hx := X.1
  have hb := X.2.1
  have hS : va_S (wA ad 218) s.heap s.heap [] := va_S.rf
  have hA : ∀ i, i < 218 → wA ad 218 (ad i) := fun i h => ⟨i, h, rfl⟩
  have hl : lv_has ls 2 [(0, .ref (ad 0)), (1, .int dy)] := hl
  refine lv_aload_n hx hb dX11_hour_0 rfl (lv_at hl 0 rfl) ?_
  refine lv_iload_n hx hb dX11_hour_1 rfl (lv_at hl 1 rfl) ?_
  obtain ⟨fsc_4, hgc_4, hOc_4⟩ := hW.obj (i := 0) (by decide) (sh_0 ad K)
  refine s_calli (q := (RX11, TX11, 14)) (As := [.int dy]) (rest := []) X Z (s_X11_isDay l D cs ad kS K hKO hj g hW dy) (cwV 1 X.2.2.2.2.1 gg_X11_hour_X11_isDay rfl rfl rfl (by decide +kernel) ⟨Nat.le_of_ble_eq_true rfl, Nat.le_of_ble_eq_true rfl⟩) (by decide) hgc_4 rfl hP hA hS.2.1 hS rfl hl.1 rfl (Nat.le_of_ble_eq_true rfl) dX11_hour_2 ⟨Nat.le_of_ble_eq_true rfl, Nat.le_of_ble_eq_true rfl⟩ (fun r_3 g_2 H locs hw_1 hP hS => ?_)
  obtain ⟨hw_1g, hw_1⟩ := hw_1
  rw [hw_1g] at hP
  refine lv_if_eq (tgt := 24) hx hb dX11_hour_5 (by decide) (fun hc_5 => ?_) (fun hc_5 => ?_)
  · have hhc_5 := n_eq (rfl : r_3.toInt = r_3.toInt) (by decide : (0 : Int32).toInt = 0) hc_5
    refine lv_bipush (v := (-2)) hx hb dX11_hour_24 (by decide) ?_
    exact q_iret X hP hS rfl dX11_hour_26
  · have hhc_5 := n_ne (rfl : r_3.toInt = r_3.toInt) (by decide : (0 : Int32).toInt = 0) hc_5
    refine lv_aload_n hx hb dX11_hour_8 rfl (lv_at hl 0 rfl) ?_
    have hk_6 := hOc_4.ref 6 rfl
    refine q_get X iX11_hour_11 hP (by decide) hgc_4 rfl 6 (by decide) (List.mem_of_getElem? (i := 5) rfl) (v := .ref (ad 114)) hk_6 dX11_hour_9 ?_
    refine lv_aload_n hx hb dX11_hour_12 rfl (lv_at hl 0 rfl) ?_
    have hk_7 := hOc_4.ref 1 rfl
    refine q_get X iX11_hour_11 hP (by decide) hgc_4 rfl 1 (by decide) (List.mem_of_getElem? (i := 6) rfl) (v := .ref (ad 3)) hk_7 dX11_hour_13 ?_
    refine lv_iconst (v := (-1)) hx hb dX11_hour_16 (by decide) ?_
    refine lv_iload_n hx hb dX11_hour_17 rfl (lv_at hl 1 rfl) ?_
    obtain ⟨fsc_11, hgc_11, hOc_11⟩ := hW.obj (i := 114) (by decide) (sh_114 ad K)
    refine s_calli (q := (RX10, TX10, 4)) (As := [.ref (ad 3), .int (-1), .int dy]) (rest := []) X Z (s_X10_timeAt l D cs ad kS K hKO hj g hW 114 (-1) dy (by omega)) (cwV 3 X.2.2.2.2.1 gg_X11_hour_X10_timeAt rfl rfl rfl (by decide +kernel) ⟨Nat.le_of_ble_eq_true rfl, Nat.le_of_ble_eq_true rfl⟩) (by decide) hgc_11 rfl hP hA hS.2.1 hS rfl hl.1 rfl (Nat.le_of_ble_eq_true rfl) dX11_hour_18 ⟨Nat.le_of_ble_eq_true rfl, Nat.le_of_ble_eq_true rfl⟩ (fun r_10 g_9 H locs hw_8 hP hS => ?_)
    rw [hw_8] at hP
    refine lv_goto (tgt := 26) hx hb dX11_hour_21 (by decide) ?_
    exact q_iret X hP hS rfl dX11_hour_26

theorem dX11_meet_0 : decode cX11_meet 0 = .ok (.aload_n 0, 1) := by decide +kernel
theorem dX11_meet_1 : decode cX11_meet 1 = .ok (.iload_n 1, 1) := by decide +kernel
theorem dX11_meet_2 : decode cX11_meet 2 = .ok (.invokevirtual 129, 3) := by decide +kernel
theorem dX11_meet_5 : decode cX11_meet 5 = .ok (.ifCond .eq 27, 3) := by decide +kernel
theorem dX11_meet_8 : decode cX11_meet 8 = .ok (.aload_n 0, 1) := by decide +kernel
theorem dX11_meet_9 : decode cX11_meet 9 = .ok (.iload_n 2, 1) := by decide +kernel
theorem dX11_meet_10 : decode cX11_meet 10 = .ok (.invokevirtual 129, 3) := by decide +kernel
theorem dX11_meet_13 : decode cX11_meet 13 = .ok (.ifCond .eq 19, 3) := by decide +kernel
theorem dX11_meet_16 : decode cX11_meet 16 = .ok (.aload_n 0, 1) := by decide +kernel
theorem dX11_meet_17 : decode cX11_meet 17 = .ok (.getfield 44, 3) := by decide +kernel
theorem dX11_meet_20 : decode cX11_meet 20 = .ok (.aload_n 0, 1) := by decide +kernel
theorem dX11_meet_21 : decode cX11_meet 21 = .ok (.getfield 19, 3) := by decide +kernel
theorem dX11_meet_24 : decode cX11_meet 24 = .ok (.iload_n 1, 1) := by decide +kernel
theorem dX11_meet_25 : decode cX11_meet 25 = .ok (.iload_n 2, 1) := by decide +kernel
theorem dX11_meet_26 : decode cX11_meet 26 = .ok (.invokevirtual 214, 3) := by decide +kernel
theorem dX11_meet_29 : decode cX11_meet 29 = .ok (.goto 5, 3) := by decide +kernel
theorem dX11_meet_32 : decode cX11_meet 32 = .ok (.bipush (-2), 2) := by decide +kernel
theorem dX11_meet_34 : decode cX11_meet 34 = .ok (.ireturn, 1) := by decide +kernel
noncomputable def vX11_meet : List Cond := .code yX11_meet cX11_meet 3 (some .int) :: (([.methodLink RX11 129 yX11_isEave, .instanceMethod yX11_isEave, .selects RX11 yX11_isEave yX11_isEave, .initialized RX11, .fieldLink RX11 44 "IcicleClock" "winter" "LIcicleClock$Winter;", .fieldLink RX11 19 "IcicleClock" "now" "LIcicleClock$Street;", .methodLink RX11 214 yX10_daysOfOneTime, .instanceMethod yX10_daysOfOneTime, .selects RX10 yX10_daysOfOneTime yX10_daysOfOneTime, .initialized RX10] : List Cond) ++ (wsX110 ++ (vX11_isEave ++ vX10_daysOfOneTime)))
theorem iX11_meet_11 : ∀ w ∈ wsX110, w ∈ vX11_meet := fun _ h => List.mem_cons_of_mem _ (List.mem_append_right _ (List.mem_append_left _ h))
theorem gs_X11_meet : Gd vX11_meet := Gd.cons (by decide +kernel) (Gd.app (Gd.r (by decide +kernel)) (Gd.app gwX_11 (Gd.app gs_X11_isEave gs_X10_daysOfOneTime)))
theorem gg_X11_meet_X11_isEave : GoodIn vX11_meet (wsV RX11 129 RX11 yX11_isEave vX11_isEave) := goodIn_app (goodIn_r _ [1, 2, 3, 4] (by decide +kernel) (by decide +kernel)) (fun w h => ⟨List.mem_cons_of_mem _ (List.mem_append_right _ (List.mem_append_right _ (List.mem_append_left _ h))), gs_X11_isEave w h⟩)
theorem gg_X11_meet_X10_daysOfOneTime : GoodIn vX11_meet (wsV RX11 214 RX10 yX10_daysOfOneTime vX10_daysOfOneTime) := goodIn_app (goodIn_r _ [7, 8, 9, 10] (by decide +kernel) (by decide +kernel)) (fun w h => ⟨List.mem_cons_of_mem _ (List.mem_append_right _ (List.mem_append_right _ (List.mem_append_right _ (h)))), gs_X10_daysOfOneTime w h⟩)
set_option maxHeartbeats 4000000 in
set_option maxRecDepth 100000 in
theorem s_X11_meet (l : Launch) (D : va_G) (cs : Nat → ClassId) (ad : Nat → Nat) (kS : kSt) (K : sK) (hKO : KO K) (hj : wJ ad 218) (g : Nat → va_E) (hW : WF (shp ad K) ad cs g) (ev : Int32) (eo : Int32) : sI l yX11_meet vX11_meet { frames := 3, cells := 0, slots := 0, locals := 75 } D cs ad kS [.ref (ad 0), .int ev, .int eo] g (fun r g2 => g2 = g) := by
  refine Met.startS (cc := cX11_meet) (maxL := 3) (ret := (some .int)) RX11 rfl (by decide) rfl (Nat.le_of_ble_eq_true rfl) ?_
  intro p e s m below meth c ls X Z hP hl
  have hx := X.1
  have hb := X.2.1
  have hS : va_S (wA ad 218) s.heap s.heap [] := va_S.rf
  have hA : ∀ i, i < 218 → wA ad 218 (ad i) := fun i h => ⟨i, h, rfl⟩
  have hl : lv_has ls 3 [(0, .ref (ad 0)), (1, .int ev), (2, .int eo)] := hl
  refine lv_aload_n hx hb dX11_meet_0 rfl (lv_at hl 0 rfl) ?_
  refine lv_iload_n hx hb dX11_meet_1 rfl (lv_at hl 1 rfl) ?_
  obtain ⟨fsc_4, hgc_4, hOc_4⟩ := hW.obj (i := 0) (by decide) (sh_0 ad K)
  refine s_calli (q := (RX11, TX11, 14)) (As := [.int ev]) (rest := []) X Z (s_X11_isEave l D cs ad kS K hKO hj g hW ev) (cwV 1 X.2.2.2.2.1 gg_X11_meet_X11_isEave rfl rfl rfl (by decide +kernel) ⟨Nat.le_of_ble_eq_true rfl, Nat.le_of_ble_eq_true rfl⟩) (by decide) hgc_4 rfl hP hA hS.2.1 hS rfl hl.1 rfl (Nat.le_of_ble_eq_true rfl) dX11_meet_2 ⟨Nat.le_of_ble_eq_true rfl, Nat.le_of_ble_eq_true rfl⟩ (fun r_3 g_2 H locs hw_1 hP hS => ?_)
  obtain ⟨hw_1g, hw_1⟩ := hw_1
  rw [hw_1g] at hP
  have HJ32 : ∀ (H : Heap) (locs : List Loc) (ls : Array Slot), va_P D vwCl (wL ad g 218) H → va_S (wA ad 218) s.heap H locs → lv_has ls 3 [] → W p l e ({ frames := 3, cells := 0, slots := 0, locals := 75 } : Room) s m ([.ref (ad 0), .int ev, .int eo] : List Value).toArray below meth c H locs 0 0 (MQ below (qI D ad 218 (fun r g2 => g2 = g)) ([.ref (ad 0), .int ev, .int eo] : List Value).toArray s 0 0 (wA ad 218)) (F0 m 32 ls []) := by
    intro H locs ls hP hS hl
    refine lv_bipush (v := (-2)) hx hb dX11_meet_32 (by decide) ?_
    exact q_iret X hP hS rfl dX11_meet_34
  refine lv_if_eq (tgt := 32) hx hb dX11_meet_5 (by decide) (fun hc_5 => ?_) (fun hc_5 => ?_)
  · have hhc_5 := n_eq (rfl : r_3.toInt = r_3.toInt) (by decide : (0 : Int32).toInt = 0) hc_5
    exact HJ32 _ _ ls hP hS (lv_sub hl [] rfl)
  · have hhc_5 := n_ne (rfl : r_3.toInt = r_3.toInt) (by decide : (0 : Int32).toInt = 0) hc_5
    refine lv_aload_n hx hb dX11_meet_8 rfl (lv_at hl 0 rfl) ?_
    refine lv_iload_n hx hb dX11_meet_9 rfl (lv_at hl 2 rfl) ?_
    refine s_calli (q := (RX11, TX11, 14)) (As := [.int eo]) (rest := []) X Z (s_X11_isEave l D cs ad kS K hKO hj g hW eo) (cwV 1 X.2.2.2.2.1 gg_X11_meet_X11_isEave rfl rfl rfl (by decide +kernel) ⟨Nat.le_of_ble_eq_true rfl, Nat.le_of_ble_eq_true rfl⟩) (by decide) hgc_4 rfl hP hA hS.2.1 hS rfl hl.1 rfl (Nat.le_of_ble_eq_true rfl) dX11_meet_10 ⟨Nat.le_of_ble_eq_true rfl, Nat.le_of_ble_eq_true rfl⟩ (fun r_8 g_7 H locs hw_6 hP hS => ?_)
    obtain ⟨hw_6g, hw_6⟩ := hw_6
    rw [hw_6g] at hP
    refine lv_if_eq (tgt := 32) hx hb dX11_meet_13 (by decide) (fun hc_9 => ?_) (fun hc_9 => ?_)
    · have hhc_9 := n_eq (rfl : r_8.toInt = r_8.toInt) (by decide : (0 : Int32).toInt = 0) hc_9
      exact HJ32 _ _ ls hP hS (lv_sub hl [] rfl)
    · have hhc_9 := n_ne (rfl : r_8.toInt = r_8.toInt) (by decide : (0 : Int32).toInt = 0) hc_9
      refine lv_aload_n hx hb dX11_meet_16 rfl (lv_at hl 0 rfl) ?_
      have hk_10 := hOc_4.ref 6 rfl
      refine q_get X iX11_meet_11 hP (by decide) hgc_4 rfl 6 (by decide) (List.mem_of_getElem? (i := 5) rfl) (v := .ref (ad 114)) hk_10 dX11_meet_17 ?_
      refine lv_aload_n hx hb dX11_meet_20 rfl (lv_at hl 0 rfl) ?_
      have hk_11 := hOc_4.ref 1 rfl
      refine q_get X iX11_meet_11 hP (by decide) hgc_4 rfl 1 (by decide) (List.mem_of_getElem? (i := 6) rfl) (v := .ref (ad 3)) hk_11 dX11_meet_21 ?_
      refine lv_iload_n hx hb dX11_meet_24 rfl (lv_at hl 1 rfl) ?_
      refine lv_iload_n hx hb dX11_meet_25 rfl (lv_at hl 2 rfl) ?_
      obtain ⟨fsc_15, hgc_15, hOc_15⟩ := hW.obj (i := 114) (by decide) (sh_114 ad K)
      refine s_calli (q := (RX10, TX10, 4)) (As := [.ref (ad 3), .int ev, .int eo]) (rest := []) X Z (s_X10_daysOfOneTime l D cs ad kS K hKO hj g hW 114 ev eo (by omega)) (cwV 3 X.2.2.2.2.1 gg_X11_meet_X10_daysOfOneTime rfl rfl rfl (by decide +kernel) ⟨Nat.le_of_ble_eq_true rfl, Nat.le_of_ble_eq_true rfl⟩) (by decide) hgc_15 rfl hP hA hS.2.1 hS rfl hl.1 rfl (Nat.le_of_ble_eq_true rfl) dX11_meet_26 ⟨Nat.le_of_ble_eq_true rfl, Nat.le_of_ble_eq_true rfl⟩ (fun r_14 g_13 H locs hw_12 hP hS => ?_)
      rw [hw_12] at hP
      refine lv_goto (tgt := 34) hx hb dX11_meet_29 (by decide) ?_
      exact q_iret X hP hS rfl dX11_meet_34

theorem dX11_apart_0 : decode cX11_apart 0 = .ok (.aload_n 0, 1) := by decide +kernel
theorem dX11_apart_1 : decode cX11_apart 1 = .ok (.iload_n 1, 1) := by decide +kernel
theorem dX11_apart_2 : decode cX11_apart 2 = .ok (.invokevirtual 129, 3) := by decide +kernel
theorem dX11_apart_5 : decode cX11_apart 5 = .ok (.ifCond .eq 11, 3) := by decide +kernel
theorem dX11_apart_8 : decode cX11_apart 8 = .ok (.aload_n 0, 1) := by decide +kernel
theorem dX11_apart_9 : decode cX11_apart 9 = .ok (.iload_n 2, 1) := by decide +kernel
theorem dX11_apart_10 : decode cX11_apart 10 = .ok (.invokevirtual 129, 3) := by decide +kernel
theorem dX11_apart_13 : decode cX11_apart 13 = .ok (.ifCond .ne 6, 3) := by decide +kernel
theorem dX11_apart_19 : decode cX11_apart 19 = .ok (.iconst (-1), 1) := by decide +kernel
theorem dX11_apart_20 : decode cX11_apart 20 = .ok (.istore_n 3, 1) := by decide +kernel
theorem dX11_apart_21 : decode cX11_apart 21 = .ok (.iconst 0, 1) := by decide +kernel
theorem dX11_apart_22 : decode cX11_apart 22 = .ok (.istore 4, 2) := by decide +kernel
theorem dX11_apart_24 : decode cX11_apart 24 = .ok (.iload 4, 2) := by decide +kernel
theorem dX11_apart_26 : decode cX11_apart 26 = .ok (.aload_n 0, 1) := by decide +kernel
theorem dX11_apart_27 : decode cX11_apart 27 = .ok (.getfield 19, 3) := by decide +kernel
theorem dX11_apart_30 : decode cX11_apart 30 = .ok (.getfield 177, 3) := by decide +kernel
theorem dX11_apart_33 : decode cX11_apart 33 = .ok (.if_icmp .ge 78, 3) := by decide +kernel
theorem dX11_apart_36 : decode cX11_apart 36 = .ok (.aload_n 0, 1) := by decide +kernel
theorem dX11_apart_37 : decode cX11_apart 37 = .ok (.getfield 44, 3) := by decide +kernel
theorem dX11_apart_40 : decode cX11_apart 40 = .ok (.aload_n 0, 1) := by decide +kernel
theorem dX11_apart_41 : decode cX11_apart 41 = .ok (.getfield 19, 3) := by decide +kernel
theorem dX11_apart_44 : decode cX11_apart 44 = .ok (.iload_n 1, 1) := by decide +kernel
theorem dX11_apart_45 : decode cX11_apart 45 = .ok (.iload 4, 2) := by decide +kernel
theorem dX11_apart_47 : decode cX11_apart 47 = .ok (.invokevirtual 211, 3) := by decide +kernel
theorem dX11_apart_50 : decode cX11_apart 50 = .ok (.istore 5, 2) := by decide +kernel
theorem dX11_apart_52 : decode cX11_apart 52 = .ok (.aload_n 0, 1) := by decide +kernel
theorem dX11_apart_53 : decode cX11_apart 53 = .ok (.getfield 44, 3) := by decide +kernel
theorem dX11_apart_56 : decode cX11_apart 56 = .ok (.aload_n 0, 1) := by decide +kernel
theorem dX11_apart_57 : decode cX11_apart 57 = .ok (.getfield 19, 3) := by decide +kernel
theorem dX11_apart_60 : decode cX11_apart 60 = .ok (.iload_n 2, 1) := by decide +kernel
theorem dX11_apart_61 : decode cX11_apart 61 = .ok (.iload 4, 2) := by decide +kernel
theorem dX11_apart_63 : decode cX11_apart 63 = .ok (.invokevirtual 211, 3) := by decide +kernel
theorem dX11_apart_66 : decode cX11_apart 66 = .ok (.istore 6, 2) := by decide +kernel
theorem dX11_apart_68 : decode cX11_apart 68 = .ok (.iload 5, 2) := by decide +kernel
theorem dX11_apart_70 : decode cX11_apart 70 = .ok (.iconst (-1), 1) := by decide +kernel
theorem dX11_apart_71 : decode cX11_apart 71 = .ok (.if_icmp .eq 34, 3) := by decide +kernel
theorem dX11_apart_74 : decode cX11_apart 74 = .ok (.iload 6, 2) := by decide +kernel
theorem dX11_apart_76 : decode cX11_apart 76 = .ok (.iconst (-1), 1) := by decide +kernel
theorem dX11_apart_77 : decode cX11_apart 77 = .ok (.if_icmp .eq 28, 3) := by decide +kernel
theorem dX11_apart_80 : decode cX11_apart 80 = .ok (.iload 5, 2) := by decide +kernel
theorem dX11_apart_82 : decode cX11_apart 82 = .ok (.iload 6, 2) := by decide +kernel
theorem dX11_apart_84 : decode cX11_apart 84 = .ok (.isub, 1) := by decide +kernel
theorem dX11_apart_85 : decode cX11_apart 85 = .ok (.invokestatic 217, 3) := by decide +kernel
theorem dX11_apart_88 : decode cX11_apart 88 = .ok (.istore 7, 2) := by decide +kernel
theorem dX11_apart_90 : decode cX11_apart 90 = .ok (.iload_n 3, 1) := by decide +kernel
theorem dX11_apart_91 : decode cX11_apart 91 = .ok (.iload 7, 2) := by decide +kernel
theorem dX11_apart_93 : decode cX11_apart 93 = .ok (.bipush 24, 2) := by decide +kernel
theorem dX11_apart_95 : decode cX11_apart 95 = .ok (.iload 7, 2) := by decide +kernel
theorem dX11_apart_97 : decode cX11_apart 97 = .ok (.isub, 1) := by decide +kernel
theorem dX11_apart_98 : decode cX11_apart 98 = .ok (.invokestatic 220, 3) := by decide +kernel
theorem dX11_apart_101 : decode cX11_apart 101 = .ok (.invokestatic 183, 3) := by decide +kernel
theorem dX11_apart_104 : decode cX11_apart 104 = .ok (.istore_n 3, 1) := by decide +kernel
theorem dX11_apart_105 : decode cX11_apart 105 = .ok (.iinc 4 1, 3) := by decide +kernel
theorem dX11_apart_108 : decode cX11_apart 108 = .ok (.goto (-84), 3) := by decide +kernel
theorem dX11_apart_111 : decode cX11_apart 111 = .ok (.iload_n 3, 1) := by decide +kernel
theorem dX11_apart_112 : decode cX11_apart 112 = .ok (.ireturn, 1) := by decide +kernel
theorem dX11_apart_16 : decode cX11_apart 16 = .ok (.bipush (-2), 2) := by decide +kernel
theorem dX11_apart_18 : decode cX11_apart 18 = .ok (.ireturn, 1) := by decide +kernel
noncomputable def vX11_apart : List Cond := .code yX11_apart cX11_apart 8 (some .int) :: (([.methodLink RX11 129 yX11_isEave, .instanceMethod yX11_isEave, .selects RX11 yX11_isEave yX11_isEave, .initialized RX11, .fieldLink RX11 19 "IcicleClock" "now" "LIcicleClock$Street;", .fieldLink RX11 177 "IcicleClock$Street" "days" "I", .fieldLink RX11 44 "IcicleClock" "winter" "LIcicleClock$Winter;", .methodLink RX11 211 yX10_timeAt, .instanceMethod yX10_timeAt, .selects RX10 yX10_timeAt yX10_timeAt, .initialized RX10, .methodLink RX11 217 Lib.Math.abs.name, .static Lib.Math.abs.name, .initialized "java/lang/Math", .code Lib.Math.abs.name Lib.Math.abs.code 1 (some .int), .methodLink RX11 220 Lib.Math.min.name, .static Lib.Math.min.name, .code Lib.Math.min.name Lib.Math.min.code 2 (some .int), .methodLink RX11 183 Lib.Math.max.name, .static Lib.Math.max.name, .code Lib.Math.max.name Lib.Math.max.code 2 (some .int)] : List Cond) ++ (wsX110 ++ (wsX60 ++ (vX11_isEave ++ vX10_timeAt))))
theorem iX11_apart_11 : ∀ w ∈ wsX110, w ∈ vX11_apart := fun _ h => List.mem_cons_of_mem _ (List.mem_append_right _ (List.mem_append_left _ h))
theorem iX11_apart_6 : ∀ w ∈ wsX60, w ∈ vX11_apart := fun _ h => List.mem_cons_of_mem _ (List.mem_append_right _ (List.mem_append_right _ (List.mem_append_left _ h)))
theorem gs_X11_apart : Gd vX11_apart := Gd.cons (by decide +kernel) (Gd.app (Gd.r (by decide +kernel)) (Gd.app gwX_11 (Gd.app gwX_6 (Gd.app gs_X11_isEave gs_X10_timeAt))))
theorem gg_X11_apart_X11_isEave : GoodIn vX11_apart (wsV RX11 129 RX11 yX11_isEave vX11_isEave) := goodIn_app (goodIn_r _ [1, 2, 3, 4] (by decide +kernel) (by decide +kernel)) (fun w h => ⟨List.mem_cons_of_mem _ (List.mem_append_right _ (List.mem_append_right _ (List.mem_append_right _ (List.mem_append_left _ h)))), gs_X11_isEave w h⟩)
theorem gg_X11_apart_X10_timeAt : GoodIn vX11_apart (wsV RX11 211 RX10 yX10_timeAt vX10_timeAt) := goodIn_app (goodIn_r _ [8, 9, 10, 11] (by decide +kernel) (by decide +kernel)) (fun w h => ⟨List.mem_cons_of_mem _ (List.mem_append_right _ (List.mem_append_right _ (List.mem_append_right _ (List.mem_append_right _ (h))))), gs_X10_timeAt w h⟩)
set_option maxHeartbeats 4000000 in
set_option maxRecDepth 100000 in
theorem s_X11_apart (l : Launch) (D : va_G) (cs : Nat → ClassId) (ad : Nat → Nat) (kS : kSt) (K : sK) (hKO : KO K) (hj : wJ ad 218) (g : Nat → va_E) (hW : WF (shp ad K) ad cs g) (ev : Int32) (eo : Int32) : sI l yX11_apart vX11_apart { frames := 2, cells := 0, slots := 0, locals := 49 } D cs ad kS [.ref (ad 0), .int ev, .int eo] g (fun r g2 => g2 = g) := by
  refine Met.startS (cc := cX11_apart) (maxL := 8) (ret := (some .int)) RX11 rfl (by decide) rfl (Nat.le_of_ble_eq_true rfl) ?_
  intro p e s m below meth c ls X Z hP hl
  have hx := X.1
  have hb := X.2.1
  have hS : va_S (wA ad 218) s.heap s.heap [] := va_S.rf
  have hA : ∀ i, i < 218 → wA ad 218 (ad i) := fun i h => ⟨i, h, rfl⟩
  have hl : lv_has ls 8 [(0, .ref (ad 0)), (1, .int ev), (2, .int eo)] := hl
  refine lv_aload_n hx hb dX11_apart_0 rfl (lv_at hl 0 rfl) ?_
  refine lv_iload_n hx hb dX11_apart_1 rfl (lv_at hl 1 rfl) ?_
  obtain ⟨fsc_4, hgc_4, hOc_4⟩ := hW.obj (i := 0) (by decide) (sh_0 ad K)
  refine s_calli (q := (RX11, TX11, 14)) (As := [.int ev]) (rest := []) X Z (s_X11_isEave l D cs ad kS K hKO hj g hW ev) (cwV 1 X.2.2.2.2.1 gg_X11_apart_X11_isEave rfl rfl rfl (by decide +kernel) ⟨Nat.le_of_ble_eq_true rfl, Nat.le_of_ble_eq_true rfl⟩) (by decide) hgc_4 rfl hP hA hS.2.1 hS rfl hl.1 rfl (Nat.le_of_ble_eq_true rfl) dX11_apart_2 ⟨Nat.le_of_ble_eq_true rfl, Nat.le_of_ble_eq_true rfl⟩ (fun r_3 g_2 H locs hw_1 hP hS => ?_)
  obtain ⟨hw_1g, hw_1⟩ := hw_1
  rw [hw_1g] at hP
  have HJ16 : ∀ (H : Heap) (locs : List Loc) (ls : Array Slot), va_P D vwCl (wL ad g 218) H → va_S (wA ad 218) s.heap H locs → lv_has ls 8 [] → W p l e ({ frames := 2, cells := 0, slots := 0, locals := 49 } : Room) s m ([.ref (ad 0), .int ev, .int eo] : List Value).toArray below meth c H locs 0 0 (MQ below (qI D ad 218 (fun r g2 => g2 = g)) ([.ref (ad 0), .int ev, .int eo] : List Value).toArray s 0 0 (wA ad 218)) (F0 m 16 ls []) := by
    intro H locs ls hP hS hl
    refine lv_bipush (v := (-2)) hx hb dX11_apart_16 (by decide) ?_
    exact q_iret X hP hS rfl dX11_apart_18
  refine lv_if_eq (tgt := 16) hx hb dX11_apart_5 (by decide) (fun hc_5 => ?_) (fun hc_5 => ?_)
  · have hhc_5 := n_eq (rfl : r_3.toInt = r_3.toInt) (by decide : (0 : Int32).toInt = 0) hc_5
    exact HJ16 _ _ ls hP hS (lv_sub hl [] rfl)
  · have hhc_5 := n_ne (rfl : r_3.toInt = r_3.toInt) (by decide : (0 : Int32).toInt = 0) hc_5
    refine lv_aload_n hx hb dX11_apart_8 rfl (lv_at hl 0 rfl) ?_
    refine lv_iload_n hx hb dX11_apart_9 rfl (lv_at hl 2 rfl) ?_
    refine s_calli (q := (RX11, TX11, 14)) (As := [.int eo]) (rest := []) X Z (s_X11_isEave l D cs ad kS K hKO hj g hW eo) (cwV 1 X.2.2.2.2.1 gg_X11_apart_X11_isEave rfl rfl rfl (by decide +kernel) ⟨Nat.le_of_ble_eq_true rfl, Nat.le_of_ble_eq_true rfl⟩) (by decide) hgc_4 rfl hP hA hS.2.1 hS rfl hl.1 rfl (Nat.le_of_ble_eq_true rfl) dX11_apart_10 ⟨Nat.le_of_ble_eq_true rfl, Nat.le_of_ble_eq_true rfl⟩ (fun r_8 g_7 H locs hw_6 hP hS => ?_)
    obtain ⟨hw_6g, hw_6⟩ := hw_6
    rw [hw_6g] at hP
    refine lv_if_ne (tgt := 19) hx hb dX11_apart_13 (by decide) (fun hc_9 => ?_) (fun hc_9 => ?_)
    · have hhc_9 := n_ne (rfl : r_8.toInt = r_8.toInt) (by decide : (0 : Int32).toInt = 0) hc_9
      refine lv_iconst (v := (-1)) hx hb dX11_apart_19 (by decide) ?_
      refine lv_istore_n (lv' := [(3, .int (-1)), (0, .ref (ad 0)), (1, .int ev), (2, .int eo)]) hx hb dX11_apart_20 rfl hl (by decide) rfl (fun ls hl => ?_)
      refine lv_iconst (v := 0) hx hb dX11_apart_21 (by decide) ?_
      refine lv_istore (lv' := [(4, .int 0), (3, .int (-1)), (0, .ref (ad 0)), (1, .int ev), (2, .int eo)]) hx hb dX11_apart_22 hl (by decide) rfl (fun ls hl => ?_)
      have HL24 : ∀ (n24 : Nat) (v24_4 : Int32) (v24_3 : Int32) (H : Heap) (locs : List Loc) (ls : Array Slot), (14 - v24_4.toInt).toNat < n24 → (0 ≤ v24_4.toInt ∧ v24_4.toInt ≤ 14) → ((-1) ≤ v24_3.toInt) → va_P D vwCl (wL ad g 218) H → va_S (wA ad 218) s.heap H locs → lv_has ls 8 [(4, .int v24_4), (3, .int v24_3), (0, .ref (ad 0)), (1, .int ev), (2, .int eo)] → W p l e ({ frames := 2, cells := 0, slots := 0, locals := 49 } : Room) s m ([.ref (ad 0), .int ev, .int eo] : List Value).toArray below meth c H locs 0 0 (MQ below (qI D ad 218 (fun r g2 => g2 = g)) ([.ref (ad 0), .int ev, .int eo] : List Value).toArray s 0 0 (wA ad 218)) (F0 m 24 ls []) := by
        intro n24
        induction n24 with
        | zero =>
          intro v24_4 v24_3 H locs ls hm24 hv24_0 hv24_1 hP hS hl
          exact absurd hm24 (Nat.not_lt_zero _)
        | succ n24 ih24 =>
          intro v24_4 v24_3 H locs ls hm24 hv24_0 hv24_1 hP hS hl
          refine lv_iload hx hb dX11_apart_24 (lv_at hl 0 rfl) ?_
          refine lv_aload_n hx hb dX11_apart_26 rfl (lv_at hl 2 rfl) ?_
          have hk_10 := hOc_4.ref 1 rfl
          refine q_get X iX11_apart_11 hP (by decide) hgc_4 rfl 1 (by decide) (List.mem_of_getElem? (i := 5) rfl) (v := .ref (ad 3)) hk_10 dX11_apart_27 ?_
          obtain ⟨fsc_11, hgc_11, hOc_11⟩ := hW.obj (i := 3) (by decide) (sh_3 ad K)
          obtain ⟨x_13, hk_12, hlx_13, hhx_13⟩ := hOc_11.int 3 rfl
          refine q_get X iX11_apart_6 hP (by decide) hgc_11 rfl 3 (by decide) (List.mem_of_getElem? (i := 6) rfl) (v := .int x_13) hk_12 dX11_apart_30 ?_
          refine lv_icmp_ge (tgt := 111) hx hb dX11_apart_33 (by decide) (fun hc_14 => ?_) (fun hc_14 => ?_)
          · have hhc_14 := n_le (rfl : x_13.toInt = x_13.toInt) (rfl : v24_4.toInt = v24_4.toInt) hc_14
            refine lv_iload_n hx hb dX11_apart_111 rfl (lv_at hl 1 rfl) ?_
            exact q_iret X hP hS rfl dX11_apart_112
          · have hhc_14 := n_nle (rfl : x_13.toInt = x_13.toInt) (rfl : v24_4.toInt = v24_4.toInt) hc_14
            refine lv_aload_n hx hb dX11_apart_36 rfl (lv_at hl 2 rfl) ?_
            have hk_15 := hOc_4.ref 6 rfl
            refine q_get X iX11_apart_11 hP (by decide) hgc_4 rfl 6 (by decide) (List.mem_of_getElem? (i := 7) rfl) (v := .ref (ad 114)) hk_15 dX11_apart_37 ?_
            refine lv_aload_n hx hb dX11_apart_40 rfl (lv_at hl 2 rfl) ?_
            refine q_get X iX11_apart_11 hP (by decide) hgc_4 rfl 1 (by decide) (List.mem_of_getElem? (i := 5) rfl) (v := .ref (ad 3)) hk_10 dX11_apart_41 ?_
            refine lv_iload_n hx hb dX11_apart_44 rfl (lv_at hl 3 rfl) ?_
            refine lv_iload hx hb dX11_apart_45 (lv_at hl 0 rfl) ?_
            obtain ⟨fsc_19, hgc_19, hOc_19⟩ := hW.obj (i := 114) (by decide) (sh_114 ad K)
            refine s_calli (q := (RX10, TX10, 4)) (As := [.ref (ad 3), .int ev, .int v24_4]) (rest := []) X Z (s_X10_timeAt l D cs ad kS K hKO hj g hW 114 ev v24_4 (by omega)) (cwV 3 X.2.2.2.2.1 gg_X11_apart_X10_timeAt rfl rfl rfl (by decide +kernel) ⟨Nat.le_of_ble_eq_true rfl, Nat.le_of_ble_eq_true rfl⟩) (by decide) hgc_19 rfl hP hA hS.2.1 hS rfl hl.1 rfl (Nat.le_of_ble_eq_true rfl) dX11_apart_47 ⟨Nat.le_of_ble_eq_true rfl, Nat.le_of_ble_eq_true rfl⟩ (fun r_18 g_17 H locs hw_16 hP hS => ?_)
            rw [hw_16] at hP
            refine lv_istore (lv' := [(5, .int r_18), (4, .int v24_4), (3, .int v24_3), (0, .ref (ad 0)), (1, .int ev), (2, .int eo)]) hx hb dX11_apart_50 hl (by decide) rfl (fun ls hl => ?_)
            refine lv_aload_n hx hb dX11_apart_52 rfl (lv_at hl 3 rfl) ?_
            refine q_get X iX11_apart_11 hP (by decide) hgc_4 rfl 6 (by decide) (List.mem_of_getElem? (i := 7) rfl) (v := .ref (ad 114)) hk_15 dX11_apart_53 ?_
            refine lv_aload_n hx hb dX11_apart_56 rfl (lv_at hl 3 rfl) ?_
            refine q_get X iX11_apart_11 hP (by decide) hgc_4 rfl 1 (by decide) (List.mem_of_getElem? (i := 5) rfl) (v := .ref (ad 3)) hk_10 dX11_apart_57 ?_
            refine lv_iload_n hx hb dX11_apart_60 rfl (lv_at hl 5 rfl) ?_
            refine lv_iload hx hb dX11_apart_61 (lv_at hl 1 rfl) ?_
            refine s_calli (q := (RX10, TX10, 4)) (As := [.ref (ad 3), .int eo, .int v24_4]) (rest := []) X Z (s_X10_timeAt l D cs ad kS K hKO hj g hW 114 eo v24_4 (by omega)) (cwV 3 X.2.2.2.2.1 gg_X11_apart_X10_timeAt rfl rfl rfl (by decide +kernel) ⟨Nat.le_of_ble_eq_true rfl, Nat.le_of_ble_eq_true rfl⟩) (by decide) hgc_19 rfl hP hA hS.2.1 hS rfl hl.1 rfl (Nat.le_of_ble_eq_true rfl) dX11_apart_63 ⟨Nat.le_of_ble_eq_true rfl, Nat.le_of_ble_eq_true rfl⟩ (fun r_22 g_21 H locs hw_20 hP hS => ?_)
            rw [hw_20] at hP
            refine lv_istore (lv' := [(6, .int r_22), (5, .int r_18), (4, .int v24_4), (3, .int v24_3), (0, .ref (ad 0)), (1, .int ev), (2, .int eo)]) hx hb dX11_apart_66 hl (by decide) rfl (fun ls hl => ?_)
            refine lv_iload hx hb dX11_apart_68 (lv_at hl 1 rfl) ?_
            refine lv_iconst (v := (-1)) hx hb dX11_apart_70 (by decide) ?_
            have HJ105 : ∀ (v105_3 : Int32) (H : Heap) (locs : List Loc) (ls : Array Slot), ((-1) ≤ v105_3.toInt) → va_P D vwCl (wL ad g 218) H → va_S (wA ad 218) s.heap H locs → lv_has ls 8 [(4, .int v24_4), (3, .int v105_3), (0, .ref (ad 0)), (1, .int ev), (2, .int eo)] → W p l e ({ frames := 2, cells := 0, slots := 0, locals := 49 } : Room) s m ([.ref (ad 0), .int ev, .int eo] : List Value).toArray below meth c H locs 0 0 (MQ below (qI D ad 218 (fun r g2 => g2 = g)) ([.ref (ad 0), .int ev, .int eo] : List Value).toArray s 0 0 (wA ad 218)) (F0 m 105 ls []) := by
              intro v105_3 H locs ls hv105_0 hP hS hl
              obtain ⟨x_23, ex_23⟩ : ∃ y : Int32, y = v24_4 + 1 := ⟨_, rfl⟩
              have hx_23 : x_23.toInt = v24_4.toInt + 1 := n_add rfl (by decide : (1 : Int32).toInt = 1) ex_23 (by omega) (by omega)
              refine lv_iinc (v := x_23) (lv' := [(4, .int x_23), (3, .int v105_3), (0, .ref (ad 0)), (1, .int ev), (2, .int eo)]) hx hb dX11_apart_105 hl (k := 0) rfl (by rw [ex_23]; rfl) (by decide) rfl (fun ls hl => ?_)
              refine lv_goto (tgt := 24) hx hb dX11_apart_108 (by decide) ?_
              exact ih24 x_23 v105_3 _ _ ls (by omega) (by omega) (by omega) hP hS (lv_sub hl [0, 1, 2, 3, 4] rfl)
            refine lv_icmp_eq (tgt := 105) hx hb dX11_apart_71 (by decide) (fun hc_24 => ?_) (fun hc_24 => ?_)
            · have hhc_24 := n_eq (rfl : r_18.toInt = r_18.toInt) (by decide : (-1 : Int32).toInt = -1) hc_24
              exact HJ105 v24_3 _ _ ls (by omega) hP hS (lv_sub hl [2, 3, 4, 5, 6] rfl)
            · have hhc_24 := n_ne (rfl : r_18.toInt = r_18.toInt) (by decide : (-1 : Int32).toInt = -1) hc_24
              refine lv_iload hx hb dX11_apart_74 (lv_at hl 0 rfl) ?_
              refine lv_iconst (v := (-1)) hx hb dX11_apart_76 (by decide) ?_
              refine lv_icmp_eq (tgt := 105) hx hb dX11_apart_77 (by decide) (fun hc_25 => ?_) (fun hc_25 => ?_)
              · have hhc_25 := n_eq (rfl : r_22.toInt = r_22.toInt) (by decide : (-1 : Int32).toInt = -1) hc_25
                exact HJ105 v24_3 _ _ ls (by omega) hP hS (lv_sub hl [2, 3, 4, 5, 6] rfl)
              · have hhc_25 := n_ne (rfl : r_22.toInt = r_22.toInt) (by decide : (-1 : Int32).toInt = -1) hc_25
                refine lv_iload hx hb dX11_apart_80 (lv_at hl 1 rfl) ?_
                refine lv_iload hx hb dX11_apart_82 (lv_at hl 0 rfl) ?_
                refine lv_isub hx hb dX11_apart_84 ?_
                refine lv_topi (fun z_26 ez_26 => ?_)
                refine va_mabs hx hb (X.2.2.2.1.trans hl.1.symm) X.2.2.2.2.2.1 (X.2.2.2.2.1 _ (List.mem_of_getElem? (i := 12) rfl)) (X.2.2.2.2.1 _ (List.mem_of_getElem? (i := 13) rfl)) (X.2.2.2.2.1 _ (List.mem_of_getElem? (i := 14) rfl)) (X.2.2.2.2.1 _ (List.mem_of_getElem? (i := 15) rfl)) (Nat.le_of_ble_eq_true rfl) (Nat.le_of_ble_eq_true rfl) (Nat.le_of_ble_eq_true rfl) (Nat.le_of_ble_eq_true rfl) dX11_apart_85 ?_
                refine lv_topi (fun z_27 ez_27 => ?_)
                refine lv_istore (lv' := [(7, .int z_27), (6, .int r_22), (5, .int r_18), (4, .int v24_4), (3, .int v24_3), (0, .ref (ad 0)), (1, .int ev), (2, .int eo)]) hx hb dX11_apart_88 hl (by decide) rfl (fun ls hl => ?_)
                refine lv_iload_n hx hb dX11_apart_90 rfl (lv_at hl 4 rfl) ?_
                refine lv_iload hx hb dX11_apart_91 (lv_at hl 0 rfl) ?_
                refine lv_bipush (v := 24) hx hb dX11_apart_93 (by decide) ?_
                refine lv_iload hx hb dX11_apart_95 (lv_at hl 0 rfl) ?_
                refine lv_isub hx hb dX11_apart_97 ?_
                refine lv_topi (fun z_28 ez_28 => ?_)
                refine va_mmin hx hb (X.2.2.2.1.trans hl.1.symm) X.2.2.2.2.2.1 (X.2.2.2.2.1 _ (List.mem_of_getElem? (i := 16) rfl)) (X.2.2.2.2.1 _ (List.mem_of_getElem? (i := 17) rfl)) (X.2.2.2.2.1 _ (List.mem_of_getElem? (i := 14) rfl)) (X.2.2.2.2.1 _ (List.mem_of_getElem? (i := 18) rfl)) (Nat.le_of_ble_eq_true rfl) (Nat.le_of_ble_eq_true rfl) (Nat.le_of_ble_eq_true rfl) (Nat.le_of_ble_eq_true rfl) dX11_apart_98 ?_
                refine lv_topi (fun z_29 ez_29 => ?_)
                have hz_29 := n_min (rfl : z_27.toInt = z_27.toInt) (rfl : z_28.toInt = z_28.toInt) ez_29
                refine va_mmax hx hb (X.2.2.2.1.trans hl.1.symm) X.2.2.2.2.2.1 (X.2.2.2.2.1 _ (List.mem_of_getElem? (i := 19) rfl)) (X.2.2.2.2.1 _ (List.mem_of_getElem? (i := 20) rfl)) (X.2.2.2.2.1 _ (List.mem_of_getElem? (i := 14) rfl)) (X.2.2.2.2.1 _ (List.mem_of_getElem? (i := 21) rfl)) (Nat.le_of_ble_eq_true rfl) (Nat.le_of_ble_eq_true rfl) (Nat.le_of_ble_eq_true rfl) (Nat.le_of_ble_eq_true rfl) dX11_apart_101 ?_
                refine lv_topi (fun z_30 ez_30 => ?_)
                have hz_30 := n_max (rfl : v24_3.toInt = v24_3.toInt) (rfl : z_29.toInt = z_29.toInt) ez_30
                refine lv_istore_n (lv' := [(3, .int z_30), (7, .int z_27), (6, .int r_22), (5, .int r_18), (4, .int v24_4), (0, .ref (ad 0)), (1, .int ev), (2, .int eo)]) hx hb dX11_apart_104 rfl hl (by decide) rfl (fun ls hl => ?_)
                exact HJ105 z_30 _ _ ls (by omega) hP hS (lv_sub hl [4, 0, 5, 6, 7] rfl)
      have hiv24_4 : (0 : Int32).toInt = 0 := by decide
      have hiv24_3 : ((-1) : Int32).toInt = -1 := by decide
      exact HL24 _ 0 (-1) _ _ ls (Nat.lt_succ_self _) (by omega) (by omega) hP hS (lv_sub hl [0, 1, 2, 3, 4] rfl)
    · have hhc_9 := n_eq (rfl : r_8.toInt = r_8.toInt) (by decide : (0 : Int32).toInt = 0) hc_9
      exact HJ16 _ _ ls hP hS (lv_sub hl [] rfl)

theorem dX11_tells_0 : decode cX11_tells 0 = .ok (.aload_n 0, 1) := by decide +kernel
theorem dX11_tells_1 : decode cX11_tells 1 = .ok (.invokevirtual 195, 3) := by decide +kernel
theorem dX11_tells_4 : decode cX11_tells 4 = .ok (.ifCond .eq 13, 3) := by decide +kernel
theorem dX11_tells_7 : decode cX11_tells 7 = .ok (.iload_n 1, 1) := by decide +kernel
theorem dX11_tells_8 : decode cX11_tells 8 = .ok (.ifCond .lt 9, 3) := by decide +kernel
theorem dX11_tells_11 : decode cX11_tells 11 = .ok (.iload_n 1, 1) := by decide +kernel
theorem dX11_tells_12 : decode cX11_tells 12 = .ok (.bipush 24, 2) := by decide +kernel
theorem dX11_tells_14 : decode cX11_tells 14 = .ok (.if_icmp .lt 6, 3) := by decide +kernel
theorem dX11_tells_20 : decode cX11_tells 20 = .ok (.iconst 0, 1) := by decide +kernel
theorem dX11_tells_21 : decode cX11_tells 21 = .ok (.istore_n 2, 1) := by decide +kernel
theorem dX11_tells_22 : decode cX11_tells 22 = .ok (.iconst 0, 1) := by decide +kernel
theorem dX11_tells_23 : decode cX11_tells 23 = .ok (.istore_n 3, 1) := by decide +kernel
theorem dX11_tells_24 : decode cX11_tells 24 = .ok (.iload_n 3, 1) := by decide +kernel
theorem dX11_tells_25 : decode cX11_tells 25 = .ok (.aload_n 0, 1) := by decide +kernel
theorem dX11_tells_26 : decode cX11_tells 26 = .ok (.getfield 19, 3) := by decide +kernel
theorem dX11_tells_29 : decode cX11_tells 29 = .ok (.getfield 177, 3) := by decide +kernel
theorem dX11_tells_32 : decode cX11_tells 32 = .ok (.if_icmp .ge 32, 3) := by decide +kernel
theorem dX11_tells_35 : decode cX11_tells 35 = .ok (.aload_n 0, 1) := by decide +kernel
theorem dX11_tells_36 : decode cX11_tells 36 = .ok (.getfield 44, 3) := by decide +kernel
theorem dX11_tells_39 : decode cX11_tells 39 = .ok (.aload_n 0, 1) := by decide +kernel
theorem dX11_tells_40 : decode cX11_tells 40 = .ok (.getfield 19, 3) := by decide +kernel
theorem dX11_tells_43 : decode cX11_tells 43 = .ok (.iconst (-1), 1) := by decide +kernel
theorem dX11_tells_44 : decode cX11_tells 44 = .ok (.iload_n 3, 1) := by decide +kernel
theorem dX11_tells_45 : decode cX11_tells 45 = .ok (.invokevirtual 211, 3) := by decide +kernel
theorem dX11_tells_48 : decode cX11_tells 48 = .ok (.iload_n 1, 1) := by decide +kernel
theorem dX11_tells_49 : decode cX11_tells 49 = .ok (.if_icmp .ne 9, 3) := by decide +kernel
theorem dX11_tells_52 : decode cX11_tells 52 = .ok (.iload_n 2, 1) := by decide +kernel
theorem dX11_tells_53 : decode cX11_tells 53 = .ok (.iconst 1, 1) := by decide +kernel
theorem dX11_tells_54 : decode cX11_tells 54 = .ok (.iload_n 3, 1) := by decide +kernel
theorem dX11_tells_55 : decode cX11_tells 55 = .ok (.ishl, 1) := by decide +kernel
theorem dX11_tells_56 : decode cX11_tells 56 = .ok (.ior, 1) := by decide +kernel
theorem dX11_tells_57 : decode cX11_tells 57 = .ok (.istore_n 2, 1) := by decide +kernel
theorem dX11_tells_58 : decode cX11_tells 58 = .ok (.iinc 3 1, 3) := by decide +kernel
theorem dX11_tells_61 : decode cX11_tells 61 = .ok (.goto (-37), 3) := by decide +kernel
theorem dX11_tells_64 : decode cX11_tells 64 = .ok (.iload_n 2, 1) := by decide +kernel
theorem dX11_tells_65 : decode cX11_tells 65 = .ok (.ireturn, 1) := by decide +kernel
theorem dX11_tells_17 : decode cX11_tells 17 = .ok (.bipush (-2), 2) := by decide +kernel
theorem dX11_tells_19 : decode cX11_tells 19 = .ok (.ireturn, 1) := by decide +kernel
noncomputable def vX11_tells : List Cond := .code yX11_tells cX11_tells 4 (some .int) :: (([.methodLink RX11 195 yX11_isTold, .instanceMethod yX11_isTold, .selects RX11 yX11_isTold yX11_isTold, .initialized RX11, .fieldLink RX11 19 "IcicleClock" "now" "LIcicleClock$Street;", .fieldLink RX11 177 "IcicleClock$Street" "days" "I", .fieldLink RX11 44 "IcicleClock" "winter" "LIcicleClock$Winter;", .methodLink RX11 211 yX10_timeAt, .instanceMethod yX10_timeAt, .selects RX10 yX10_timeAt yX10_timeAt, .initialized RX10] : List Cond) ++ (wsX110 ++ (wsX60 ++ (vX11_isTold ++ vX10_timeAt))))
theorem iX11_tells_11 : ∀ w ∈ wsX110, w ∈ vX11_tells := fun _ h => List.mem_cons_of_mem _ (List.mem_append_right _ (List.mem_append_left _ h))
theorem iX11_tells_6 : ∀ w ∈ wsX60, w ∈ vX11_tells := fun _ h => List.mem_cons_of_mem _ (List.mem_append_right _ (List.mem_append_right _ (List.mem_append_left _ h)))
theorem gs_X11_tells : Gd vX11_tells := Gd.cons (by decide +kernel) (Gd.app (Gd.r (by decide +kernel)) (Gd.app gwX_11 (Gd.app gwX_6 (Gd.app gs_X11_isTold gs_X10_timeAt))))
theorem gg_X11_tells_X11_isTold : GoodIn vX11_tells (wsV RX11 195 RX11 yX11_isTold vX11_isTold) := goodIn_app (goodIn_r _ [1, 2, 3, 4] (by decide +kernel) (by decide +kernel)) (fun w h => ⟨List.mem_cons_of_mem _ (List.mem_append_right _ (List.mem_append_right _ (List.mem_append_right _ (List.mem_append_left _ h)))), gs_X11_isTold w h⟩)
theorem gg_X11_tells_X10_timeAt : GoodIn vX11_tells (wsV RX11 211 RX10 yX10_timeAt vX10_timeAt) := goodIn_app (goodIn_r _ [8, 9, 10, 11] (by decide +kernel) (by decide +kernel)) (fun w h => ⟨List.mem_cons_of_mem _ (List.mem_append_right _ (List.mem_append_right _ (List.mem_append_right _ (List.mem_append_right _ (h))))), gs_X10_timeAt w h⟩)
set_option maxHeartbeats 4000000 in
set_option maxRecDepth 100000 in
theorem s_X11_tells (l : Launch) (D : va_G) (cs : Nat → ClassId) (ad : Nat → Nat) (kS : kSt) (K : sK) (hKO : KO K) (hj : wJ ad 218) (g : Nat → va_E) (hW : WF (shp ad K) ad cs g) (hr : Int32) : sI l yX11_tells vX11_tells { frames := 2, cells := 0, slots := 0, locals := 49 } D cs ad kS [.ref (ad 0), .int hr] g (fun r g2 => g2 = g) := by
  refine Met.startS (cc := cX11_tells) (maxL := 4) (ret := (some .int)) RX11 rfl (by decide) rfl (Nat.le_of_ble_eq_true rfl) ?_
  intro p e s m below meth c ls X Z hP hl
  have hx := X.1
  have hb := X.2.1
  have hS : va_S (wA ad 218) s.heap s.heap [] := va_S.rf
  have hA : ∀ i, i < 218 → wA ad 218 (ad i) := fun i h => ⟨i, h, rfl⟩
  have hl : lv_has ls 4 [(0, .ref (ad 0)), (1, .int hr)] := hl
  refine lv_aload_n hx hb dX11_tells_0 rfl (lv_at hl 0 rfl) ?_
  obtain ⟨fsc_4, hgc_4, hOc_4⟩ := hW.obj (i := 0) (by decide) (sh_0 ad K)
  refine s_calli (q := (RX11, TX11, 14)) (As := []) (rest := []) X Z (s_X11_isTold l D cs ad kS K hKO hj g hW) (cwV 0 X.2.2.2.2.1 gg_X11_tells_X11_isTold rfl rfl rfl (by decide +kernel) ⟨Nat.le_of_ble_eq_true rfl, Nat.le_of_ble_eq_true rfl⟩) (by decide) hgc_4 rfl hP hA hS.2.1 hS rfl hl.1 rfl (Nat.le_of_ble_eq_true rfl) dX11_tells_1 ⟨Nat.le_of_ble_eq_true rfl, Nat.le_of_ble_eq_true rfl⟩ (fun r_3 g_2 H locs hw_1 hP hS => ?_)
  obtain ⟨hw_1g, hw_1⟩ := hw_1
  rw [hw_1g] at hP
  have HJ17 : ∀ (H : Heap) (locs : List Loc) (ls : Array Slot), va_P D vwCl (wL ad g 218) H → va_S (wA ad 218) s.heap H locs → lv_has ls 4 [] → W p l e ({ frames := 2, cells := 0, slots := 0, locals := 49 } : Room) s m ([.ref (ad 0), .int hr] : List Value).toArray below meth c H locs 0 0 (MQ below (qI D ad 218 (fun r g2 => g2 = g)) ([.ref (ad 0), .int hr] : List Value).toArray s 0 0 (wA ad 218)) (F0 m 17 ls []) := by
    intro H locs ls hP hS hl
    refine lv_bipush (v := (-2)) hx hb dX11_tells_17 (by decide) ?_
    exact q_iret X hP hS rfl dX11_tells_19
  refine lv_if_eq (tgt := 17) hx hb dX11_tells_4 (by decide) (fun hc_5 => ?_) (fun hc_5 => ?_)
  · have hhc_5 := n_eq (rfl : r_3.toInt = r_3.toInt) (by decide : (0 : Int32).toInt = 0) hc_5
    exact HJ17 _ _ ls hP hS (lv_sub hl [] rfl)
  · have hhc_5 := n_ne (rfl : r_3.toInt = r_3.toInt) (by decide : (0 : Int32).toInt = 0) hc_5
    refine lv_iload_n hx hb dX11_tells_7 rfl (lv_at hl 1 rfl) ?_
    refine lv_if_lt (tgt := 17) hx hb dX11_tells_8 (by decide) (fun hc_6 => ?_) (fun hc_6 => ?_)
    · have hhc_6 := n_lt (rfl : hr.toInt = hr.toInt) (by decide : (0 : Int32).toInt = 0) hc_6
      exact HJ17 _ _ ls hP hS (lv_sub hl [] rfl)
    · have hhc_6 := n_nlt (rfl : hr.toInt = hr.toInt) (by decide : (0 : Int32).toInt = 0) hc_6
      refine lv_iload_n hx hb dX11_tells_11 rfl (lv_at hl 1 rfl) ?_
      refine lv_bipush (v := 24) hx hb dX11_tells_12 (by decide) ?_
      refine lv_icmp_lt (tgt := 20) hx hb dX11_tells_14 (by decide) (fun hc_7 => ?_) (fun hc_7 => ?_)
      · have hhc_7 := n_lt (rfl : hr.toInt = hr.toInt) (by decide : (24 : Int32).toInt = 24) hc_7
        refine lv_iconst (v := 0) hx hb dX11_tells_20 (by decide) ?_
        refine lv_istore_n (lv' := [(2, .int 0), (0, .ref (ad 0)), (1, .int hr)]) hx hb dX11_tells_21 rfl hl (by decide) rfl (fun ls hl => ?_)
        refine lv_iconst (v := 0) hx hb dX11_tells_22 (by decide) ?_
        refine lv_istore_n (lv' := [(3, .int 0), (2, .int 0), (0, .ref (ad 0)), (1, .int hr)]) hx hb dX11_tells_23 rfl hl (by decide) rfl (fun ls hl => ?_)
        have HL24 : ∀ (n24 : Nat) (v24_3 : Int32) (v24_2 : Int32) (H : Heap) (locs : List Loc) (ls : Array Slot), (14 - v24_3.toInt).toNat < n24 → (0 ≤ v24_3.toInt ∧ v24_3.toInt ≤ 14) → va_P D vwCl (wL ad g 218) H → va_S (wA ad 218) s.heap H locs → lv_has ls 4 [(3, .int v24_3), (2, .int v24_2), (0, .ref (ad 0)), (1, .int hr)] → W p l e ({ frames := 2, cells := 0, slots := 0, locals := 49 } : Room) s m ([.ref (ad 0), .int hr] : List Value).toArray below meth c H locs 0 0 (MQ below (qI D ad 218 (fun r g2 => g2 = g)) ([.ref (ad 0), .int hr] : List Value).toArray s 0 0 (wA ad 218)) (F0 m 24 ls []) := by
          intro n24
          induction n24 with
          | zero =>
            intro v24_3 v24_2 H locs ls hm24 hv24_0 hP hS hl
            exact absurd hm24 (Nat.not_lt_zero _)
          | succ n24 ih24 =>
            intro v24_3 v24_2 H locs ls hm24 hv24_0 hP hS hl
            refine lv_iload_n hx hb dX11_tells_24 rfl (lv_at hl 0 rfl) ?_
            refine lv_aload_n hx hb dX11_tells_25 rfl (lv_at hl 2 rfl) ?_
            have hk_8 := hOc_4.ref 1 rfl
            refine q_get X iX11_tells_11 hP (by decide) hgc_4 rfl 1 (by decide) (List.mem_of_getElem? (i := 5) rfl) (v := .ref (ad 3)) hk_8 dX11_tells_26 ?_
            obtain ⟨fsc_9, hgc_9, hOc_9⟩ := hW.obj (i := 3) (by decide) (sh_3 ad K)
            obtain ⟨x_11, hk_10, hlx_11, hhx_11⟩ := hOc_9.int 3 rfl
            refine q_get X iX11_tells_6 hP (by decide) hgc_9 rfl 3 (by decide) (List.mem_of_getElem? (i := 6) rfl) (v := .int x_11) hk_10 dX11_tells_29 ?_
            refine lv_icmp_ge (tgt := 64) hx hb dX11_tells_32 (by decide) (fun hc_12 => ?_) (fun hc_12 => ?_)
            · have hhc_12 := n_le (rfl : x_11.toInt = x_11.toInt) (rfl : v24_3.toInt = v24_3.toInt) hc_12
              refine lv_iload_n hx hb dX11_tells_64 rfl (lv_at hl 1 rfl) ?_
              exact q_iret X hP hS rfl dX11_tells_65
            · have hhc_12 := n_nle (rfl : x_11.toInt = x_11.toInt) (rfl : v24_3.toInt = v24_3.toInt) hc_12
              refine lv_aload_n hx hb dX11_tells_35 rfl (lv_at hl 2 rfl) ?_
              have hk_13 := hOc_4.ref 6 rfl
              refine q_get X iX11_tells_11 hP (by decide) hgc_4 rfl 6 (by decide) (List.mem_of_getElem? (i := 7) rfl) (v := .ref (ad 114)) hk_13 dX11_tells_36 ?_
              refine lv_aload_n hx hb dX11_tells_39 rfl (lv_at hl 2 rfl) ?_
              refine q_get X iX11_tells_11 hP (by decide) hgc_4 rfl 1 (by decide) (List.mem_of_getElem? (i := 5) rfl) (v := .ref (ad 3)) hk_8 dX11_tells_40 ?_
              refine lv_iconst (v := (-1)) hx hb dX11_tells_43 (by decide) ?_
              refine lv_iload_n hx hb dX11_tells_44 rfl (lv_at hl 0 rfl) ?_
              obtain ⟨fsc_17, hgc_17, hOc_17⟩ := hW.obj (i := 114) (by decide) (sh_114 ad K)
              refine s_calli (q := (RX10, TX10, 4)) (As := [.ref (ad 3), .int (-1), .int v24_3]) (rest := []) X Z (s_X10_timeAt l D cs ad kS K hKO hj g hW 114 (-1) v24_3 (by omega)) (cwV 3 X.2.2.2.2.1 gg_X11_tells_X10_timeAt rfl rfl rfl (by decide +kernel) ⟨Nat.le_of_ble_eq_true rfl, Nat.le_of_ble_eq_true rfl⟩) (by decide) hgc_17 rfl hP hA hS.2.1 hS rfl hl.1 rfl (Nat.le_of_ble_eq_true rfl) dX11_tells_45 ⟨Nat.le_of_ble_eq_true rfl, Nat.le_of_ble_eq_true rfl⟩ (fun r_16 g_15 H locs hw_14 hP hS => ?_)
              rw [hw_14] at hP
              refine lv_iload_n hx hb dX11_tells_48 rfl (lv_at hl 3 rfl) ?_
              have HJ58 : ∀ (v58_2 : Int32) (H : Heap) (locs : List Loc) (ls : Array Slot), va_P D vwCl (wL ad g 218) H → va_S (wA ad 218) s.heap H locs → lv_has ls 4 [(3, .int v24_3), (2, .int v58_2), (0, .ref (ad 0)), (1, .int hr)] → W p l e ({ frames := 2, cells := 0, slots := 0, locals := 49 } : Room) s m ([.ref (ad 0), .int hr] : List Value).toArray below meth c H locs 0 0 (MQ below (qI D ad 218 (fun r g2 => g2 = g)) ([.ref (ad 0), .int hr] : List Value).toArray s 0 0 (wA ad 218)) (F0 m 58 ls []) := by
                intro v58_2 H locs ls hP hS hl
                obtain ⟨x_18, ex_18⟩ : ∃ y : Int32, y = v24_3 + 1 := ⟨_, rfl⟩
                have hx_18 : x_18.toInt = v24_3.toInt + 1 := n_add rfl (by decide : (1 : Int32).toInt = 1) ex_18 (by omega) (by omega)
                refine lv_iinc (v := x_18) (lv' := [(3, .int x_18), (2, .int v58_2), (0, .ref (ad 0)), (1, .int hr)]) hx hb dX11_tells_58 hl (k := 0) rfl (by rw [ex_18]; rfl) (by decide) rfl (fun ls hl => ?_)
                refine lv_goto (tgt := 24) hx hb dX11_tells_61 (by decide) ?_
                exact ih24 x_18 v58_2 _ _ ls (by omega) (by omega) hP hS (lv_sub hl [0, 1, 2, 3] rfl)
              refine lv_icmp_ne (tgt := 58) hx hb dX11_tells_49 (by decide) (fun hc_19 => ?_) (fun hc_19 => ?_)
              · have hhc_19 := n_ne (rfl : r_16.toInt = r_16.toInt) (rfl : hr.toInt = hr.toInt) hc_19
                exact HJ58 v24_2 _ _ ls hP hS (lv_sub hl [0, 1, 2, 3] rfl)
              · have hhc_19 := n_eq (rfl : r_16.toInt = r_16.toInt) (rfl : hr.toInt = hr.toInt) hc_19
                refine lv_iload_n hx hb dX11_tells_52 rfl (lv_at hl 1 rfl) ?_
                refine lv_iconst (v := 1) hx hb dX11_tells_53 (by decide) ?_
                refine lv_iload_n hx hb dX11_tells_54 rfl (lv_at hl 0 rfl) ?_
                refine lv_ishl hx hb dX11_tells_55 ?_
                refine lv_topi (fun z_20 ez_20 => ?_)
                refine lv_ior hx hb dX11_tells_56 ?_
                refine lv_topi (fun z_21 ez_21 => ?_)
                refine lv_istore_n (lv' := [(2, .int z_21), (3, .int v24_3), (0, .ref (ad 0)), (1, .int hr)]) hx hb dX11_tells_57 rfl hl (by decide) rfl (fun ls hl => ?_)
                exact HJ58 z_21 _ _ ls hP hS (lv_sub hl [1, 0, 2, 3] rfl)
        have hiv24_3 : (0 : Int32).toInt = 0 := by decide
        have hiv24_2 : (0 : Int32).toInt = 0 := by decide
        exact HL24 _ 0 0 _ _ ls (Nat.lt_succ_self _) (by omega) hP hS (lv_sub hl [0, 1, 2, 3] rfl)
      · have hhc_7 := n_nlt (rfl : hr.toInt = hr.toInt) (by decide : (24 : Int32).toInt = 24) hc_7
        exact HJ17 _ _ ls hP hS (lv_sub hl [] rfl)

theorem dX11_late_0 : decode cX11_late 0 = .ok (.aload_n 0, 1) := by decide +kernel
theorem dX11_late_1 : decode cX11_late 1 = .ok (.iload_n 1, 1) := by decide +kernel
theorem dX11_late_2 : decode cX11_late 2 = .ok (.invokevirtual 148, 3) := by decide +kernel
theorem dX11_late_5 : decode cX11_late 5 = .ok (.ifCond .eq 18, 3) := by decide +kernel
theorem dX11_late_8 : decode cX11_late 8 = .ok (.aload_n 0, 1) := by decide +kernel
theorem dX11_late_9 : decode cX11_late 9 = .ok (.getfield 44, 3) := by decide +kernel
theorem dX11_late_12 : decode cX11_late 12 = .ok (.aload_n 0, 1) := by decide +kernel
theorem dX11_late_13 : decode cX11_late 13 = .ok (.getfield 19, 3) := by decide +kernel
theorem dX11_late_16 : decode cX11_late 16 = .ok (.iload_n 1, 1) := by decide +kernel
theorem dX11_late_17 : decode cX11_late 17 = .ok (.invokevirtual 223, 3) := by decide +kernel
theorem dX11_late_20 : decode cX11_late 20 = .ok (.goto 6, 3) := by decide +kernel
theorem dX11_late_23 : decode cX11_late 23 = .ok (.sipush (-1000), 3) := by decide +kernel
theorem dX11_late_26 : decode cX11_late 26 = .ok (.ireturn, 1) := by decide +kernel
noncomputable def vX11_late : List Cond := .code yX11_late cX11_late 2 (some .int) :: (([.methodLink RX11 148 yX11_isWork, .instanceMethod yX11_isWork, .selects RX11 yX11_isWork yX11_isWork, .initialized RX11, .fieldLink RX11 44 "IcicleClock" "winter" "LIcicleClock$Winter;", .fieldLink RX11 19 "IcicleClock" "now" "LIcicleClock$Street;", .methodLink RX11 223 yX10_lateness, .instanceMethod yX10_lateness, .selects RX10 yX10_lateness yX10_lateness, .initialized RX10] : List Cond) ++ (wsX110 ++ (vX11_isWork ++ vX10_lateness)))
theorem iX11_late_11 : ∀ w ∈ wsX110, w ∈ vX11_late := fun _ h => List.mem_cons_of_mem _ (List.mem_append_right _ (List.mem_append_left _ h))
theorem gs_X11_late : Gd vX11_late := Gd.cons (by decide +kernel) (Gd.app (Gd.r (by decide +kernel)) (Gd.app gwX_11 (Gd.app gs_X11_isWork gs_X10_lateness)))
theorem gg_X11_late_X11_isWork : GoodIn vX11_late (wsV RX11 148 RX11 yX11_isWork vX11_isWork) := goodIn_app (goodIn_r _ [1, 2, 3, 4] (by decide +kernel) (by decide +kernel)) (fun w h => ⟨List.mem_cons_of_mem _ (List.mem_append_right _ (List.mem_append_right _ (List.mem_append_left _ h))), gs_X11_isWork w h⟩)
theorem gg_X11_late_X10_lateness : GoodIn vX11_late (wsV RX11 223 RX10 yX10_lateness vX10_lateness) := goodIn_app (goodIn_r _ [7, 8, 9, 10] (by decide +kernel) (by decide +kernel)) (fun w h => ⟨List.mem_cons_of_mem _ (List.mem_append_right _ (List.mem_append_right _ (List.mem_append_right _ (h)))), gs_X10_lateness w h⟩)
set_option maxHeartbeats 4000000 in
set_option maxRecDepth 100000 in
theorem s_X11_late (l : Launch) (D : va_G) (cs : Nat → ClassId) (ad : Nat → Nat) (kS : kSt) (K : sK) (hKO : KO K) (hj : wJ ad 218) (g : Nat → va_E) (hW : WF (shp ad K) ad cs g) (wk : Int32) : sI l yX11_late vX11_late { frames := 1, cells := 0, slots := 0, locals := 23 } D cs ad kS [.ref (ad 0), .int wk] g (fun r g2 => g2 = g) := by
  refine Met.startS (cc := cX11_late) (maxL := 2) (ret := (some .int)) RX11 rfl (by decide) rfl (Nat.le_of_ble_eq_true rfl) ?_
  intro p e s m below meth c ls X Z hP hl
  have hx := X.1
  have hb := X.2.1
  have hS : va_S (wA ad 218) s.heap s.heap [] := va_S.rf
  have hA : ∀ i, i < 218 → wA ad 218 (ad i) := fun i h => ⟨i, h, rfl⟩
  have hl : lv_has ls 2 [(0, .ref (ad 0)), (1, .int wk)] := hl
  refine lv_aload_n hx hb dX11_late_0 rfl (lv_at hl 0 rfl) ?_
  refine lv_iload_n hx hb dX11_late_1 rfl (lv_at hl 1 rfl) ?_
  obtain ⟨fsc_4, hgc_4, hOc_4⟩ := hW.obj (i := 0) (by decide) (sh_0 ad K)
  refine s_calli (q := (RX11, TX11, 14)) (As := [.int wk]) (rest := []) X Z (s_X11_isWork l D cs ad kS K hKO hj g hW wk) (cwV 1 X.2.2.2.2.1 gg_X11_late_X11_isWork rfl rfl rfl (by decide +kernel) ⟨Nat.le_of_ble_eq_true rfl, Nat.le_of_ble_eq_true rfl⟩) (by decide) hgc_4 rfl hP hA hS.2.1 hS rfl hl.1 rfl (Nat.le_of_ble_eq_true rfl) dX11_late_2 ⟨Nat.le_of_ble_eq_true rfl, Nat.le_of_ble_eq_true rfl⟩ (fun r_3 g_2 H locs hw_1 hP hS => ?_)
  obtain ⟨hw_1g, hw_1⟩ := hw_1
  rw [hw_1g] at hP
  refine lv_if_eq (tgt := 23) hx hb dX11_late_5 (by decide) (fun hc_5 => ?_) (fun hc_5 => ?_)
  · have hhc_5 := n_eq (rfl : r_3.toInt = r_3.toInt) (by decide : (0 : Int32).toInt = 0) hc_5
    refine lv_sipush (v := (-1000)) hx hb dX11_late_23 (by decide) ?_
    exact q_iret X hP hS rfl dX11_late_26
  · have hhc_5 := n_ne (rfl : r_3.toInt = r_3.toInt) (by decide : (0 : Int32).toInt = 0) hc_5
    refine lv_aload_n hx hb dX11_late_8 rfl (lv_at hl 0 rfl) ?_
    have hk_6 := hOc_4.ref 6 rfl
    refine q_get X iX11_late_11 hP (by decide) hgc_4 rfl 6 (by decide) (List.mem_of_getElem? (i := 5) rfl) (v := .ref (ad 114)) hk_6 dX11_late_9 ?_
    refine lv_aload_n hx hb dX11_late_12 rfl (lv_at hl 0 rfl) ?_
    have hk_7 := hOc_4.ref 1 rfl
    refine q_get X iX11_late_11 hP (by decide) hgc_4 rfl 1 (by decide) (List.mem_of_getElem? (i := 6) rfl) (v := .ref (ad 3)) hk_7 dX11_late_13 ?_
    refine lv_iload_n hx hb dX11_late_16 rfl (lv_at hl 1 rfl) ?_
    obtain ⟨fsc_11, hgc_11, hOc_11⟩ := hW.obj (i := 114) (by decide) (sh_114 ad K)
    refine s_calli (q := (RX10, TX10, 4)) (As := [.ref (ad 3), .int wk]) (rest := []) X Z (s_X10_lateness l D cs ad kS K hKO hj g hW 114 wk (by omega) (by omega)) (cwV 2 X.2.2.2.2.1 gg_X11_late_X10_lateness rfl rfl rfl (by decide +kernel) ⟨Nat.le_of_ble_eq_true rfl, Nat.le_of_ble_eq_true rfl⟩) (by decide) hgc_11 rfl hP hA hS.2.1 hS rfl hl.1 rfl (Nat.le_of_ble_eq_true rfl) dX11_late_17 ⟨Nat.le_of_ble_eq_true rfl, Nat.le_of_ble_eq_true rfl⟩ (fun r_10 g_9 H locs hw_8 hP hS => ?_)
    rw [hw_8] at hP
    refine lv_goto (tgt := 26) hx hb dX11_late_20 (by decide) ?_
    exact q_iret X hP hS rfl dX11_late_26

theorem dX11_lates_0 : decode cX11_lates 0 = .ok (.aload_n 0, 1) := by decide +kernel
theorem dX11_lates_1 : decode cX11_lates 1 = .ok (.invokevirtual 195, 3) := by decide +kernel
theorem dX11_lates_4 : decode cX11_lates 4 = .ok (.ifCond .ne 6, 3) := by decide +kernel
theorem dX11_lates_7 : decode cX11_lates 7 = .ok (.bipush (-2), 2) := by decide +kernel
theorem dX11_lates_9 : decode cX11_lates 9 = .ok (.ireturn, 1) := by decide +kernel
theorem dX11_lates_10 : decode cX11_lates 10 = .ok (.iconst 0, 1) := by decide +kernel
theorem dX11_lates_11 : decode cX11_lates 11 = .ok (.istore_n 1, 1) := by decide +kernel
theorem dX11_lates_12 : decode cX11_lates 12 = .ok (.iconst 0, 1) := by decide +kernel
theorem dX11_lates_13 : decode cX11_lates 13 = .ok (.istore_n 2, 1) := by decide +kernel
theorem dX11_lates_14 : decode cX11_lates 14 = .ok (.iload_n 2, 1) := by decide +kernel
theorem dX11_lates_15 : decode cX11_lates 15 = .ok (.aload_n 0, 1) := by decide +kernel
theorem dX11_lates_16 : decode cX11_lates 16 = .ok (.getfield 19, 3) := by decide +kernel
theorem dX11_lates_19 : decode cX11_lates 19 = .ok (.getfield 226, 3) := by decide +kernel
theorem dX11_lates_22 : decode cX11_lates 22 = .ok (.if_icmp .ge 31, 3) := by decide +kernel
theorem dX11_lates_25 : decode cX11_lates 25 = .ok (.aload_n 0, 1) := by decide +kernel
theorem dX11_lates_26 : decode cX11_lates 26 = .ok (.getfield 44, 3) := by decide +kernel
theorem dX11_lates_29 : decode cX11_lates 29 = .ok (.aload_n 0, 1) := by decide +kernel
theorem dX11_lates_30 : decode cX11_lates 30 = .ok (.getfield 19, 3) := by decide +kernel
theorem dX11_lates_33 : decode cX11_lates 33 = .ok (.iload_n 2, 1) := by decide +kernel
theorem dX11_lates_34 : decode cX11_lates 34 = .ok (.invokevirtual 223, 3) := by decide +kernel
theorem dX11_lates_37 : decode cX11_lates 37 = .ok (.iconst 1, 1) := by decide +kernel
theorem dX11_lates_38 : decode cX11_lates 38 = .ok (.if_icmp .lt 9, 3) := by decide +kernel
theorem dX11_lates_41 : decode cX11_lates 41 = .ok (.iload_n 1, 1) := by decide +kernel
theorem dX11_lates_42 : decode cX11_lates 42 = .ok (.iconst 1, 1) := by decide +kernel
theorem dX11_lates_43 : decode cX11_lates 43 = .ok (.iload_n 2, 1) := by decide +kernel
theorem dX11_lates_44 : decode cX11_lates 44 = .ok (.ishl, 1) := by decide +kernel
theorem dX11_lates_45 : decode cX11_lates 45 = .ok (.ior, 1) := by decide +kernel
theorem dX11_lates_46 : decode cX11_lates 46 = .ok (.istore_n 1, 1) := by decide +kernel
theorem dX11_lates_47 : decode cX11_lates 47 = .ok (.iinc 2 1, 3) := by decide +kernel
theorem dX11_lates_50 : decode cX11_lates 50 = .ok (.goto (-36), 3) := by decide +kernel
theorem dX11_lates_53 : decode cX11_lates 53 = .ok (.iload_n 1, 1) := by decide +kernel
theorem dX11_lates_54 : decode cX11_lates 54 = .ok (.ireturn, 1) := by decide +kernel
noncomputable def vX11_lates : List Cond := .code yX11_lates cX11_lates 3 (some .int) :: (([.methodLink RX11 195 yX11_isTold, .instanceMethod yX11_isTold, .selects RX11 yX11_isTold yX11_isTold, .initialized RX11, .fieldLink RX11 19 "IcicleClock" "now" "LIcicleClock$Street;", .fieldLink RX11 226 "IcicleClock$Street" "works" "I", .fieldLink RX11 44 "IcicleClock" "winter" "LIcicleClock$Winter;", .methodLink RX11 223 yX10_lateness, .instanceMethod yX10_lateness, .selects RX10 yX10_lateness yX10_lateness, .initialized RX10] : List Cond) ++ (wsX110 ++ (wsX60 ++ (vX11_isTold ++ vX10_lateness))))
theorem iX11_lates_11 : ∀ w ∈ wsX110, w ∈ vX11_lates := fun _ h => List.mem_cons_of_mem _ (List.mem_append_right _ (List.mem_append_left _ h))
theorem iX11_lates_6 : ∀ w ∈ wsX60, w ∈ vX11_lates := fun _ h => List.mem_cons_of_mem _ (List.mem_append_right _ (List.mem_append_right _ (List.mem_append_left _ h)))
theorem gs_X11_lates : Gd vX11_lates := Gd.cons (by decide +kernel) (Gd.app (Gd.r (by decide +kernel)) (Gd.app gwX_11 (Gd.app gwX_6 (Gd.app gs_X11_isTold gs_X10_lateness))))
theorem gg_X11_lates_X11_isTold : GoodIn vX11_lates (wsV RX11 195 RX11 yX11_isTold vX11_isTold) := goodIn_app (goodIn_r _ [1, 2, 3, 4] (by decide +kernel) (by decide +kernel)) (fun w h => ⟨List.mem_cons_of_mem _ (List.mem_append_right _ (List.mem_append_right _ (List.mem_append_right _ (List.mem_append_left _ h)))), gs_X11_isTold w h⟩)
theorem gg_X11_lates_X10_lateness : GoodIn vX11_lates (wsV RX11 223 RX10 yX10_lateness vX10_lateness) := goodIn_app (goodIn_r _ [8, 9, 10, 11] (by decide +kernel) (by decide +kernel)) (fun w h => ⟨List.mem_cons_of_mem _ (List.mem_append_right _ (List.mem_append_right _ (List.mem_append_right _ (List.mem_append_right _ (h))))), gs_X10_lateness w h⟩)
set_option maxHeartbeats 4000000 in
set_option maxRecDepth 100000 in
theorem s_X11_lates (l : Launch) (D : va_G) (cs : Nat → ClassId) (ad : Nat → Nat) (kS : kSt) (K : sK) (hKO : KO K) (hj : wJ ad 218) (g : Nat → va_E) (hW : WF (shp ad K) ad cs g) : sI l yX11_lates vX11_lates { frames := 1, cells := 0, slots := 0, locals := 23 } D cs ad kS [.ref (ad 0)] g (fun r g2 => g2 = g) := by
  refine Met.startS (cc := cX11_lates) (maxL := 3) (ret := (some .int)) RX11 rfl (by decide) rfl (Nat.le_of_ble_eq_true rfl) ?_
  intro p e s m below meth c ls X Z hP hl
  have hx := X.1
  have hb := X.2.1
  have hS : va_S (wA ad 218) s.heap s.heap [] := va_S.rf
  have hA : ∀ i, i < 218 → wA ad 218 (ad i) := fun i h => ⟨i, h, rfl⟩
  have hl : lv_has ls 3 [(0, .ref (ad 0))] := hl
  refine lv_aload_n hx hb dX11_lates_0 rfl (lv_at hl 0 rfl) ?_
  obtain ⟨fsc_4, hgc_4, hOc_4⟩ := hW.obj (i := 0) (by decide) (sh_0 ad K)
  refine s_calli (q := (RX11, TX11, 14)) (As := []) (rest := []) X Z (s_X11_isTold l D cs ad kS K hKO hj g hW) (cwV 0 X.2.2.2.2.1 gg_X11_lates_X11_isTold rfl rfl rfl (by decide +kernel) ⟨Nat.le_of_ble_eq_true rfl, Nat.le_of_ble_eq_true rfl⟩) (by decide) hgc_4 rfl hP hA hS.2.1 hS rfl hl.1 rfl (Nat.le_of_ble_eq_true rfl) dX11_lates_1 ⟨Nat.le_of_ble_eq_true rfl, Nat.le_of_ble_eq_true rfl⟩ (fun r_3 g_2 H locs hw_1 hP hS => ?_)
  obtain ⟨hw_1g, hw_1⟩ := hw_1
  rw [hw_1g] at hP
  refine lv_if_ne (tgt := 10) hx hb dX11_lates_4 (by decide) (fun hc_5 => ?_) (fun hc_5 => ?_)
  · have hhc_5 := n_ne (rfl : r_3.toInt = r_3.toInt) (by decide : (0 : Int32).toInt = 0) hc_5
    refine lv_iconst (v := 0) hx hb dX11_lates_10 (by decide) ?_
    refine lv_istore_n (lv' := [(1, .int 0), (0, .ref (ad 0))]) hx hb dX11_lates_11 rfl hl (by decide) rfl (fun ls hl => ?_)
    refine lv_iconst (v := 0) hx hb dX11_lates_12 (by decide) ?_
    refine lv_istore_n (lv' := [(2, .int 0), (1, .int 0), (0, .ref (ad 0))]) hx hb dX11_lates_13 rfl hl (by decide) rfl (fun ls hl => ?_)
    have HL14 : ∀ (n14 : Nat) (v14_2 : Int32) (v14_1 : Int32) (H : Heap) (locs : List Loc) (ls : Array Slot), (6 - v14_2.toInt).toNat < n14 → (0 ≤ v14_2.toInt ∧ v14_2.toInt ≤ 6) → va_P D vwCl (wL ad g 218) H → va_S (wA ad 218) s.heap H locs → lv_has ls 3 [(2, .int v14_2), (1, .int v14_1), (0, .ref (ad 0))] → W p l e ({ frames := 1, cells := 0, slots := 0, locals := 23 } : Room) s m ([.ref (ad 0)] : List Value).toArray below meth c H locs 0 0 (MQ below (qI D ad 218 (fun r g2 => g2 = g)) ([.ref (ad 0)] : List Value).toArray s 0 0 (wA ad 218)) (F0 m 14 ls []) := by
      intro n14
      induction n14 with
      | zero =>
        intro v14_2 v14_1 H locs ls hm14 hv14_0 hP hS hl
        exact absurd hm14 (Nat.not_lt_zero _)
      | succ n14 ih14 =>
        intro v14_2 v14_1 H locs ls hm14 hv14_0 hP hS hl
        refine lv_iload_n hx hb dX11_lates_14 rfl (lv_at hl 0 rfl) ?_
        refine lv_aload_n hx hb dX11_lates_15 rfl (lv_at hl 2 rfl) ?_
        have hk_6 := hOc_4.ref 1 rfl
        refine q_get X iX11_lates_11 hP (by decide) hgc_4 rfl 1 (by decide) (List.mem_of_getElem? (i := 5) rfl) (v := .ref (ad 3)) hk_6 dX11_lates_16 ?_
        obtain ⟨fsc_7, hgc_7, hOc_7⟩ := hW.obj (i := 3) (by decide) (sh_3 ad K)
        obtain ⟨x_9, hk_8, hlx_9, hhx_9⟩ := hOc_7.int 6 rfl
        refine q_get X iX11_lates_6 hP (by decide) hgc_7 rfl 6 (by decide) (List.mem_of_getElem? (i := 6) rfl) (v := .int x_9) hk_8 dX11_lates_19 ?_
        refine lv_icmp_ge (tgt := 53) hx hb dX11_lates_22 (by decide) (fun hc_10 => ?_) (fun hc_10 => ?_)
        · have hhc_10 := n_le (rfl : x_9.toInt = x_9.toInt) (rfl : v14_2.toInt = v14_2.toInt) hc_10
          refine lv_iload_n hx hb dX11_lates_53 rfl (lv_at hl 1 rfl) ?_
          exact q_iret X hP hS rfl dX11_lates_54
        · have hhc_10 := n_nle (rfl : x_9.toInt = x_9.toInt) (rfl : v14_2.toInt = v14_2.toInt) hc_10
          refine lv_aload_n hx hb dX11_lates_25 rfl (lv_at hl 2 rfl) ?_
          have hk_11 := hOc_4.ref 6 rfl
          refine q_get X iX11_lates_11 hP (by decide) hgc_4 rfl 6 (by decide) (List.mem_of_getElem? (i := 7) rfl) (v := .ref (ad 114)) hk_11 dX11_lates_26 ?_
          refine lv_aload_n hx hb dX11_lates_29 rfl (lv_at hl 2 rfl) ?_
          refine q_get X iX11_lates_11 hP (by decide) hgc_4 rfl 1 (by decide) (List.mem_of_getElem? (i := 5) rfl) (v := .ref (ad 3)) hk_6 dX11_lates_30 ?_
          refine lv_iload_n hx hb dX11_lates_33 rfl (lv_at hl 0 rfl) ?_
          obtain ⟨fsc_15, hgc_15, hOc_15⟩ := hW.obj (i := 114) (by decide) (sh_114 ad K)
          refine s_calli (q := (RX10, TX10, 4)) (As := [.ref (ad 3), .int v14_2]) (rest := []) X Z (s_X10_lateness l D cs ad kS K hKO hj g hW 114 v14_2 (by omega) (by omega)) (cwV 2 X.2.2.2.2.1 gg_X11_lates_X10_lateness rfl rfl rfl (by decide +kernel) ⟨Nat.le_of_ble_eq_true rfl, Nat.le_of_ble_eq_true rfl⟩) (by decide) hgc_15 rfl hP hA hS.2.1 hS rfl hl.1 rfl (Nat.le_of_ble_eq_true rfl) dX11_lates_34 ⟨Nat.le_of_ble_eq_true rfl, Nat.le_of_ble_eq_true rfl⟩ (fun r_14 g_13 H locs hw_12 hP hS => ?_)
          rw [hw_12] at hP
          refine lv_iconst (v := 1) hx hb dX11_lates_37 (by decide) ?_
          have HJ47 : ∀ (v47_1 : Int32) (H : Heap) (locs : List Loc) (ls : Array Slot), va_P D vwCl (wL ad g 218) H → va_S (wA ad 218) s.heap H locs → lv_has ls 3 [(2, .int v14_2), (1, .int v47_1), (0, .ref (ad 0))] → W p l e ({ frames := 1, cells := 0, slots := 0, locals := 23 } : Room) s m ([.ref (ad 0)] : List Value).toArray below meth c H locs 0 0 (MQ below (qI D ad 218 (fun r g2 => g2 = g)) ([.ref (ad 0)] : List Value).toArray s 0 0 (wA ad 218)) (F0 m 47 ls []) := by
            intro v47_1 H locs ls hP hS hl
            obtain ⟨x_16, ex_16⟩ : ∃ y : Int32, y = v14_2 + 1 := ⟨_, rfl⟩
            have hx_16 : x_16.toInt = v14_2.toInt + 1 := n_add rfl (by decide : (1 : Int32).toInt = 1) ex_16 (by omega) (by omega)
            refine lv_iinc (v := x_16) (lv' := [(2, .int x_16), (1, .int v47_1), (0, .ref (ad 0))]) hx hb dX11_lates_47 hl (k := 0) rfl (by rw [ex_16]; rfl) (by decide) rfl (fun ls hl => ?_)
            refine lv_goto (tgt := 14) hx hb dX11_lates_50 (by decide) ?_
            exact ih14 x_16 v47_1 _ _ ls (by omega) (by omega) hP hS (lv_sub hl [0, 1, 2] rfl)
          refine lv_icmp_lt (tgt := 47) hx hb dX11_lates_38 (by decide) (fun hc_17 => ?_) (fun hc_17 => ?_)
          · have hhc_17 := n_lt (rfl : r_14.toInt = r_14.toInt) (by decide : (1 : Int32).toInt = 1) hc_17
            exact HJ47 v14_1 _ _ ls hP hS (lv_sub hl [0, 1, 2] rfl)
          · have hhc_17 := n_nlt (rfl : r_14.toInt = r_14.toInt) (by decide : (1 : Int32).toInt = 1) hc_17
            refine lv_iload_n hx hb dX11_lates_41 rfl (lv_at hl 1 rfl) ?_
            refine lv_iconst (v := 1) hx hb dX11_lates_42 (by decide) ?_
            refine lv_iload_n hx hb dX11_lates_43 rfl (lv_at hl 0 rfl) ?_
            refine lv_ishl hx hb dX11_lates_44 ?_
            refine lv_topi (fun z_18 ez_18 => ?_)
            refine lv_ior hx hb dX11_lates_45 ?_
            refine lv_topi (fun z_19 ez_19 => ?_)
            refine lv_istore_n (lv' := [(1, .int z_19), (2, .int v14_2), (0, .ref (ad 0))]) hx hb dX11_lates_46 rfl hl (by decide) rfl (fun ls hl => ?_)
            exact HJ47 z_19 _ _ ls hP hS (lv_sub hl [1, 0, 2] rfl)
    have hiv14_2 : (0 : Int32).toInt = 0 := by decide
    have hiv14_1 : (0 : Int32).toInt = 0 := by decide
    exact HL14 _ 0 0 _ _ ls (Nat.lt_succ_self _) (by omega) hP hS (lv_sub hl [0, 1, 2] rfl)
  · have hhc_5 := n_eq (rfl : r_3.toInt = r_3.toInt) (by decide : (0 : Int32).toInt = 0) hc_5
    refine lv_bipush (v := (-2)) hx hb dX11_lates_7 (by decide) ?_
    exact q_iret X hP hS rfl dX11_lates_9

theorem dX11_off_0 : decode cX11_off 0 = .ok (.aload_n 0, 1) := by decide +kernel
theorem dX11_off_1 : decode cX11_off 1 = .ok (.invokevirtual 195, 3) := by decide +kernel
theorem dX11_off_4 : decode cX11_off 4 = .ok (.ifCond .eq 17, 3) := by decide +kernel
theorem dX11_off_7 : decode cX11_off 7 = .ok (.aload_n 0, 1) := by decide +kernel
theorem dX11_off_8 : decode cX11_off 8 = .ok (.getfield 44, 3) := by decide +kernel
theorem dX11_off_11 : decode cX11_off 11 = .ok (.aload_n 0, 1) := by decide +kernel
theorem dX11_off_12 : decode cX11_off 12 = .ok (.getfield 19, 3) := by decide +kernel
theorem dX11_off_15 : decode cX11_off 15 = .ok (.invokevirtual 229, 3) := by decide +kernel
theorem dX11_off_18 : decode cX11_off 18 = .ok (.goto 5, 3) := by decide +kernel
theorem dX11_off_21 : decode cX11_off 21 = .ok (.bipush (-2), 2) := by decide +kernel
theorem dX11_off_23 : decode cX11_off 23 = .ok (.ireturn, 1) := by decide +kernel
noncomputable def vX11_off : List Cond := .code yX11_off cX11_off 1 (some .int) :: (([.methodLink RX11 195 yX11_isTold, .instanceMethod yX11_isTold, .selects RX11 yX11_isTold yX11_isTold, .initialized RX11, .fieldLink RX11 44 "IcicleClock" "winter" "LIcicleClock$Winter;", .fieldLink RX11 19 "IcicleClock" "now" "LIcicleClock$Street;", .methodLink RX11 229 yX10_offTogether, .instanceMethod yX10_offTogether, .selects RX10 yX10_offTogether yX10_offTogether, .initialized RX10] : List Cond) ++ (wsX110 ++ (vX11_isTold ++ vX10_offTogether)))
theorem iX11_off_11 : ∀ w ∈ wsX110, w ∈ vX11_off := fun _ h => List.mem_cons_of_mem _ (List.mem_append_right _ (List.mem_append_left _ h))
theorem gs_X11_off : Gd vX11_off := Gd.cons (by decide +kernel) (Gd.app (Gd.r (by decide +kernel)) (Gd.app gwX_11 (Gd.app gs_X11_isTold gs_X10_offTogether)))
theorem gg_X11_off_X11_isTold : GoodIn vX11_off (wsV RX11 195 RX11 yX11_isTold vX11_isTold) := goodIn_app (goodIn_r _ [1, 2, 3, 4] (by decide +kernel) (by decide +kernel)) (fun w h => ⟨List.mem_cons_of_mem _ (List.mem_append_right _ (List.mem_append_right _ (List.mem_append_left _ h))), gs_X11_isTold w h⟩)
theorem gg_X11_off_X10_offTogether : GoodIn vX11_off (wsV RX11 229 RX10 yX10_offTogether vX10_offTogether) := goodIn_app (goodIn_r _ [7, 8, 9, 10] (by decide +kernel) (by decide +kernel)) (fun w h => ⟨List.mem_cons_of_mem _ (List.mem_append_right _ (List.mem_append_right _ (List.mem_append_right _ (h)))), gs_X10_offTogether w h⟩)
set_option maxHeartbeats 4000000 in
set_option maxRecDepth 100000 in
theorem s_X11_off (l : Launch) (D : va_G) (cs : Nat → ClassId) (ad : Nat → Nat) (kS : kSt) (K : sK) (hKO : KO K) (hj : wJ ad 218) (g : Nat → va_E) (hW : WF (shp ad K) ad cs g) : sI l yX11_off vX11_off { frames := 2, cells := 0, slots := 0, locals := 46 } D cs ad kS [.ref (ad 0)] g (fun r g2 => g2 = g) := by
  refine Met.startS (cc := cX11_off) (maxL := 1) (ret := (some .int)) RX11 rfl (by decide) rfl (Nat.le_of_ble_eq_true rfl) ?_
  intro p e s m below meth c ls X Z hP hl
  have hx := X.1
  have hb := X.2.1
  have hS : va_S (wA ad 218) s.heap s.heap [] := va_S.rf
  have hA : ∀ i, i < 218 → wA ad 218 (ad i) := fun i h => ⟨i, h, rfl⟩
  have hl : lv_has ls 1 [(0, .ref (ad 0))] := hl
  refine lv_aload_n hx hb dX11_off_0 rfl (lv_at hl 0 rfl) ?_
  obtain ⟨fsc_4, hgc_4, hOc_4⟩ := hW.obj (i := 0) (by decide) (sh_0 ad K)
  refine s_calli (q := (RX11, TX11, 14)) (As := []) (rest := []) X Z (s_X11_isTold l D cs ad kS K hKO hj g hW) (cwV 0 X.2.2.2.2.1 gg_X11_off_X11_isTold rfl rfl rfl (by decide +kernel) ⟨Nat.le_of_ble_eq_true rfl, Nat.le_of_ble_eq_true rfl⟩) (by decide) hgc_4 rfl hP hA hS.2.1 hS rfl hl.1 rfl (Nat.le_of_ble_eq_true rfl) dX11_off_1 ⟨Nat.le_of_ble_eq_true rfl, Nat.le_of_ble_eq_true rfl⟩ (fun r_3 g_2 H locs hw_1 hP hS => ?_)
  obtain ⟨hw_1g, hw_1⟩ := hw_1
  rw [hw_1g] at hP
  refine lv_if_eq (tgt := 21) hx hb dX11_off_4 (by decide) (fun hc_5 => ?_) (fun hc_5 => ?_)
  · have hhc_5 := n_eq (rfl : r_3.toInt = r_3.toInt) (by decide : (0 : Int32).toInt = 0) hc_5
    refine lv_bipush (v := (-2)) hx hb dX11_off_21 (by decide) ?_
    exact q_iret X hP hS rfl dX11_off_23
  · have hhc_5 := n_ne (rfl : r_3.toInt = r_3.toInt) (by decide : (0 : Int32).toInt = 0) hc_5
    refine lv_aload_n hx hb dX11_off_7 rfl (lv_at hl 0 rfl) ?_
    have hk_6 := hOc_4.ref 6 rfl
    refine q_get X iX11_off_11 hP (by decide) hgc_4 rfl 6 (by decide) (List.mem_of_getElem? (i := 5) rfl) (v := .ref (ad 114)) hk_6 dX11_off_8 ?_
    refine lv_aload_n hx hb dX11_off_11 rfl (lv_at hl 0 rfl) ?_
    have hk_7 := hOc_4.ref 1 rfl
    refine q_get X iX11_off_11 hP (by decide) hgc_4 rfl 1 (by decide) (List.mem_of_getElem? (i := 6) rfl) (v := .ref (ad 3)) hk_7 dX11_off_12 ?_
    obtain ⟨fsc_11, hgc_11, hOc_11⟩ := hW.obj (i := 114) (by decide) (sh_114 ad K)
    refine s_calli (q := (RX10, TX10, 4)) (As := [.ref (ad 3)]) (rest := []) X Z (s_X10_offTogether l D cs ad kS K hKO hj g hW 114 (by omega)) (cwV 1 X.2.2.2.2.1 gg_X11_off_X10_offTogether rfl rfl rfl (by decide +kernel) ⟨Nat.le_of_ble_eq_true rfl, Nat.le_of_ble_eq_true rfl⟩) (by decide) hgc_11 rfl hP hA hS.2.1 hS rfl hl.1 rfl (Nat.le_of_ble_eq_true rfl) dX11_off_15 ⟨Nat.le_of_ble_eq_true rfl, Nat.le_of_ble_eq_true rfl⟩ (fun r_10 g_9 H locs hw_8 hP hS => ?_)
    rw [hw_8] at hP
    refine lv_goto (tgt := 23) hx hb dX11_off_18 (by decide) ?_
    exact q_iret X hP hS rfl dX11_off_23

theorem dX11_worst_0 : decode cX11_worst 0 = .ok (.aload_n 0, 1) := by decide +kernel
theorem dX11_worst_1 : decode cX11_worst 1 = .ok (.invokevirtual 195, 3) := by decide +kernel
theorem dX11_worst_4 : decode cX11_worst 4 = .ok (.ifCond .ne 6, 3) := by decide +kernel
theorem dX11_worst_7 : decode cX11_worst 7 = .ok (.bipush (-2), 2) := by decide +kernel
theorem dX11_worst_9 : decode cX11_worst 9 = .ok (.ireturn, 1) := by decide +kernel
theorem dX11_worst_10 : decode cX11_worst 10 = .ok (.iconst (-1), 1) := by decide +kernel
theorem dX11_worst_11 : decode cX11_worst 11 = .ok (.istore_n 1, 1) := by decide +kernel
theorem dX11_worst_12 : decode cX11_worst 12 = .ok (.iconst 0, 1) := by decide +kernel
theorem dX11_worst_13 : decode cX11_worst 13 = .ok (.istore_n 2, 1) := by decide +kernel
theorem dX11_worst_14 : decode cX11_worst 14 = .ok (.iconst 0, 1) := by decide +kernel
theorem dX11_worst_15 : decode cX11_worst 15 = .ok (.istore_n 3, 1) := by decide +kernel
theorem dX11_worst_16 : decode cX11_worst 16 = .ok (.iload_n 3, 1) := by decide +kernel
theorem dX11_worst_17 : decode cX11_worst 17 = .ok (.aload_n 0, 1) := by decide +kernel
theorem dX11_worst_18 : decode cX11_worst 18 = .ok (.getfield 19, 3) := by decide +kernel
theorem dX11_worst_21 : decode cX11_worst 21 = .ok (.getfield 226, 3) := by decide +kernel
theorem dX11_worst_24 : decode cX11_worst 24 = .ok (.if_icmp .ge 37, 3) := by decide +kernel
theorem dX11_worst_27 : decode cX11_worst 27 = .ok (.aload_n 0, 1) := by decide +kernel
theorem dX11_worst_28 : decode cX11_worst 28 = .ok (.getfield 44, 3) := by decide +kernel
theorem dX11_worst_31 : decode cX11_worst 31 = .ok (.aload_n 0, 1) := by decide +kernel
theorem dX11_worst_32 : decode cX11_worst 32 = .ok (.getfield 19, 3) := by decide +kernel
theorem dX11_worst_35 : decode cX11_worst 35 = .ok (.iload_n 3, 1) := by decide +kernel
theorem dX11_worst_36 : decode cX11_worst 36 = .ok (.invokevirtual 223, 3) := by decide +kernel
theorem dX11_worst_39 : decode cX11_worst 39 = .ok (.invokestatic 217, 3) := by decide +kernel
theorem dX11_worst_42 : decode cX11_worst 42 = .ok (.istore 4, 2) := by decide +kernel
theorem dX11_worst_44 : decode cX11_worst 44 = .ok (.iload 4, 2) := by decide +kernel
theorem dX11_worst_46 : decode cX11_worst 46 = .ok (.iload_n 2, 1) := by decide +kernel
theorem dX11_worst_47 : decode cX11_worst 47 = .ok (.if_icmp .le 8, 3) := by decide +kernel
theorem dX11_worst_50 : decode cX11_worst 50 = .ok (.iload 4, 2) := by decide +kernel
theorem dX11_worst_52 : decode cX11_worst 52 = .ok (.istore_n 2, 1) := by decide +kernel
theorem dX11_worst_53 : decode cX11_worst 53 = .ok (.iload_n 3, 1) := by decide +kernel
theorem dX11_worst_54 : decode cX11_worst 54 = .ok (.istore_n 1, 1) := by decide +kernel
theorem dX11_worst_55 : decode cX11_worst 55 = .ok (.iinc 3 1, 3) := by decide +kernel
theorem dX11_worst_58 : decode cX11_worst 58 = .ok (.goto (-42), 3) := by decide +kernel
theorem dX11_worst_61 : decode cX11_worst 61 = .ok (.iload_n 1, 1) := by decide +kernel
theorem dX11_worst_62 : decode cX11_worst 62 = .ok (.ireturn, 1) := by decide +kernel
noncomputable def vX11_worst : List Cond := .code yX11_worst cX11_worst 5 (some .int) :: (([.methodLink RX11 195 yX11_isTold, .instanceMethod yX11_isTold, .selects RX11 yX11_isTold yX11_isTold, .initialized RX11, .fieldLink RX11 19 "IcicleClock" "now" "LIcicleClock$Street;", .fieldLink RX11 226 "IcicleClock$Street" "works" "I", .fieldLink RX11 44 "IcicleClock" "winter" "LIcicleClock$Winter;", .methodLink RX11 223 yX10_lateness, .instanceMethod yX10_lateness, .selects RX10 yX10_lateness yX10_lateness, .initialized RX10, .methodLink RX11 217 Lib.Math.abs.name, .static Lib.Math.abs.name, .initialized "java/lang/Math", .code Lib.Math.abs.name Lib.Math.abs.code 1 (some .int)] : List Cond) ++ (wsX110 ++ (wsX60 ++ (vX11_isTold ++ vX10_lateness))))
theorem iX11_worst_11 : ∀ w ∈ wsX110, w ∈ vX11_worst := fun _ h => List.mem_cons_of_mem _ (List.mem_append_right _ (List.mem_append_left _ h))
theorem iX11_worst_6 : ∀ w ∈ wsX60, w ∈ vX11_worst := fun _ h => List.mem_cons_of_mem _ (List.mem_append_right _ (List.mem_append_right _ (List.mem_append_left _ h)))
theorem gs_X11_worst : Gd vX11_worst := Gd.cons (by decide +kernel) (Gd.app (Gd.r (by decide +kernel)) (Gd.app gwX_11 (Gd.app gwX_6 (Gd.app gs_X11_isTold gs_X10_lateness))))
theorem gg_X11_worst_X11_isTold : GoodIn vX11_worst (wsV RX11 195 RX11 yX11_isTold vX11_isTold) := goodIn_app (goodIn_r _ [1, 2, 3, 4] (by decide +kernel) (by decide +kernel)) (fun w h => ⟨List.mem_cons_of_mem _ (List.mem_append_right _ (List.mem_append_right _ (List.mem_append_right _ (List.mem_append_left _ h)))), gs_X11_isTold w h⟩)
theorem gg_X11_worst_X10_lateness : GoodIn vX11_worst (wsV RX11 223 RX10 yX10_lateness vX10_lateness) := goodIn_app (goodIn_r _ [8, 9, 10, 11] (by decide +kernel) (by decide +kernel)) (fun w h => ⟨List.mem_cons_of_mem _ (List.mem_append_right _ (List.mem_append_right _ (List.mem_append_right _ (List.mem_append_right _ (h))))), gs_X10_lateness w h⟩)
set_option maxHeartbeats 4000000 in
set_option maxRecDepth 100000 in
theorem s_X11_worst (l : Launch) (D : va_G) (cs : Nat → ClassId) (ad : Nat → Nat) (kS : kSt) (K : sK) (hKO : KO K) (hj : wJ ad 218) (g : Nat → va_E) (hW : WF (shp ad K) ad cs g) : sI l yX11_worst vX11_worst { frames := 1, cells := 0, slots := 0, locals := 23 } D cs ad kS [.ref (ad 0)] g (fun r g2 => g2 = g) := by
  refine Met.startS (cc := cX11_worst) (maxL := 5) (ret := (some .int)) RX11 rfl (by decide) rfl (Nat.le_of_ble_eq_true rfl) ?_
  intro p e s m below meth c ls X Z hP hl
  have hx := X.1
  have hb := X.2.1
  have hS : va_S (wA ad 218) s.heap s.heap [] := va_S.rf
  have hA : ∀ i, i < 218 → wA ad 218 (ad i) := fun i h => ⟨i, h, rfl⟩
  have hl : lv_has ls 5 [(0, .ref (ad 0))] := hl
  refine lv_aload_n hx hb dX11_worst_0 rfl (lv_at hl 0 rfl) ?_
  obtain ⟨fsc_4, hgc_4, hOc_4⟩ := hW.obj (i := 0) (by decide) (sh_0 ad K)
  refine s_calli (q := (RX11, TX11, 14)) (As := []) (rest := []) X Z (s_X11_isTold l D cs ad kS K hKO hj g hW) (cwV 0 X.2.2.2.2.1 gg_X11_worst_X11_isTold rfl rfl rfl (by decide +kernel) ⟨Nat.le_of_ble_eq_true rfl, Nat.le_of_ble_eq_true rfl⟩) (by decide) hgc_4 rfl hP hA hS.2.1 hS rfl hl.1 rfl (Nat.le_of_ble_eq_true rfl) dX11_worst_1 ⟨Nat.le_of_ble_eq_true rfl, Nat.le_of_ble_eq_true rfl⟩ (fun r_3 g_2 H locs hw_1 hP hS => ?_)
  obtain ⟨hw_1g, hw_1⟩ := hw_1
  rw [hw_1g] at hP
  refine lv_if_ne (tgt := 10) hx hb dX11_worst_4 (by decide) (fun hc_5 => ?_) (fun hc_5 => ?_)
  · have hhc_5 := n_ne (rfl : r_3.toInt = r_3.toInt) (by decide : (0 : Int32).toInt = 0) hc_5
    refine lv_iconst (v := (-1)) hx hb dX11_worst_10 (by decide) ?_
    refine lv_istore_n (lv' := [(1, .int (-1)), (0, .ref (ad 0))]) hx hb dX11_worst_11 rfl hl (by decide) rfl (fun ls hl => ?_)
    refine lv_iconst (v := 0) hx hb dX11_worst_12 (by decide) ?_
    refine lv_istore_n (lv' := [(2, .int 0), (1, .int (-1)), (0, .ref (ad 0))]) hx hb dX11_worst_13 rfl hl (by decide) rfl (fun ls hl => ?_)
    refine lv_iconst (v := 0) hx hb dX11_worst_14 (by decide) ?_
    refine lv_istore_n (lv' := [(3, .int 0), (2, .int 0), (1, .int (-1)), (0, .ref (ad 0))]) hx hb dX11_worst_15 rfl hl (by decide) rfl (fun ls hl => ?_)
    have HL16 : ∀ (n16 : Nat) (v16_3 : Int32) (v16_2 : Int32) (v16_1 : Int32) (H : Heap) (locs : List Loc) (ls : Array Slot), (6 - v16_3.toInt).toNat < n16 → (0 ≤ v16_3.toInt ∧ v16_3.toInt ≤ 6) → (0 ≤ v16_2.toInt) → ((-1) ≤ v16_1.toInt ∧ v16_1.toInt ≤ 5) → va_P D vwCl (wL ad g 218) H → va_S (wA ad 218) s.heap H locs → lv_has ls 5 [(3, .int v16_3), (2, .int v16_2), (1, .int v16_1), (0, .ref (ad 0))] → W p l e ({ frames := 1, cells := 0, slots := 0, locals := 23 } : Room) s m ([.ref (ad 0)] : List Value).toArray below meth c H locs 0 0 (MQ below (qI D ad 218 (fun r g2 => g2 = g)) ([.ref (ad 0)] : List Value).toArray s 0 0 (wA ad 218)) (F0 m 16 ls []) := by
      intro n16
      induction n16 with
      | zero =>
        intro v16_3 v16_2 v16_1 H locs ls hm16 hv16_0 hv16_1 hv16_2 hP hS hl
        exact absurd hm16 (Nat.not_lt_zero _)
      | succ n16 ih16 =>
        intro v16_3 v16_2 v16_1 H locs ls hm16 hv16_0 hv16_1 hv16_2 hP hS hl
        refine lv_iload_n hx hb dX11_worst_16 rfl (lv_at hl 0 rfl) ?_
        refine lv_aload_n hx hb dX11_worst_17 rfl (lv_at hl 3 rfl) ?_
        have hk_6 := hOc_4.ref 1 rfl
        refine q_get X iX11_worst_11 hP (by decide) hgc_4 rfl 1 (by decide) (List.mem_of_getElem? (i := 5) rfl) (v := .ref (ad 3)) hk_6 dX11_worst_18 ?_
        obtain ⟨fsc_7, hgc_7, hOc_7⟩ := hW.obj (i := 3) (by decide) (sh_3 ad K)
        obtain ⟨x_9, hk_8, hlx_9, hhx_9⟩ := hOc_7.int 6 rfl
        refine q_get X iX11_worst_6 hP (by decide) hgc_7 rfl 6 (by decide) (List.mem_of_getElem? (i := 6) rfl) (v := .int x_9) hk_8 dX11_worst_21 ?_
        refine lv_icmp_ge (tgt := 61) hx hb dX11_worst_24 (by decide) (fun hc_10 => ?_) (fun hc_10 => ?_)
        · have hhc_10 := n_le (rfl : x_9.toInt = x_9.toInt) (rfl : v16_3.toInt = v16_3.toInt) hc_10
          refine lv_iload_n hx hb dX11_worst_61 rfl (lv_at hl 2 rfl) ?_
          exact q_iret X hP hS rfl dX11_worst_62
        · have hhc_10 := n_nle (rfl : x_9.toInt = x_9.toInt) (rfl : v16_3.toInt = v16_3.toInt) hc_10
          refine lv_aload_n hx hb dX11_worst_27 rfl (lv_at hl 3 rfl) ?_
          have hk_11 := hOc_4.ref 6 rfl
          refine q_get X iX11_worst_11 hP (by decide) hgc_4 rfl 6 (by decide) (List.mem_of_getElem? (i := 7) rfl) (v := .ref (ad 114)) hk_11 dX11_worst_28 ?_
          refine lv_aload_n hx hb dX11_worst_31 rfl (lv_at hl 3 rfl) ?_
          refine q_get X iX11_worst_11 hP (by decide) hgc_4 rfl 1 (by decide) (List.mem_of_getElem? (i := 5) rfl) (v := .ref (ad 3)) hk_6 dX11_worst_32 ?_
          refine lv_iload_n hx hb dX11_worst_35 rfl (lv_at hl 0 rfl) ?_
          obtain ⟨fsc_15, hgc_15, hOc_15⟩ := hW.obj (i := 114) (by decide) (sh_114 ad K)
          refine s_calli (q := (RX10, TX10, 4)) (As := [.ref (ad 3), .int v16_3]) (rest := []) X Z (s_X10_lateness l D cs ad kS K hKO hj g hW 114 v16_3 (by omega) (by omega)) (cwV 2 X.2.2.2.2.1 gg_X11_worst_X10_lateness rfl rfl rfl (by decide +kernel) ⟨Nat.le_of_ble_eq_true rfl, Nat.le_of_ble_eq_true rfl⟩) (by decide) hgc_15 rfl hP hA hS.2.1 hS rfl hl.1 rfl (Nat.le_of_ble_eq_true rfl) dX11_worst_36 ⟨Nat.le_of_ble_eq_true rfl, Nat.le_of_ble_eq_true rfl⟩ (fun r_14 g_13 H locs hw_12 hP hS => ?_)
          rw [hw_12] at hP
          refine va_mabs hx hb (X.2.2.2.1.trans hl.1.symm) X.2.2.2.2.2.1 (X.2.2.2.2.1 _ (List.mem_of_getElem? (i := 12) rfl)) (X.2.2.2.2.1 _ (List.mem_of_getElem? (i := 13) rfl)) (X.2.2.2.2.1 _ (List.mem_of_getElem? (i := 14) rfl)) (X.2.2.2.2.1 _ (List.mem_of_getElem? (i := 15) rfl)) (Nat.le_of_ble_eq_true rfl) (Nat.le_of_ble_eq_true rfl) (Nat.le_of_ble_eq_true rfl) (Nat.le_of_ble_eq_true rfl) dX11_worst_39 ?_
          refine lv_topi (fun z_16 ez_16 => ?_)
          refine lv_istore (lv' := [(4, .int z_16), (3, .int v16_3), (2, .int v16_2), (1, .int v16_1), (0, .ref (ad 0))]) hx hb dX11_worst_42 hl (by decide) rfl (fun ls hl => ?_)
          refine lv_iload hx hb dX11_worst_44 (lv_at hl 0 rfl) ?_
          refine lv_iload_n hx hb dX11_worst_46 rfl (lv_at hl 2 rfl) ?_
          have HJ55 : ∀ (v55_2 : Int32) (v55_1 : Int32) (H : Heap) (locs : List Loc) (ls : Array Slot), (0 ≤ v55_2.toInt) → ((-1) ≤ v55_1.toInt ∧ v55_1.toInt ≤ 5) → va_P D vwCl (wL ad g 218) H → va_S (wA ad 218) s.heap H locs → lv_has ls 5 [(3, .int v16_3), (2, .int v55_2), (1, .int v55_1), (0, .ref (ad 0))] → W p l e ({ frames := 1, cells := 0, slots := 0, locals := 23 } : Room) s m ([.ref (ad 0)] : List Value).toArray below meth c H locs 0 0 (MQ below (qI D ad 218 (fun r g2 => g2 = g)) ([.ref (ad 0)] : List Value).toArray s 0 0 (wA ad 218)) (F0 m 55 ls []) := by
            intro v55_2 v55_1 H locs ls hv55_0 hv55_1 hP hS hl
            obtain ⟨x_17, ex_17⟩ : ∃ y : Int32, y = v16_3 + 1 := ⟨_, rfl⟩
            have hx_17 : x_17.toInt = v16_3.toInt + 1 := n_add rfl (by decide : (1 : Int32).toInt = 1) ex_17 (by omega) (by omega)
            refine lv_iinc (v := x_17) (lv' := [(3, .int x_17), (2, .int v55_2), (1, .int v55_1), (0, .ref (ad 0))]) hx hb dX11_worst_55 hl (k := 0) rfl (by rw [ex_17]; rfl) (by decide) rfl (fun ls hl => ?_)
            refine lv_goto (tgt := 16) hx hb dX11_worst_58 (by decide) ?_
            exact ih16 x_17 v55_2 v55_1 _ _ ls (by omega) (by omega) (by omega) (by omega) hP hS (lv_sub hl [0, 1, 2, 3] rfl)
          refine lv_icmp_le (tgt := 55) hx hb dX11_worst_47 (by decide) (fun hc_18 => ?_) (fun hc_18 => ?_)
          · have hhc_18 := n_le (rfl : z_16.toInt = z_16.toInt) (rfl : v16_2.toInt = v16_2.toInt) hc_18
            have := n_hi v16_2
            have := n_hi z_16
            have := n_lo z_16
            exact HJ55 v16_2 v16_1 _ _ ls (by omega) (by omega) hP hS (lv_sub hl [1, 2, 3, 4] rfl)
          · have hhc_18 := n_nle (rfl : z_16.toInt = z_16.toInt) (rfl : v16_2.toInt = v16_2.toInt) hc_18
            have := n_hi v16_2
            have := n_hi z_16
            have := n_lo z_16
            refine lv_iload hx hb dX11_worst_50 (lv_at hl 0 rfl) ?_
            refine lv_istore_n (lv' := [(2, .int z_16), (4, .int z_16), (3, .int v16_3), (1, .int v16_1), (0, .ref (ad 0))]) hx hb dX11_worst_52 rfl hl (by decide) rfl (fun ls hl => ?_)
            refine lv_iload_n hx hb dX11_worst_53 rfl (lv_at hl 2 rfl) ?_
            refine lv_istore_n (lv' := [(1, .int v16_3), (2, .int z_16), (4, .int z_16), (3, .int v16_3), (0, .ref (ad 0))]) hx hb dX11_worst_54 rfl hl (by decide) rfl (fun ls hl => ?_)
            exact HJ55 z_16 v16_3 _ _ ls (by omega) (by omega) hP hS (lv_sub hl [3, 1, 0, 4] rfl)
    have hiv16_3 : (0 : Int32).toInt = 0 := by decide
    have hiv16_2 : (0 : Int32).toInt = 0 := by decide
    have hiv16_1 : ((-1) : Int32).toInt = -1 := by decide
    exact HL16 _ 0 0 (-1) _ _ ls (Nat.lt_succ_self _) (by omega) (by omega) (by omega) hP hS (lv_sub hl [0, 1, 2, 3] rfl)
  · have hhc_5 := n_eq (rfl : r_3.toInt = r_3.toInt) (by decide : (0 : Int32).toInt = 0) hc_5
    refine lv_bipush (v := (-2)) hx hb dX11_worst_7 (by decide) ?_
    exact q_iret X hP hS rfl dX11_worst_9

theorem dX12_day_0 : decode cX12_day 0 = .ok (.aload_n 0, 1) := by decide +kernel
theorem dX12_day_1 : decode cX12_day 1 = .ok (.iload_n 1, 1) := by decide +kernel
theorem dX12_day_2 : decode cX12_day 2 = .ok (.invokevirtual 205, 3) := by decide +kernel
theorem dX12_day_5 : decode cX12_day 5 = .ok (.ifCond .eq 11, 3) := by decide +kernel
theorem dX12_day_8 : decode cX12_day 8 = .ok (.aload_n 0, 1) := by decide +kernel
theorem dX12_day_9 : decode cX12_day 9 = .ok (.iload_n 1, 1) := by decide +kernel
theorem dX12_day_10 : decode cX12_day 10 = .ok (.invokevirtual 209, 3) := by decide +kernel
theorem dX12_day_13 : decode cX12_day 13 = .ok (.goto 6, 3) := by decide +kernel
theorem dX12_day_16 : decode cX12_day 16 = .ok (.sipush (-1000), 3) := by decide +kernel
theorem dX12_day_19 : decode cX12_day 19 = .ok (.ireturn, 1) := by decide +kernel
noncomputable def vX12_day : List Cond := .code yX12_day cX12_day 2 (some .int) :: (([.methodLink RX12 205 yX12_isDay, .instanceMethod yX12_isDay, .selects RX12 yX12_isDay yX12_isDay, .initialized RX12, .methodLink RX12 209 yX12_thawOf, .instanceMethod yX12_thawOf, .selects RX12 yX12_thawOf yX12_thawOf] : List Cond) ++ (vX12_isDay ++ vX12_thawOf))
theorem gs_X12_day : Gd vX12_day := Gd.cons (by decide +kernel) (Gd.app (Gd.r (by decide +kernel)) (Gd.app gs_X12_isDay gs_X12_thawOf))
theorem gg_X12_day_X12_isDay : GoodIn vX12_day (wsV RX12 205 RX12 yX12_isDay vX12_isDay) := goodIn_app (goodIn_r _ [1, 2, 3, 4] (by decide +kernel) (by decide +kernel)) (fun w h => ⟨List.mem_cons_of_mem _ (List.mem_append_right _ (List.mem_append_left _ h)), gs_X12_isDay w h⟩)
theorem gg_X12_day_X12_thawOf : GoodIn vX12_day (wsV RX12 209 RX12 yX12_thawOf vX12_thawOf) := goodIn_app (goodIn_r _ [5, 6, 7, 4] (by decide +kernel) (by decide +kernel)) (fun w h => ⟨List.mem_cons_of_mem _ (List.mem_append_right _ (List.mem_append_right _ (h))), gs_X12_thawOf w h⟩)
set_option maxHeartbeats 4000000 in
set_option maxRecDepth 100000 in
theorem s_X12_day (l : Launch) (D : va_G) (cs : Nat → ClassId) (ad : Nat → Nat) (kS : kSt) (K : sK) (hKO : KO K) (hj : wJ ad 218) (g : Nat → va_E) (hW : WF (shp ad K) ad cs g) (dy : Int32) : sI l yX12_day vX12_day { frames := 2, cells := 0, slots := 0, locals := 46 } D cs ad kS [.ref (ad 197), .int dy] g (fun r g2 => g2 = g) := by
  refine Met.startS (cc := cX12_day) (maxL := 2) (ret := (some .int)) RX12 rfl (by decide) rfl (Nat.le_of_ble_eq_true rfl) ?_
  intro p e s m below meth c ls X Z hP hl
  have hx := X.1
  have hb := X.2.1
  have hS : va_S (wA ad 218) s.heap s.heap [] := va_S.rf
  have hA : ∀ i, i < 218 → wA ad 218 (ad i) := fun i h => ⟨i, h, rfl⟩
  have hl : lv_has ls 2 [(0, .ref (ad 197)), (1, .int dy)] := hl
  refine lv_aload_n hx hb dX12_day_0 rfl (lv_at hl 0 rfl) ?_
  refine lv_iload_n hx hb dX12_day_1 rfl (lv_at hl 1 rfl) ?_
  obtain ⟨fsc_4, hgc_4, hOc_4⟩ := hW.obj (i := 197) (by decide) (sh_197 ad K)
  refine s_calli (q := (RX12, TX12, 40)) (As := [.int dy]) (rest := []) X Z (s_X12_isDay l D cs ad kS K hKO hj g hW dy) (cwV 1 X.2.2.2.2.1 gg_X12_day_X12_isDay rfl rfl rfl (by decide +kernel) ⟨Nat.le_of_ble_eq_true rfl, Nat.le_of_ble_eq_true rfl⟩) (by decide) hgc_4 rfl hP hA hS.2.1 hS rfl hl.1 rfl (Nat.le_of_ble_eq_true rfl) dX12_day_2 ⟨Nat.le_of_ble_eq_true rfl, Nat.le_of_ble_eq_true rfl⟩ (fun r_3 g_2 H locs hw_1 hP hS => ?_)
  obtain ⟨hw_1g, hw_1⟩ := hw_1
  rw [hw_1g] at hP
  refine lv_if_eq (tgt := 16) hx hb dX12_day_5 (by decide) (fun hc_5 => ?_) (fun hc_5 => ?_)
  · have hhc_5 := n_eq (rfl : r_3.toInt = r_3.toInt) (by decide : (0 : Int32).toInt = 0) hc_5
    refine lv_sipush (v := (-1000)) hx hb dX12_day_16 (by decide) ?_
    exact q_iret X hP hS rfl dX12_day_19
  · have hhc_5 := n_ne (rfl : r_3.toInt = r_3.toInt) (by decide : (0 : Int32).toInt = 0) hc_5
    refine lv_aload_n hx hb dX12_day_8 rfl (lv_at hl 0 rfl) ?_
    refine lv_iload_n hx hb dX12_day_9 rfl (lv_at hl 1 rfl) ?_
    refine s_calli (q := (RX12, TX12, 40)) (As := [.int dy]) (rest := []) X Z (s_X12_thawOf l D cs ad kS K hKO hj g hW dy (by omega)) (cwV 1 X.2.2.2.2.1 gg_X12_day_X12_thawOf rfl rfl rfl (by decide +kernel) ⟨Nat.le_of_ble_eq_true rfl, Nat.le_of_ble_eq_true rfl⟩) (by decide) hgc_4 rfl hP hA hS.2.1 hS rfl hl.1 rfl (Nat.le_of_ble_eq_true rfl) dX12_day_10 ⟨Nat.le_of_ble_eq_true rfl, Nat.le_of_ble_eq_true rfl⟩ (fun r_8 g_7 H locs hw_6 hP hS => ?_)
    rw [hw_6] at hP
    refine lv_goto (tgt := 19) hx hb dX12_day_13 (by decide) ?_
    exact q_iret X hP hS rfl dX12_day_19

theorem dX12_melt_0 : decode cX12_melt 0 = .ok (.aload_n 0, 1) := by decide +kernel
theorem dX12_melt_1 : decode cX12_melt 1 = .ok (.iload_n 1, 1) := by decide +kernel
theorem dX12_melt_2 : decode cX12_melt 2 = .ok (.invokevirtual 212, 3) := by decide +kernel
theorem dX12_melt_5 : decode cX12_melt 5 = .ok (.ifCond .eq 27, 3) := by decide +kernel
theorem dX12_melt_8 : decode cX12_melt 8 = .ok (.aload_n 0, 1) := by decide +kernel
theorem dX12_melt_9 : decode cX12_melt 9 = .ok (.iload_n 2, 1) := by decide +kernel
theorem dX12_melt_10 : decode cX12_melt 10 = .ok (.invokevirtual 205, 3) := by decide +kernel
theorem dX12_melt_13 : decode cX12_melt 13 = .ok (.ifCond .eq 19, 3) := by decide +kernel
theorem dX12_melt_16 : decode cX12_melt 16 = .ok (.aload_n 0, 1) := by decide +kernel
theorem dX12_melt_17 : decode cX12_melt 17 = .ok (.iload_n 2, 1) := by decide +kernel
theorem dX12_melt_18 : decode cX12_melt 18 = .ok (.invokevirtual 209, 3) := by decide +kernel
theorem dX12_melt_21 : decode cX12_melt 21 = .ok (.aload_n 0, 1) := by decide +kernel
theorem dX12_melt_22 : decode cX12_melt 22 = .ok (.iload_n 1, 1) := by decide +kernel
theorem dX12_melt_23 : decode cX12_melt 23 = .ok (.invokevirtual 215, 3) := by decide +kernel
theorem dX12_melt_26 : decode cX12_melt 26 = .ok (.invokestatic 218, 3) := by decide +kernel
theorem dX12_melt_29 : decode cX12_melt 29 = .ok (.goto 6, 3) := by decide +kernel
theorem dX12_melt_32 : decode cX12_melt 32 = .ok (.sipush (-1000), 3) := by decide +kernel
theorem dX12_melt_35 : decode cX12_melt 35 = .ok (.ireturn, 1) := by decide +kernel
noncomputable def vX12_melt : List Cond := .code yX12_melt cX12_melt 3 (some .int) :: (([.methodLink RX12 212 yX12_isEave, .instanceMethod yX12_isEave, .selects RX12 yX12_isEave yX12_isEave, .initialized RX12, .methodLink RX12 205 yX12_isDay, .instanceMethod yX12_isDay, .selects RX12 yX12_isDay yX12_isDay, .methodLink RX12 209 yX12_thawOf, .instanceMethod yX12_thawOf, .selects RX12 yX12_thawOf yX12_thawOf, .methodLink RX12 215 yX12_sunOf, .instanceMethod yX12_sunOf, .selects RX12 yX12_sunOf yX12_sunOf, .methodLink RX12 218 yX12_meltBy, .static yX12_meltBy] : List Cond) ++ (vX12_isEave ++ (vX12_isDay ++ (vX12_thawOf ++ (vX12_sunOf ++ vX12_meltBy)))))
theorem gs_X12_melt : Gd vX12_melt := Gd.cons (by decide +kernel) (Gd.app (Gd.r (by decide +kernel)) (Gd.app gs_X12_isEave (Gd.app gs_X12_isDay (Gd.app gs_X12_thawOf (Gd.app gs_X12_sunOf gs_X12_meltBy)))))
theorem gg_X12_melt_X12_isEave : GoodIn vX12_melt (wsV RX12 212 RX12 yX12_isEave vX12_isEave) := goodIn_app (goodIn_r _ [1, 2, 3, 4] (by decide +kernel) (by decide +kernel)) (fun w h => ⟨List.mem_cons_of_mem _ (List.mem_append_right _ (List.mem_append_left _ h)), gs_X12_isEave w h⟩)
theorem gg_X12_melt_X12_isDay : GoodIn vX12_melt (wsV RX12 205 RX12 yX12_isDay vX12_isDay) := goodIn_app (goodIn_r _ [5, 6, 7, 4] (by decide +kernel) (by decide +kernel)) (fun w h => ⟨List.mem_cons_of_mem _ (List.mem_append_right _ (List.mem_append_right _ (List.mem_append_left _ h))), gs_X12_isDay w h⟩)
theorem gg_X12_melt_X12_thawOf : GoodIn vX12_melt (wsV RX12 209 RX12 yX12_thawOf vX12_thawOf) := goodIn_app (goodIn_r _ [8, 9, 10, 4] (by decide +kernel) (by decide +kernel)) (fun w h => ⟨List.mem_cons_of_mem _ (List.mem_append_right _ (List.mem_append_right _ (List.mem_append_right _ (List.mem_append_left _ h)))), gs_X12_thawOf w h⟩)
theorem gg_X12_melt_X12_sunOf : GoodIn vX12_melt (wsV RX12 215 RX12 yX12_sunOf vX12_sunOf) := goodIn_app (goodIn_r _ [11, 12, 13, 4] (by decide +kernel) (by decide +kernel)) (fun w h => ⟨List.mem_cons_of_mem _ (List.mem_append_right _ (List.mem_append_right _ (List.mem_append_right _ (List.mem_append_right _ (List.mem_append_left _ h))))), gs_X12_sunOf w h⟩)
theorem gg_X12_melt_X12_meltBy : GoodIn vX12_melt (wsS RX12 218 yX12_meltBy vX12_meltBy) := goodIn_app (goodIn_r _ [14, 15, 4] (by decide +kernel) (by decide +kernel)) (fun w h => ⟨List.mem_cons_of_mem _ (List.mem_append_right _ (List.mem_append_right _ (List.mem_append_right _ (List.mem_append_right _ (List.mem_append_right _ (h)))))), gs_X12_meltBy w h⟩)
set_option maxHeartbeats 4000000 in
set_option maxRecDepth 100000 in
theorem s_X12_melt (l : Launch) (D : va_G) (cs : Nat → ClassId) (ad : Nat → Nat) (kS : kSt) (K : sK) (hKO : KO K) (hj : wJ ad 218) (g : Nat → va_E) (hW : WF (shp ad K) ad cs g) (ev : Int32) (dy : Int32) : sI l yX12_melt vX12_melt { frames := 2, cells := 0, slots := 0, locals := 46 } D cs ad kS [.ref (ad 197), .int ev, .int dy] g (fun r g2 => g2 = g) := by
  refine Met.startS (cc := cX12_melt) (maxL := 3) (ret := (some .int)) RX12 rfl (by decide) rfl (Nat.le_of_ble_eq_true rfl) ?_
  intro p e s m below meth c ls X Z hP hl
  have hx := X.1
  have hb := X.2.1
  have hS : va_S (wA ad 218) s.heap s.heap [] := va_S.rf
  have hA : ∀ i, i < 218 → wA ad 218 (ad i) := fun i h => ⟨i, h, rfl⟩
  have hl : lv_has ls 3 [(0, .ref (ad 197)), (1, .int ev), (2, .int dy)] := hl
  refine lv_aload_n hx hb dX12_melt_0 rfl (lv_at hl 0 rfl) ?_
  refine lv_iload_n hx hb dX12_melt_1 rfl (lv_at hl 1 rfl) ?_
  obtain ⟨fsc_4, hgc_4, hOc_4⟩ := hW.obj (i := 197) (by decide) (sh_197 ad K)
  refine s_calli (q := (RX12, TX12, 40)) (As := [.int ev]) (rest := []) X Z (s_X12_isEave l D cs ad kS K hKO hj g hW ev) (cwV 1 X.2.2.2.2.1 gg_X12_melt_X12_isEave rfl rfl rfl (by decide +kernel) ⟨Nat.le_of_ble_eq_true rfl, Nat.le_of_ble_eq_true rfl⟩) (by decide) hgc_4 rfl hP hA hS.2.1 hS rfl hl.1 rfl (Nat.le_of_ble_eq_true rfl) dX12_melt_2 ⟨Nat.le_of_ble_eq_true rfl, Nat.le_of_ble_eq_true rfl⟩ (fun r_3 g_2 H locs hw_1 hP hS => ?_)
  obtain ⟨hw_1g, hw_1⟩ := hw_1
  rw [hw_1g] at hP
  have HJ32 : ∀ (H : Heap) (locs : List Loc) (ls : Array Slot), va_P D vwCl (wL ad g 218) H → va_S (wA ad 218) s.heap H locs → lv_has ls 3 [] → W p l e ({ frames := 2, cells := 0, slots := 0, locals := 46 } : Room) s m ([.ref (ad 197), .int ev, .int dy] : List Value).toArray below meth c H locs 0 0 (MQ below (qI D ad 218 (fun r g2 => g2 = g)) ([.ref (ad 197), .int ev, .int dy] : List Value).toArray s 0 0 (wA ad 218)) (F0 m 32 ls []) := by
    intro H locs ls hP hS hl
    refine lv_sipush (v := (-1000)) hx hb dX12_melt_32 (by decide) ?_
    exact q_iret X hP hS rfl dX12_melt_35
  refine lv_if_eq (tgt := 32) hx hb dX12_melt_5 (by decide) (fun hc_5 => ?_) (fun hc_5 => ?_)
  · have hhc_5 := n_eq (rfl : r_3.toInt = r_3.toInt) (by decide : (0 : Int32).toInt = 0) hc_5
    exact HJ32 _ _ ls hP hS (lv_sub hl [] rfl)
  · have hhc_5 := n_ne (rfl : r_3.toInt = r_3.toInt) (by decide : (0 : Int32).toInt = 0) hc_5
    refine lv_aload_n hx hb dX12_melt_8 rfl (lv_at hl 0 rfl) ?_
    refine lv_iload_n hx hb dX12_melt_9 rfl (lv_at hl 2 rfl) ?_
    refine s_calli (q := (RX12, TX12, 40)) (As := [.int dy]) (rest := []) X Z (s_X12_isDay l D cs ad kS K hKO hj g hW dy) (cwV 1 X.2.2.2.2.1 gg_X12_melt_X12_isDay rfl rfl rfl (by decide +kernel) ⟨Nat.le_of_ble_eq_true rfl, Nat.le_of_ble_eq_true rfl⟩) (by decide) hgc_4 rfl hP hA hS.2.1 hS rfl hl.1 rfl (Nat.le_of_ble_eq_true rfl) dX12_melt_10 ⟨Nat.le_of_ble_eq_true rfl, Nat.le_of_ble_eq_true rfl⟩ (fun r_8 g_7 H locs hw_6 hP hS => ?_)
    obtain ⟨hw_6g, hw_6⟩ := hw_6
    rw [hw_6g] at hP
    refine lv_if_eq (tgt := 32) hx hb dX12_melt_13 (by decide) (fun hc_9 => ?_) (fun hc_9 => ?_)
    · have hhc_9 := n_eq (rfl : r_8.toInt = r_8.toInt) (by decide : (0 : Int32).toInt = 0) hc_9
      exact HJ32 _ _ ls hP hS (lv_sub hl [] rfl)
    · have hhc_9 := n_ne (rfl : r_8.toInt = r_8.toInt) (by decide : (0 : Int32).toInt = 0) hc_9
      refine lv_aload_n hx hb dX12_melt_16 rfl (lv_at hl 0 rfl) ?_
      refine lv_iload_n hx hb dX12_melt_17 rfl (lv_at hl 2 rfl) ?_
      refine s_calli (q := (RX12, TX12, 40)) (As := [.int dy]) (rest := []) X Z (s_X12_thawOf l D cs ad kS K hKO hj g hW dy (by omega)) (cwV 1 X.2.2.2.2.1 gg_X12_melt_X12_thawOf rfl rfl rfl (by decide +kernel) ⟨Nat.le_of_ble_eq_true rfl, Nat.le_of_ble_eq_true rfl⟩) (by decide) hgc_4 rfl hP hA hS.2.1 hS rfl hl.1 rfl (Nat.le_of_ble_eq_true rfl) dX12_melt_18 ⟨Nat.le_of_ble_eq_true rfl, Nat.le_of_ble_eq_true rfl⟩ (fun r_12 g_11 H locs hw_10 hP hS => ?_)
      rw [hw_10] at hP
      refine lv_aload_n hx hb dX12_melt_21 rfl (lv_at hl 0 rfl) ?_
      refine lv_iload_n hx hb dX12_melt_22 rfl (lv_at hl 1 rfl) ?_
      refine s_calli (q := (RX12, TX12, 40)) (As := [.int ev]) (rest := [.int r_12]) X Z (s_X12_sunOf l D cs ad kS K hKO hj g hW ev (by omega)) (cwV 1 X.2.2.2.2.1 gg_X12_melt_X12_sunOf rfl rfl rfl (by decide +kernel) ⟨Nat.le_of_ble_eq_true rfl, Nat.le_of_ble_eq_true rfl⟩) (by decide) hgc_4 rfl hP hA hS.2.1 hS rfl hl.1 rfl (Nat.le_of_ble_eq_true rfl) dX12_melt_23 ⟨Nat.le_of_ble_eq_true rfl, Nat.le_of_ble_eq_true rfl⟩ (fun r_15 g_14 H locs hw_13 hP hS => ?_)
      rw [hw_13] at hP
      refine s_callSi (As := [.int r_12, .int r_15]) (rest := []) X Z (s_X12_meltBy l D cs ad kS K hKO hj g hW r_12 r_15) (cwS 2 X.2.2.2.2.1 gg_X12_melt_X12_meltBy rfl rfl rfl (by decide +kernel) ⟨Nat.le_of_ble_eq_true rfl, Nat.le_of_ble_eq_true rfl⟩) hP hA hS.2.1 hS rfl hl.1 rfl (Nat.le_of_ble_eq_true rfl) dX12_melt_26 ⟨Nat.le_of_ble_eq_true rfl, Nat.le_of_ble_eq_true rfl⟩ (fun r_18 g_17 H locs hw_16 hP hS => ?_)
      rw [hw_16] at hP
      refine lv_goto (tgt := 35) hx hb dX12_melt_29 (by decide) ?_
      exact q_iret X hP hS rfl dX12_melt_35

theorem dX12_icicle_0 : decode cX12_icicle 0 = .ok (.aload_n 0, 1) := by decide +kernel
theorem dX12_icicle_1 : decode cX12_icicle 1 = .ok (.iload_n 1, 1) := by decide +kernel
theorem dX12_icicle_2 : decode cX12_icicle 2 = .ok (.i2l, 1) := by decide +kernel
theorem dX12_icicle_3 : decode cX12_icicle 3 = .ok (.invokevirtual 221, 3) := by decide +kernel
theorem dX12_icicle_6 : decode cX12_icicle 6 = .ok (.ifCond .eq 24, 3) := by decide +kernel
theorem dX12_icicle_9 : decode cX12_icicle 9 = .ok (.iload_n 2, 1) := by decide +kernel
theorem dX12_icicle_10 : decode cX12_icicle 10 = .ok (.i2l, 1) := by decide +kernel
theorem dX12_icicle_11 : decode cX12_icicle 11 = .ok (.lconst 0, 1) := by decide +kernel
theorem dX12_icicle_12 : decode cX12_icicle 12 = .ok (.ldc2_w 80, 3) := by decide +kernel
theorem dX12_icicle_15 : decode cX12_icicle 15 = .ok (.invokestatic 82, 3) := by decide +kernel
theorem dX12_icicle_18 : decode cX12_icicle 18 = .ok (.ifCond .eq 12, 3) := by decide +kernel
theorem dX12_icicle_21 : decode cX12_icicle 21 = .ok (.aload_n 0, 1) := by decide +kernel
theorem dX12_icicle_22 : decode cX12_icicle 22 = .ok (.iload_n 1, 1) := by decide +kernel
theorem dX12_icicle_23 : decode cX12_icicle 23 = .ok (.iload_n 2, 1) := by decide +kernel
theorem dX12_icicle_24 : decode cX12_icicle 24 = .ok (.invokevirtual 225, 3) := by decide +kernel
theorem dX12_icicle_27 : decode cX12_icicle 27 = .ok (.goto 5, 3) := by decide +kernel
theorem dX12_icicle_30 : decode cX12_icicle 30 = .ok (.bipush (-2), 2) := by decide +kernel
theorem dX12_icicle_32 : decode cX12_icicle 32 = .ok (.ireturn, 1) := by decide +kernel
noncomputable def vX12_icicle : List Cond := .code yX12_icicle cX12_icicle 3 (some .int) :: (([.methodLink RX12 221 yX12_isIcicle, .instanceMethod yX12_isIcicle, .selects RX12 yX12_isIcicle yX12_isIcicle, .initialized RX12, .constantLong RX12 80 (2), .methodLink RX12 82 yX12_in, .static yX12_in, .methodLink RX12 225 yX12_of, .instanceMethod yX12_of, .selects RX12 yX12_of yX12_of] : List Cond) ++ (vX12_isIcicle ++ (vX12_in ++ vX12_of)))
theorem gs_X12_icicle : Gd vX12_icicle := Gd.cons (by decide +kernel) (Gd.app (Gd.r (by decide +kernel)) (Gd.app gs_X12_isIcicle (Gd.app gs_X12_in gs_X12_of)))
theorem gg_X12_icicle_X12_isIcicle : GoodIn vX12_icicle (wsV RX12 221 RX12 yX12_isIcicle vX12_isIcicle) := goodIn_app (goodIn_r _ [1, 2, 3, 4] (by decide +kernel) (by decide +kernel)) (fun w h => ⟨List.mem_cons_of_mem _ (List.mem_append_right _ (List.mem_append_left _ h)), gs_X12_isIcicle w h⟩)
theorem gg_X12_icicle_X12_in : GoodIn vX12_icicle (wsS RX12 82 yX12_in vX12_in) := goodIn_app (goodIn_r _ [6, 7, 4] (by decide +kernel) (by decide +kernel)) (fun w h => ⟨List.mem_cons_of_mem _ (List.mem_append_right _ (List.mem_append_right _ (List.mem_append_left _ h))), gs_X12_in w h⟩)
theorem gg_X12_icicle_X12_of : GoodIn vX12_icicle (wsV RX12 225 RX12 yX12_of vX12_of) := goodIn_app (goodIn_r _ [8, 9, 10, 4] (by decide +kernel) (by decide +kernel)) (fun w h => ⟨List.mem_cons_of_mem _ (List.mem_append_right _ (List.mem_append_right _ (List.mem_append_right _ (h)))), gs_X12_of w h⟩)
set_option maxHeartbeats 4000000 in
set_option maxRecDepth 100000 in
theorem s_X12_icicle (l : Launch) (D : va_G) (cs : Nat → ClassId) (ad : Nat → Nat) (kS : kSt) (K : sK) (hKO : KO K) (hj : wJ ad 218) (g : Nat → va_E) (hW : WF (shp ad K) ad cs g) (ic : Int32) (wh : Int32) : sI l yX12_icicle vX12_icicle { frames := 2, cells := 0, slots := 0, locals := 47 } D cs ad kS [.ref (ad 197), .int ic, .int wh] g (fun r g2 => g2 = g) := by
  refine Met.startS (cc := cX12_icicle) (maxL := 3) (ret := (some .int)) RX12 rfl (by decide) rfl (Nat.le_of_ble_eq_true rfl) ?_
  intro p e s m below meth c ls X Z hP hl
  have hx := X.1
  have hb := X.2.1
  have hS : va_S (wA ad 218) s.heap s.heap [] := va_S.rf
  have hA : ∀ i, i < 218 → wA ad 218 (ad i) := fun i h => ⟨i, h, rfl⟩
  have hl : lv_has ls 3 [(0, .ref (ad 197)), (1, .int ic), (2, .int wh)] := hl
  refine lv_aload_n hx hb dX12_icicle_0 rfl (lv_at hl 0 rfl) ?_
  refine lv_iload_n hx hb dX12_icicle_1 rfl (lv_at hl 1 rfl) ?_
  refine lv_i2l hx hb dX12_icicle_2 rfl ?_
  refine lv_topl (fun z_1 ez_1 => ?_)
  have hz_1 : z_1.toInt = ic.toInt := ez_1 ▸ j_of rfl
  have := n_hi ic
  have := n_lo ic
  obtain ⟨fsc_5, hgc_5, hOc_5⟩ := hW.obj (i := 197) (by decide) (sh_197 ad K)
  refine s_calli (q := (RX12, TX12, 40)) (As := [.long z_1]) (rest := []) X Z (s_X12_isIcicle l D cs ad kS K hKO hj g hW z_1) (cwV 1 X.2.2.2.2.1 gg_X12_icicle_X12_isIcicle rfl rfl rfl (by decide +kernel) ⟨Nat.le_of_ble_eq_true rfl, Nat.le_of_ble_eq_true rfl⟩) (by decide) hgc_5 rfl hP hA hS.2.1 hS rfl hl.1 rfl (Nat.le_of_ble_eq_true rfl) dX12_icicle_3 ⟨Nat.le_of_ble_eq_true rfl, Nat.le_of_ble_eq_true rfl⟩ (fun r_4 g_3 H locs hw_2 hP hS => ?_)
  obtain ⟨hw_2g, hw_2⟩ := hw_2
  rw [hw_2g] at hP
  have HJ30 : ∀ (H : Heap) (locs : List Loc) (ls : Array Slot), va_P D vwCl (wL ad g 218) H → va_S (wA ad 218) s.heap H locs → lv_has ls 3 [] → W p l e ({ frames := 2, cells := 0, slots := 0, locals := 47 } : Room) s m ([.ref (ad 197), .int ic, .int wh] : List Value).toArray below meth c H locs 0 0 (MQ below (qI D ad 218 (fun r g2 => g2 = g)) ([.ref (ad 197), .int ic, .int wh] : List Value).toArray s 0 0 (wA ad 218)) (F0 m 30 ls []) := by
    intro H locs ls hP hS hl
    refine lv_bipush (v := (-2)) hx hb dX12_icicle_30 (by decide) ?_
    exact q_iret X hP hS rfl dX12_icicle_32
  refine lv_if_eq (tgt := 30) hx hb dX12_icicle_6 (by decide) (fun hc_6 => ?_) (fun hc_6 => ?_)
  · have hhc_6 := n_eq (rfl : r_4.toInt = r_4.toInt) (by decide : (0 : Int32).toInt = 0) hc_6
    exact HJ30 _ _ ls hP hS (lv_sub hl [] rfl)
  · have hhc_6 := n_ne (rfl : r_4.toInt = r_4.toInt) (by decide : (0 : Int32).toInt = 0) hc_6
    refine lv_iload_n hx hb dX12_icicle_9 rfl (lv_at hl 2 rfl) ?_
    refine lv_i2l hx hb dX12_icicle_10 rfl ?_
    refine lv_topl (fun z_7 ez_7 => ?_)
    have hz_7 : z_7.toInt = wh.toInt := ez_7 ▸ j_of rfl
    have := n_hi wh
    have := n_lo wh
    refine lv_lconst (v := 0) hx hb dX12_icicle_11 (by decide) ?_
    refine lv_ldc2 (v := 2) hx hb X.2.2.2.2.2.1 (X.2.2.2.2.1 _ (List.mem_of_getElem? (i := 5) rfl)) dX12_icicle_12 ?_
    refine s_callSi (As := [.long z_7, .long 0, .long 2]) (rest := []) X Z (s_X12_in l D cs ad kS K hKO hj g hW z_7 0 2) (cwS 3 X.2.2.2.2.1 gg_X12_icicle_X12_in rfl rfl rfl (by decide +kernel) ⟨Nat.le_of_ble_eq_true rfl, Nat.le_of_ble_eq_true rfl⟩) hP hA hS.2.1 hS rfl hl.1 rfl (Nat.le_of_ble_eq_true rfl) dX12_icicle_15 ⟨Nat.le_of_ble_eq_true rfl, Nat.le_of_ble_eq_true rfl⟩ (fun r_10 g_9 H locs hw_8 hP hS => ?_)
    obtain ⟨hw_8g, hw_8⟩ := hw_8
    rw [hw_8g] at hP
    have hqk_11 : (0 : Int64).toInt = 0 := by decide
    have hqk_12 : (2 : Int64).toInt = 2 := by decide
    refine lv_if_eq (tgt := 30) hx hb dX12_icicle_18 (by decide) (fun hc_13 => ?_) (fun hc_13 => ?_)
    · have hhc_13 := n_eq (rfl : r_10.toInt = r_10.toInt) (by decide : (0 : Int32).toInt = 0) hc_13
      exact HJ30 _ _ ls hP hS (lv_sub hl [] rfl)
    · have hhc_13 := n_ne (rfl : r_10.toInt = r_10.toInt) (by decide : (0 : Int32).toInt = 0) hc_13
      refine lv_aload_n hx hb dX12_icicle_21 rfl (lv_at hl 0 rfl) ?_
      refine lv_iload_n hx hb dX12_icicle_22 rfl (lv_at hl 1 rfl) ?_
      refine lv_iload_n hx hb dX12_icicle_23 rfl (lv_at hl 2 rfl) ?_
      refine s_calli (q := (RX12, TX12, 40)) (As := [.int ic, .int wh]) (rest := []) X Z (s_X12_of l D cs ad kS K hKO hj g hW ic wh (by omega) (by omega)) (cwV 2 X.2.2.2.2.1 gg_X12_icicle_X12_of rfl rfl rfl (by decide +kernel) ⟨Nat.le_of_ble_eq_true rfl, Nat.le_of_ble_eq_true rfl⟩) (by decide) hgc_5 rfl hP hA hS.2.1 hS rfl hl.1 rfl (Nat.le_of_ble_eq_true rfl) dX12_icicle_24 ⟨Nat.le_of_ble_eq_true rfl, Nat.le_of_ble_eq_true rfl⟩ (fun r_16 g_15 H locs hw_14 hP hS => ?_)
      obtain ⟨hw_14g, hw_14⟩ := hw_14
      rw [hw_14g] at hP
      refine lv_goto (tgt := 32) hx hb dX12_icicle_27 (by decide) ?_
      exact q_iret X hP hS rfl dX12_icicle_32

theorem dX12_work_0 : decode cX12_work 0 = .ok (.aload_n 0, 1) := by decide +kernel
theorem dX12_work_1 : decode cX12_work 1 = .ok (.iload_n 1, 1) := by decide +kernel
theorem dX12_work_2 : decode cX12_work 2 = .ok (.invokevirtual 228, 3) := by decide +kernel
theorem dX12_work_5 : decode cX12_work 5 = .ok (.ifCond .eq 29, 3) := by decide +kernel
theorem dX12_work_8 : decode cX12_work 8 = .ok (.iload_n 2, 1) := by decide +kernel
theorem dX12_work_9 : decode cX12_work 9 = .ok (.i2l, 1) := by decide +kernel
theorem dX12_work_10 : decode cX12_work 10 = .ok (.lconst 0, 1) := by decide +kernel
theorem dX12_work_11 : decode cX12_work 11 = .ok (.lconst 1, 1) := by decide +kernel
theorem dX12_work_12 : decode cX12_work 12 = .ok (.invokestatic 82, 3) := by decide +kernel
theorem dX12_work_15 : decode cX12_work 15 = .ok (.ifCond .eq 19, 3) := by decide +kernel
theorem dX12_work_18 : decode cX12_work 18 = .ok (.aload_n 0, 1) := by decide +kernel
theorem dX12_work_19 : decode cX12_work 19 = .ok (.getfield 9, 3) := by decide +kernel
theorem dX12_work_22 : decode cX12_work 22 = .ok (.bipush 66, 2) := by decide +kernel
theorem dX12_work_24 : decode cX12_work 24 = .ok (.iconst 2, 1) := by decide +kernel
theorem dX12_work_25 : decode cX12_work 25 = .ok (.iload_n 1, 1) := by decide +kernel
theorem dX12_work_26 : decode cX12_work 26 = .ok (.imul, 1) := by decide +kernel
theorem dX12_work_27 : decode cX12_work 27 = .ok (.iadd, 1) := by decide +kernel
theorem dX12_work_28 : decode cX12_work 28 = .ok (.iload_n 2, 1) := by decide +kernel
theorem dX12_work_29 : decode cX12_work 29 = .ok (.iadd, 1) := by decide +kernel
theorem dX12_work_30 : decode cX12_work 30 = .ok (.iaload, 1) := by decide +kernel
theorem dX12_work_31 : decode cX12_work 31 = .ok (.goto 5, 3) := by decide +kernel
theorem dX12_work_34 : decode cX12_work 34 = .ok (.bipush (-2), 2) := by decide +kernel
theorem dX12_work_36 : decode cX12_work 36 = .ok (.ireturn, 1) := by decide +kernel
noncomputable def vX12_work : List Cond := .code yX12_work cX12_work 3 (some .int) :: (([.methodLink RX12 228 yX12_isWork, .instanceMethod yX12_isWork, .selects RX12 yX12_isWork yX12_isWork, .initialized RX12, .methodLink RX12 82 yX12_in, .static yX12_in, .fieldLink RX12 9 "IcicleClockModel" "world" "[I"] : List Cond) ++ (wsX120 ++ (vX12_isWork ++ vX12_in)))
theorem iX12_work_12 : ∀ w ∈ wsX120, w ∈ vX12_work := fun _ h => List.mem_cons_of_mem _ (List.mem_append_right _ (List.mem_append_left _ h))
theorem gs_X12_work : Gd vX12_work := Gd.cons (by decide +kernel) (Gd.app (Gd.r (by decide +kernel)) (Gd.app gwX_12 (Gd.app gs_X12_isWork gs_X12_in)))
theorem gg_X12_work_X12_isWork : GoodIn vX12_work (wsV RX12 228 RX12 yX12_isWork vX12_isWork) := goodIn_app (goodIn_r _ [1, 2, 3, 4] (by decide +kernel) (by decide +kernel)) (fun w h => ⟨List.mem_cons_of_mem _ (List.mem_append_right _ (List.mem_append_right _ (List.mem_append_left _ h))), gs_X12_isWork w h⟩)
theorem gg_X12_work_X12_in : GoodIn vX12_work (wsS RX12 82 yX12_in vX12_in) := goodIn_app (goodIn_r _ [5, 6, 4] (by decide +kernel) (by decide +kernel)) (fun w h => ⟨List.mem_cons_of_mem _ (List.mem_append_right _ (List.mem_append_right _ (List.mem_append_right _ (h)))), gs_X12_in w h⟩)
set_option maxHeartbeats 4000000 in
set_option maxRecDepth 100000 in
theorem s_X12_work (l : Launch) (D : va_G) (cs : Nat → ClassId) (ad : Nat → Nat) (kS : kSt) (K : sK) (hKO : KO K) (hj : wJ ad 218) (g : Nat → va_E) (hW : WF (shp ad K) ad cs g) (wk : Int32) (wh : Int32) : sI l yX12_work vX12_work { frames := 2, cells := 0, slots := 0, locals := 46 } D cs ad kS [.ref (ad 197), .int wk, .int wh] g (fun r g2 => g2 = g) := by
  refine Met.startS (cc := cX12_work) (maxL := 3) (ret := (some .int)) RX12 rfl (by decide) rfl (Nat.le_of_ble_eq_true rfl) ?_
  intro p e s m below meth c ls X Z hP hl
  have hx := X.1
  have hb := X.2.1
  have hS : va_S (wA ad 218) s.heap s.heap [] := va_S.rf
  have hA : ∀ i, i < 218 → wA ad 218 (ad i) := fun i h => ⟨i, h, rfl⟩
  have hl : lv_has ls 3 [(0, .ref (ad 197)), (1, .int wk), (2, .int wh)] := hl
  refine lv_aload_n hx hb dX12_work_0 rfl (lv_at hl 0 rfl) ?_
  refine lv_iload_n hx hb dX12_work_1 rfl (lv_at hl 1 rfl) ?_
  obtain ⟨fsc_4, hgc_4, hOc_4⟩ := hW.obj (i := 197) (by decide) (sh_197 ad K)
  refine s_calli (q := (RX12, TX12, 40)) (As := [.int wk]) (rest := []) X Z (s_X12_isWork l D cs ad kS K hKO hj g hW wk) (cwV 1 X.2.2.2.2.1 gg_X12_work_X12_isWork rfl rfl rfl (by decide +kernel) ⟨Nat.le_of_ble_eq_true rfl, Nat.le_of_ble_eq_true rfl⟩) (by decide) hgc_4 rfl hP hA hS.2.1 hS rfl hl.1 rfl (Nat.le_of_ble_eq_true rfl) dX12_work_2 ⟨Nat.le_of_ble_eq_true rfl, Nat.le_of_ble_eq_true rfl⟩ (fun r_3 g_2 H locs hw_1 hP hS => ?_)
  obtain ⟨hw_1g, hw_1⟩ := hw_1
  rw [hw_1g] at hP
  have HJ34 : ∀ (H : Heap) (locs : List Loc) (ls : Array Slot), va_P D vwCl (wL ad g 218) H → va_S (wA ad 218) s.heap H locs → lv_has ls 3 [] → W p l e ({ frames := 2, cells := 0, slots := 0, locals := 46 } : Room) s m ([.ref (ad 197), .int wk, .int wh] : List Value).toArray below meth c H locs 0 0 (MQ below (qI D ad 218 (fun r g2 => g2 = g)) ([.ref (ad 197), .int wk, .int wh] : List Value).toArray s 0 0 (wA ad 218)) (F0 m 34 ls []) := by
    intro H locs ls hP hS hl
    refine lv_bipush (v := (-2)) hx hb dX12_work_34 (by decide) ?_
    exact q_iret X hP hS rfl dX12_work_36
  refine lv_if_eq (tgt := 34) hx hb dX12_work_5 (by decide) (fun hc_5 => ?_) (fun hc_5 => ?_)
  · have hhc_5 := n_eq (rfl : r_3.toInt = r_3.toInt) (by decide : (0 : Int32).toInt = 0) hc_5
    exact HJ34 _ _ ls hP hS (lv_sub hl [] rfl)
  · have hhc_5 := n_ne (rfl : r_3.toInt = r_3.toInt) (by decide : (0 : Int32).toInt = 0) hc_5
    refine lv_iload_n hx hb dX12_work_8 rfl (lv_at hl 2 rfl) ?_
    refine lv_i2l hx hb dX12_work_9 rfl ?_
    refine lv_topl (fun z_6 ez_6 => ?_)
    have hz_6 : z_6.toInt = wh.toInt := ez_6 ▸ j_of rfl
    have := n_hi wh
    have := n_lo wh
    refine lv_lconst (v := 0) hx hb dX12_work_10 (by decide) ?_
    refine lv_lconst (v := 1) hx hb dX12_work_11 (by decide) ?_
    refine s_callSi (As := [.long z_6, .long 0, .long 1]) (rest := []) X Z (s_X12_in l D cs ad kS K hKO hj g hW z_6 0 1) (cwS 3 X.2.2.2.2.1 gg_X12_work_X12_in rfl rfl rfl (by decide +kernel) ⟨Nat.le_of_ble_eq_true rfl, Nat.le_of_ble_eq_true rfl⟩) hP hA hS.2.1 hS rfl hl.1 rfl (Nat.le_of_ble_eq_true rfl) dX12_work_12 ⟨Nat.le_of_ble_eq_true rfl, Nat.le_of_ble_eq_true rfl⟩ (fun r_9 g_8 H locs hw_7 hP hS => ?_)
    obtain ⟨hw_7g, hw_7⟩ := hw_7
    rw [hw_7g] at hP
    have hqk_10 : (0 : Int64).toInt = 0 := by decide
    have hqk_11 : (1 : Int64).toInt = 1 := by decide
    refine lv_if_eq (tgt := 34) hx hb dX12_work_15 (by decide) (fun hc_12 => ?_) (fun hc_12 => ?_)
    · have hhc_12 := n_eq (rfl : r_9.toInt = r_9.toInt) (by decide : (0 : Int32).toInt = 0) hc_12
      exact HJ34 _ _ ls hP hS (lv_sub hl [] rfl)
    · have hhc_12 := n_ne (rfl : r_9.toInt = r_9.toInt) (by decide : (0 : Int32).toInt = 0) hc_12
      refine lv_aload_n hx hb dX12_work_18 rfl (lv_at hl 0 rfl) ?_
      have hk_13 := hOc_4.ref 1 rfl
      refine q_get X iX12_work_12 hP (by decide) hgc_4 rfl 1 (by decide) (List.mem_of_getElem? (i := 7) rfl) (v := .ref (ad 198)) hk_13 dX12_work_19 ?_
      refine lv_bipush (v := 66) hx hb dX12_work_22 (by decide) ?_
      refine lv_iconst (v := 2) hx hb dX12_work_24 (by decide) ?_
      refine lv_iload_n hx hb dX12_work_25 rfl (lv_at hl 1 rfl) ?_
      refine lv_imul hx hb dX12_work_26 ?_
      refine lv_topi (fun z_14 ez_14 => ?_)
      have hz_14 : z_14.toInt = 2 * wk.toInt := n_mul (by decide : (2 : Int32).toInt = 2) (rfl : wk.toInt = wk.toInt) ez_14 (by omega) (by omega)
      refine lv_iadd hx hb dX12_work_27 ?_
      refine lv_topi (fun z_15 ez_15 => ?_)
      have hz_15 : z_15.toInt = 66 + z_14.toInt := n_add (by decide : (66 : Int32).toInt = 66) (rfl : z_14.toInt = z_14.toInt) ez_15 (by omega) (by omega)
      refine lv_iload_n hx hb dX12_work_28 rfl (lv_at hl 2 rfl) ?_
      refine lv_iadd hx hb dX12_work_29 ?_
      refine lv_topi (fun z_16 ez_16 => ?_)
      have hz_16 : z_16.toInt = z_15.toInt + wh.toInt := n_add (rfl : z_15.toInt = z_15.toInt) (rfl : wh.toInt = wh.toInt) ez_16 (by omega) (by omega)
      obtain ⟨fc_17, hgc_17, hFc_17⟩ := hW.arr (i := 198) (by decide) (sh_198 ad K)
      refine q_iald X hP (by decide) hgc_17 (n_in (rfl : z_16.toInt = z_16.toInt) (by omega) (by omega)) dX12_work_30 ?_
      refine lv_topi (fun z_18 ez_18 => ?_)
      refine lv_goto (tgt := 36) hx hb dX12_work_31 (by decide) ?_
      exact q_iret X hP hS rfl dX12_work_36

theorem dX12_eave_0 : decode cX12_eave 0 = .ok (.aload_n 0, 1) := by decide +kernel
theorem dX12_eave_1 : decode cX12_eave 1 = .ok (.iload_n 1, 1) := by decide +kernel
theorem dX12_eave_2 : decode cX12_eave 2 = .ok (.invokevirtual 212, 3) := by decide +kernel
theorem dX12_eave_5 : decode cX12_eave 5 = .ok (.ifCond .ne 6, 3) := by decide +kernel
theorem dX12_eave_8 : decode cX12_eave 8 = .ok (.bipush (-2), 2) := by decide +kernel
theorem dX12_eave_10 : decode cX12_eave 10 = .ok (.ireturn, 1) := by decide +kernel
theorem dX12_eave_11 : decode cX12_eave 11 = .ok (.iconst 0, 1) := by decide +kernel
theorem dX12_eave_12 : decode cX12_eave 12 = .ok (.istore_n 2, 1) := by decide +kernel
theorem dX12_eave_13 : decode cX12_eave 13 = .ok (.iconst 0, 1) := by decide +kernel
theorem dX12_eave_14 : decode cX12_eave 14 = .ok (.istore_n 3, 1) := by decide +kernel
theorem dX12_eave_15 : decode cX12_eave 15 = .ok (.iload_n 3, 1) := by decide +kernel
theorem dX12_eave_16 : decode cX12_eave 16 = .ok (.aload_n 0, 1) := by decide +kernel
theorem dX12_eave_17 : decode cX12_eave 17 = .ok (.getfield 9, 3) := by decide +kernel
theorem dX12_eave_20 : decode cX12_eave 20 = .ok (.iconst 5, 1) := by decide +kernel
theorem dX12_eave_21 : decode cX12_eave 21 = .ok (.iaload, 1) := by decide +kernel
theorem dX12_eave_22 : decode cX12_eave 22 = .ok (.if_icmp .ge 29, 3) := by decide +kernel
theorem dX12_eave_25 : decode cX12_eave 25 = .ok (.iload_n 2, 1) := by decide +kernel
theorem dX12_eave_26 : decode cX12_eave 26 = .ok (.aload_n 0, 1) := by decide +kernel
theorem dX12_eave_27 : decode cX12_eave 27 = .ok (.iload_n 3, 1) := by decide +kernel
theorem dX12_eave_28 : decode cX12_eave 28 = .ok (.iconst 0, 1) := by decide +kernel
theorem dX12_eave_29 : decode cX12_eave 29 = .ok (.invokevirtual 225, 3) := by decide +kernel
theorem dX12_eave_32 : decode cX12_eave 32 = .ok (.iload_n 1, 1) := by decide +kernel
theorem dX12_eave_33 : decode cX12_eave 33 = .ok (.if_icmp .ne 9, 3) := by decide +kernel
theorem dX12_eave_36 : decode cX12_eave 36 = .ok (.iconst 1, 1) := by decide +kernel
theorem dX12_eave_37 : decode cX12_eave 37 = .ok (.iload_n 3, 1) := by decide +kernel
theorem dX12_eave_38 : decode cX12_eave 38 = .ok (.ishl, 1) := by decide +kernel
theorem dX12_eave_39 : decode cX12_eave 39 = .ok (.goto 4, 3) := by decide +kernel
theorem dX12_eave_42 : decode cX12_eave 42 = .ok (.iconst 0, 1) := by decide +kernel
theorem dX12_eave_43 : decode cX12_eave 43 = .ok (.ior, 1) := by decide +kernel
theorem dX12_eave_44 : decode cX12_eave 44 = .ok (.istore_n 2, 1) := by decide +kernel
theorem dX12_eave_45 : decode cX12_eave 45 = .ok (.iinc 3 1, 3) := by decide +kernel
theorem dX12_eave_48 : decode cX12_eave 48 = .ok (.goto (-33), 3) := by decide +kernel
theorem dX12_eave_51 : decode cX12_eave 51 = .ok (.iload_n 2, 1) := by decide +kernel
theorem dX12_eave_52 : decode cX12_eave 52 = .ok (.ireturn, 1) := by decide +kernel
noncomputable def vX12_eave : List Cond := .code yX12_eave cX12_eave 4 (some .int) :: (([.methodLink RX12 212 yX12_isEave, .instanceMethod yX12_isEave, .selects RX12 yX12_isEave yX12_isEave, .initialized RX12, .fieldLink RX12 9 "IcicleClockModel" "world" "[I", .methodLink RX12 225 yX12_of, .instanceMethod yX12_of, .selects RX12 yX12_of yX12_of] : List Cond) ++ (wsX120 ++ (vX12_isEave ++ vX12_of)))
theorem iX12_eave_12 : ∀ w ∈ wsX120, w ∈ vX12_eave := fun _ h => List.mem_cons_of_mem _ (List.mem_append_right _ (List.mem_append_left _ h))
theorem gs_X12_eave : Gd vX12_eave := Gd.cons (by decide +kernel) (Gd.app (Gd.r (by decide +kernel)) (Gd.app gwX_12 (Gd.app gs_X12_isEave gs_X12_of)))
theorem gg_X12_eave_X12_isEave : GoodIn vX12_eave (wsV RX12 212 RX12 yX12_isEave vX12_isEave) := goodIn_app (goodIn_r _ [1, 2, 3, 4] (by decide +kernel) (by decide +kernel)) (fun w h => ⟨List.mem_cons_of_mem _ (List.mem_append_right _ (List.mem_append_right _ (List.mem_append_left _ h))), gs_X12_isEave w h⟩)
theorem gg_X12_eave_X12_of : GoodIn vX12_eave (wsV RX12 225 RX12 yX12_of vX12_of) := goodIn_app (goodIn_r _ [6, 7, 8, 4] (by decide +kernel) (by decide +kernel)) (fun w h => ⟨List.mem_cons_of_mem _ (List.mem_append_right _ (List.mem_append_right _ (List.mem_append_right _ (h)))), gs_X12_of w h⟩)
set_option maxHeartbeats 4000000 in
set_option maxRecDepth 100000 in
theorem s_X12_eave (l : Launch) (D : va_G) (cs : Nat → ClassId) (ad : Nat → Nat) (kS : kSt) (K : sK) (hKO : KO K) (hj : wJ ad 218) (g : Nat → va_E) (hW : WF (shp ad K) ad cs g) (ev : Int32) : sI l yX12_eave vX12_eave { frames := 2, cells := 0, slots := 0, locals := 46 } D cs ad kS [.ref (ad 197), .int ev] g (fun r g2 => g2 = g) := by
  refine Met.startS (cc := cX12_eave) (maxL := 4) (ret := (some .int)) RX12 rfl (by decide) rfl (Nat.le_of_ble_eq_true rfl) ?_
  intro p e s m below meth c ls X Z hP hl
  have hx := X.1
  have hb := X.2.1
  have hS : va_S (wA ad 218) s.heap s.heap [] := va_S.rf
  have hA : ∀ i, i < 218 → wA ad 218 (ad i) := fun i h => ⟨i, h, rfl⟩
  have hl : lv_has ls 4 [(0, .ref (ad 197)), (1, .int ev)] := hl
  refine lv_aload_n hx hb dX12_eave_0 rfl (lv_at hl 0 rfl) ?_
  refine lv_iload_n hx hb dX12_eave_1 rfl (lv_at hl 1 rfl) ?_
  obtain ⟨fsc_4, hgc_4, hOc_4⟩ := hW.obj (i := 197) (by decide) (sh_197 ad K)
  refine s_calli (q := (RX12, TX12, 40)) (As := [.int ev]) (rest := []) X Z (s_X12_isEave l D cs ad kS K hKO hj g hW ev) (cwV 1 X.2.2.2.2.1 gg_X12_eave_X12_isEave rfl rfl rfl (by decide +kernel) ⟨Nat.le_of_ble_eq_true rfl, Nat.le_of_ble_eq_true rfl⟩) (by decide) hgc_4 rfl hP hA hS.2.1 hS rfl hl.1 rfl (Nat.le_of_ble_eq_true rfl) dX12_eave_2 ⟨Nat.le_of_ble_eq_true rfl, Nat.le_of_ble_eq_true rfl⟩ (fun r_3 g_2 H locs hw_1 hP hS => ?_)
  obtain ⟨hw_1g, hw_1⟩ := hw_1
  rw [hw_1g] at hP
  refine lv_if_ne (tgt := 11) hx hb dX12_eave_5 (by decide) (fun hc_5 => ?_) (fun hc_5 => ?_)
  · have hhc_5 := n_ne (rfl : r_3.toInt = r_3.toInt) (by decide : (0 : Int32).toInt = 0) hc_5
    refine lv_iconst (v := 0) hx hb dX12_eave_11 (by decide) ?_
    refine lv_istore_n (lv' := [(2, .int 0), (0, .ref (ad 197)), (1, .int ev)]) hx hb dX12_eave_12 rfl hl (by decide) rfl (fun ls hl => ?_)
    refine lv_iconst (v := 0) hx hb dX12_eave_13 (by decide) ?_
    refine lv_istore_n (lv' := [(3, .int 0), (2, .int 0), (0, .ref (ad 197)), (1, .int ev)]) hx hb dX12_eave_14 rfl hl (by decide) rfl (fun ls hl => ?_)
    have HL15 : ∀ (n15 : Nat) (v15_3 : Int32) (v15_2 : Int32) (H : Heap) (locs : List Loc) (ls : Array Slot), (8 - v15_3.toInt).toNat < n15 → (0 ≤ v15_3.toInt ∧ v15_3.toInt ≤ 8) → va_P D vwCl (wL ad g 218) H → va_S (wA ad 218) s.heap H locs → lv_has ls 4 [(3, .int v15_3), (2, .int v15_2), (0, .ref (ad 197)), (1, .int ev)] → W p l e ({ frames := 2, cells := 0, slots := 0, locals := 46 } : Room) s m ([.ref (ad 197), .int ev] : List Value).toArray below meth c H locs 0 0 (MQ below (qI D ad 218 (fun r g2 => g2 = g)) ([.ref (ad 197), .int ev] : List Value).toArray s 0 0 (wA ad 218)) (F0 m 15 ls []) := by
      intro n15
      induction n15 with
      | zero =>
        intro v15_3 v15_2 H locs ls hm15 hv15_0 hP hS hl
        exact absurd hm15 (Nat.not_lt_zero _)
      | succ n15 ih15 =>
        intro v15_3 v15_2 H locs ls hm15 hv15_0 hP hS hl
        refine lv_iload_n hx hb dX12_eave_15 rfl (lv_at hl 0 rfl) ?_
        refine lv_aload_n hx hb dX12_eave_16 rfl (lv_at hl 2 rfl) ?_
        have hk_6 := hOc_4.ref 1 rfl
        refine q_get X iX12_eave_12 hP (by decide) hgc_4 rfl 1 (by decide) (List.mem_of_getElem? (i := 5) rfl) (v := .ref (ad 198)) hk_6 dX12_eave_17 ?_
        refine lv_iconst (v := 5) hx hb dX12_eave_20 (by decide) ?_
        obtain ⟨fc_7, hgc_7, hFc_7⟩ := hW.arr (i := 198) (by decide) (sh_198 ad K)
        refine q_iald X hP (by decide) hgc_7 (by unfold vp_in; decide) dX12_eave_21 ?_
        refine lv_topi (fun z_8 ez_8 => ?_)
        have hqz_8 : wq (5) z_8.toInt := ez_8 ▸ hFc_7 _
        have hz_8 : 0 ≤ z_8.toInt ∧ z_8.toInt ≤ 8 := by unfold wq at hqz_8; omega
        clear hqz_8
        refine lv_icmp_ge (tgt := 51) hx hb dX12_eave_22 (by decide) (fun hc_9 => ?_) (fun hc_9 => ?_)
        · have hhc_9 := n_le (rfl : z_8.toInt = z_8.toInt) (rfl : v15_3.toInt = v15_3.toInt) hc_9
          refine lv_iload_n hx hb dX12_eave_51 rfl (lv_at hl 1 rfl) ?_
          exact q_iret X hP hS rfl dX12_eave_52
        · have hhc_9 := n_nle (rfl : z_8.toInt = z_8.toInt) (rfl : v15_3.toInt = v15_3.toInt) hc_9
          refine lv_iload_n hx hb dX12_eave_25 rfl (lv_at hl 1 rfl) ?_
          refine lv_aload_n hx hb dX12_eave_26 rfl (lv_at hl 2 rfl) ?_
          refine lv_iload_n hx hb dX12_eave_27 rfl (lv_at hl 0 rfl) ?_
          refine lv_iconst (v := 0) hx hb dX12_eave_28 (by decide) ?_
          have hqk_10 : (0 : Int32).toInt = 0 := by decide
          refine s_calli (q := (RX12, TX12, 40)) (As := [.int v15_3, .int 0]) (rest := [.int v15_2]) X Z (s_X12_of l D cs ad kS K hKO hj g hW v15_3 0 (by omega) (by omega)) (cwV 2 X.2.2.2.2.1 gg_X12_eave_X12_of rfl rfl rfl (by decide +kernel) ⟨Nat.le_of_ble_eq_true rfl, Nat.le_of_ble_eq_true rfl⟩) (by decide) hgc_4 rfl hP hA hS.2.1 hS rfl hl.1 rfl (Nat.le_of_ble_eq_true rfl) dX12_eave_29 ⟨Nat.le_of_ble_eq_true rfl, Nat.le_of_ble_eq_true rfl⟩ (fun r_13 g_12 H locs hw_11 hP hS => ?_)
          obtain ⟨hw_11g, hw_11⟩ := hw_11
          rw [hw_11g] at hP
          have hqk_14 : (0 : Int32).toInt = 0 := by decide
          refine lv_iload_n hx hb dX12_eave_32 rfl (lv_at hl 3 rfl) ?_
          refine lv_icmp_ne (tgt := 42) hx hb dX12_eave_33 (by decide) (fun hc_15 => ?_) (fun hc_15 => ?_)
          · have hhc_15 := n_ne (rfl : r_13.toInt = r_13.toInt) (rfl : ev.toInt = ev.toInt) hc_15
            refine lv_iconst (v := 0) hx hb dX12_eave_42 (by decide) ?_
            refine lv_ior hx hb dX12_eave_43 ?_
            refine lv_topi (fun z_16 ez_16 => ?_)
            refine lv_istore_n (lv' := [(2, .int z_16), (3, .int v15_3), (0, .ref (ad 197)), (1, .int ev)]) hx hb dX12_eave_44 rfl hl (by decide) rfl (fun ls hl => ?_)
            obtain ⟨x_17, ex_17⟩ : ∃ y : Int32, y = v15_3 + 1 := ⟨_, rfl⟩
            have hx_17 : x_17.toInt = v15_3.toInt + 1 := n_add rfl (by decide : (1 : Int32).toInt = 1) ex_17 (by omega) (by omega)
            refine lv_iinc (v := x_17) (lv' := [(3, .int x_17), (2, .int z_16), (0, .ref (ad 197)), (1, .int ev)]) hx hb dX12_eave_45 hl (k := 1) rfl (by rw [ex_17]; rfl) (by decide) rfl (fun ls hl => ?_)
            refine lv_goto (tgt := 15) hx hb dX12_eave_48 (by decide) ?_
            exact ih15 x_17 z_16 _ _ ls (by omega) (by omega) hP hS (lv_sub hl [0, 1, 2, 3] rfl)
          · have hhc_15 := n_eq (rfl : r_13.toInt = r_13.toInt) (rfl : ev.toInt = ev.toInt) hc_15
            refine lv_iconst (v := 1) hx hb dX12_eave_36 (by decide) ?_
            refine lv_iload_n hx hb dX12_eave_37 rfl (lv_at hl 0 rfl) ?_
            refine lv_ishl hx hb dX12_eave_38 ?_
            refine lv_topi (fun z_18 ez_18 => ?_)
            refine lv_goto (tgt := 43) hx hb dX12_eave_39 (by decide) ?_
            refine lv_ior hx hb dX12_eave_43 ?_
            refine lv_topi (fun z_19 ez_19 => ?_)
            refine lv_istore_n (lv' := [(2, .int z_19), (3, .int v15_3), (0, .ref (ad 197)), (1, .int ev)]) hx hb dX12_eave_44 rfl hl (by decide) rfl (fun ls hl => ?_)
            obtain ⟨x_20, ex_20⟩ : ∃ y : Int32, y = v15_3 + 1 := ⟨_, rfl⟩
            have hx_20 : x_20.toInt = v15_3.toInt + 1 := n_add rfl (by decide : (1 : Int32).toInt = 1) ex_20 (by omega) (by omega)
            refine lv_iinc (v := x_20) (lv' := [(3, .int x_20), (2, .int z_19), (0, .ref (ad 197)), (1, .int ev)]) hx hb dX12_eave_45 hl (k := 1) rfl (by rw [ex_20]; rfl) (by decide) rfl (fun ls hl => ?_)
            refine lv_goto (tgt := 15) hx hb dX12_eave_48 (by decide) ?_
            exact ih15 x_20 z_19 _ _ ls (by omega) (by omega) hP hS (lv_sub hl [0, 1, 2, 3] rfl)
    have hiv15_3 : (0 : Int32).toInt = 0 := by decide
    have hiv15_2 : (0 : Int32).toInt = 0 := by decide
    exact HL15 _ 0 0 _ _ ls (Nat.lt_succ_self _) (by omega) hP hS (lv_sub hl [0, 1, 2, 3] rfl)
  · have hhc_5 := n_eq (rfl : r_3.toInt = r_3.toInt) (by decide : (0 : Int32).toInt = 0) hc_5
    refine lv_bipush (v := (-2)) hx hb dX12_eave_8 (by decide) ?_
    exact q_iret X hP hS rfl dX12_eave_10

theorem dX12_fallsBy_0 : decode cX12_fallsBy 0 = .ok (.iload_n 2, 1) := by decide +kernel
theorem dX12_fallsBy_1 : decode cX12_fallsBy 1 = .ok (.istore_n 3, 1) := by decide +kernel
theorem dX12_fallsBy_2 : decode cX12_fallsBy 2 = .ok (.iconst 0, 1) := by decide +kernel
theorem dX12_fallsBy_3 : decode cX12_fallsBy 3 = .ok (.istore 4, 2) := by decide +kernel
theorem dX12_fallsBy_5 : decode cX12_fallsBy 5 = .ok (.iload 4, 2) := by decide +kernel
theorem dX12_fallsBy_7 : decode cX12_fallsBy 7 = .ok (.aload_n 0, 1) := by decide +kernel
theorem dX12_fallsBy_8 : decode cX12_fallsBy 8 = .ok (.getfield 231, 3) := by decide +kernel
theorem dX12_fallsBy_11 : decode cX12_fallsBy 11 = .ok (.if_icmp .ge 31, 3) := by decide +kernel
theorem dX12_fallsBy_14 : decode cX12_fallsBy 14 = .ok (.iload_n 3, 1) := by decide +kernel
theorem dX12_fallsBy_15 : decode cX12_fallsBy 15 = .ok (.aload_n 0, 1) := by decide +kernel
theorem dX12_fallsBy_16 : decode cX12_fallsBy 16 = .ok (.getfield 34, 3) := by decide +kernel
theorem dX12_fallsBy_19 : decode cX12_fallsBy 19 = .ok (.bipush 14, 2) := by decide +kernel
theorem dX12_fallsBy_21 : decode cX12_fallsBy 21 = .ok (.iload_n 1, 1) := by decide +kernel
theorem dX12_fallsBy_22 : decode cX12_fallsBy 22 = .ok (.imul, 1) := by decide +kernel
theorem dX12_fallsBy_23 : decode cX12_fallsBy 23 = .ok (.iload 4, 2) := by decide +kernel
theorem dX12_fallsBy_25 : decode cX12_fallsBy 25 = .ok (.iadd, 1) := by decide +kernel
theorem dX12_fallsBy_26 : decode cX12_fallsBy 26 = .ok (.iaload, 1) := by decide +kernel
theorem dX12_fallsBy_27 : decode cX12_fallsBy 27 = .ok (.isub, 1) := by decide +kernel
theorem dX12_fallsBy_28 : decode cX12_fallsBy 28 = .ok (.istore_n 3, 1) := by decide +kernel
theorem dX12_fallsBy_29 : decode cX12_fallsBy 29 = .ok (.iload_n 3, 1) := by decide +kernel
theorem dX12_fallsBy_30 : decode cX12_fallsBy 30 = .ok (.ifCond .gt 6, 3) := by decide +kernel
theorem dX12_fallsBy_33 : decode cX12_fallsBy 33 = .ok (.iload 4, 2) := by decide +kernel
theorem dX12_fallsBy_35 : decode cX12_fallsBy 35 = .ok (.ireturn, 1) := by decide +kernel
theorem dX12_fallsBy_36 : decode cX12_fallsBy 36 = .ok (.iinc 4 1, 3) := by decide +kernel
theorem dX12_fallsBy_39 : decode cX12_fallsBy 39 = .ok (.goto (-34), 3) := by decide +kernel
theorem dX12_fallsBy_42 : decode cX12_fallsBy 42 = .ok (.iconst (-1), 1) := by decide +kernel
theorem dX12_fallsBy_43 : decode cX12_fallsBy 43 = .ok (.ireturn, 1) := by decide +kernel
noncomputable def vX12_fallsBy : List Cond := .code yX12_fallsBy cX12_fallsBy 5 (some .int) :: (([.fieldLink RX12 231 "IcicleClockModel" "days" "I", .fieldLink RX12 34 "IcicleClockModel" "off" "[I"] : List Cond) ++ wsX120)
theorem iX12_fallsBy_12 : ∀ w ∈ wsX120, w ∈ vX12_fallsBy := fun _ h => List.mem_cons_of_mem _ (List.mem_append_right _ (h))
theorem gs_X12_fallsBy : Gd vX12_fallsBy := Gd.cons (by decide +kernel) (Gd.app (Gd.r (by decide +kernel)) gwX_12)
set_option maxHeartbeats 4000000 in
set_option maxRecDepth 100000 in
theorem s_X12_fallsBy (l : Launch) (D : va_G) (cs : Nat → ClassId) (ad : Nat → Nat) (kS : kSt) (K : sK) (hKO : KO K) (hj : wJ ad 218) (g : Nat → va_E) (hW : WF (shp ad K) ad cs g) (ev : Int32) (len : Int32) (hp0 : 0 ≤ ev.toInt ∧ ev.toInt ≤ 4) : sI l yX12_fallsBy vX12_fallsBy { frames := 0, cells := 0, slots := 0, locals := 0 } D cs ad kS [.ref (ad 197), .int ev, .int len] g (fun r g2 => g2 = g ∧ ((-1) ≤ r.toInt ∧ r.toInt ≤ 13)) := by
  refine Met.startS (cc := cX12_fallsBy) (maxL := 5) (ret := (some .int)) RX12 rfl (by decide) rfl (Nat.le_of_ble_eq_true rfl) ?_
  intro p e s m below meth c ls X Z hP hl
  have hx := X.1
  have hb := X.2.1
  have hS : va_S (wA ad 218) s.heap s.heap [] := va_S.rf
  have hA : ∀ i, i < 218 → wA ad 218 (ad i) := fun i h => ⟨i, h, rfl⟩
  have hl : lv_has ls 5 [(0, .ref (ad 197)), (1, .int ev), (2, .int len)] := hl
  refine lv_iload_n hx hb dX12_fallsBy_0 rfl (lv_at hl 2 rfl) ?_
  refine lv_istore_n (lv' := [(3, .int len), (0, .ref (ad 197)), (1, .int ev), (2, .int len)]) hx hb dX12_fallsBy_1 rfl hl (by decide) rfl (fun ls hl => ?_)
  refine lv_iconst (v := 0) hx hb dX12_fallsBy_2 (by decide) ?_
  refine lv_istore (lv' := [(4, .int 0), (3, .int len), (0, .ref (ad 197)), (1, .int ev), (2, .int len)]) hx hb dX12_fallsBy_3 hl (by decide) rfl (fun ls hl => ?_)
  have HL5 : ∀ (n5 : Nat) (v5_4 : Int32) (v5_3 : Int32) (H : Heap) (locs : List Loc) (ls : Array Slot), (14 - v5_4.toInt).toNat < n5 → (0 ≤ v5_4.toInt ∧ v5_4.toInt ≤ 14) → va_P D vwCl (wL ad g 218) H → va_S (wA ad 218) s.heap H locs → lv_has ls 5 [(4, .int v5_4), (3, .int v5_3), (0, .ref (ad 197)), (1, .int ev)] → W p l e ({ frames := 0, cells := 0, slots := 0, locals := 0 } : Room) s m ([.ref (ad 197), .int ev, .int len] : List Value).toArray below meth c H locs 0 0 (MQ below (qI D ad 218 (fun r g2 => g2 = g ∧ ((-1) ≤ r.toInt ∧ r.toInt ≤ 13))) ([.ref (ad 197), .int ev, .int len] : List Value).toArray s 0 0 (wA ad 218)) (F0 m 5 ls []) := by
    intro n5
    induction n5 with
    | zero =>
      intro v5_4 v5_3 H locs ls hm5 hv5_0 hP hS hl
      exact absurd hm5 (Nat.not_lt_zero _)
    | succ n5 ih5 =>
      intro v5_4 v5_3 H locs ls hm5 hv5_0 hP hS hl
      refine lv_iload hx hb dX12_fallsBy_5 (lv_at hl 0 rfl) ?_
      refine lv_aload_n hx hb dX12_fallsBy_7 rfl (lv_at hl 2 rfl) ?_
      obtain ⟨fsc_1, hgc_1, hOc_1⟩ := hW.obj (i := 197) (by decide) (sh_197 ad K)
      obtain ⟨x_3, hk_2, hlx_3, hhx_3⟩ := hOc_1.int 17 rfl
      refine q_get X iX12_fallsBy_12 hP (by decide) hgc_1 rfl 17 (by decide) (List.mem_of_getElem? (i := 1) rfl) (v := .int x_3) hk_2 dX12_fallsBy_8 ?_
      refine lv_icmp_ge (tgt := 42) hx hb dX12_fallsBy_11 (by decide) (fun hc_4 => ?_) (fun hc_4 => ?_)
      · have hhc_4 := n_le (rfl : x_3.toInt = x_3.toInt) (rfl : v5_4.toInt = v5_4.toInt) hc_4
        refine lv_iconst (v := (-1)) hx hb dX12_fallsBy_42 (by decide) ?_
        have hr0 : ((-1) : Int32).toInt = -1 := by decide
        exact q_iret X hP hS ⟨rfl, (by omega)⟩ dX12_fallsBy_43
      · have hhc_4 := n_nle (rfl : x_3.toInt = x_3.toInt) (rfl : v5_4.toInt = v5_4.toInt) hc_4
        refine lv_iload_n hx hb dX12_fallsBy_14 rfl (lv_at hl 1 rfl) ?_
        refine lv_aload_n hx hb dX12_fallsBy_15 rfl (lv_at hl 2 rfl) ?_
        have hk_5 := hOc_1.ref 15 rfl
        refine q_get X iX12_fallsBy_12 hP (by decide) hgc_1 rfl 15 (by decide) (List.mem_of_getElem? (i := 2) rfl) (v := .ref (ad 204)) hk_5 dX12_fallsBy_16 ?_
        refine lv_bipush (v := 14) hx hb dX12_fallsBy_19 (by decide) ?_
        refine lv_iload_n hx hb dX12_fallsBy_21 rfl (lv_at hl 3 rfl) ?_
        refine lv_imul hx hb dX12_fallsBy_22 ?_
        refine lv_topi (fun z_6 ez_6 => ?_)
        have hz_6 : z_6.toInt = 14 * ev.toInt := n_mul (by decide : (14 : Int32).toInt = 14) (rfl : ev.toInt = ev.toInt) ez_6 (by omega) (by omega)
        refine lv_iload hx hb dX12_fallsBy_23 (lv_at hl 0 rfl) ?_
        refine lv_iadd hx hb dX12_fallsBy_25 ?_
        refine lv_topi (fun z_7 ez_7 => ?_)
        have hz_7 : z_7.toInt = z_6.toInt + v5_4.toInt := n_add (rfl : z_6.toInt = z_6.toInt) (rfl : v5_4.toInt = v5_4.toInt) ez_7 (by omega) (by omega)
        obtain ⟨fc_8, hgc_8, hFc_8⟩ := hW.arr (i := 204) (by decide) (sh_204 ad K)
        refine q_iald X hP (by decide) hgc_8 (n_in (rfl : z_7.toInt = z_7.toInt) (by omega) (by omega)) dX12_fallsBy_26 ?_
        refine lv_topi (fun z_9 ez_9 => ?_)
        refine lv_isub hx hb dX12_fallsBy_27 ?_
        refine lv_topi (fun z_10 ez_10 => ?_)
        refine lv_istore_n (lv' := [(3, .int z_10), (4, .int v5_4), (0, .ref (ad 197)), (1, .int ev)]) hx hb dX12_fallsBy_28 rfl hl (by decide) rfl (fun ls hl => ?_)
        refine lv_iload_n hx hb dX12_fallsBy_29 rfl (lv_at hl 0 rfl) ?_
        refine lv_if_gt (tgt := 36) hx hb dX12_fallsBy_30 (by decide) (fun hc_11 => ?_) (fun hc_11 => ?_)
        · have hhc_11 := n_lt (by decide : (0 : Int32).toInt = 0) (rfl : z_10.toInt = z_10.toInt) hc_11
          obtain ⟨x_12, ex_12⟩ : ∃ y : Int32, y = v5_4 + 1 := ⟨_, rfl⟩
          have hx_12 : x_12.toInt = v5_4.toInt + 1 := n_add rfl (by decide : (1 : Int32).toInt = 1) ex_12 (by omega) (by omega)
          refine lv_iinc (v := x_12) (lv' := [(4, .int x_12), (3, .int z_10), (0, .ref (ad 197)), (1, .int ev)]) hx hb dX12_fallsBy_36 hl (k := 1) rfl (by rw [ex_12]; rfl) (by decide) rfl (fun ls hl => ?_)
          refine lv_goto (tgt := 5) hx hb dX12_fallsBy_39 (by decide) ?_
          exact ih5 x_12 z_10 _ _ ls (by omega) (by omega) hP hS (lv_sub hl [0, 1, 2, 3] rfl)
        · have hhc_11 := n_nlt (by decide : (0 : Int32).toInt = 0) (rfl : z_10.toInt = z_10.toInt) hc_11
          refine lv_iload hx hb dX12_fallsBy_33 (lv_at hl 1 rfl) ?_
          exact q_iret X hP hS ⟨rfl, (by omega)⟩ dX12_fallsBy_35
  have hiv5_4 : (0 : Int32).toInt = 0 := by decide
  exact HL5 _ 0 len _ _ ls (Nat.lt_succ_self _) (by omega) hP hS (lv_sub hl [0, 1, 2, 3] rfl)

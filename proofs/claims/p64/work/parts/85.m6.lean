theorem dX12_hasFirst_0 : decode cX12_hasFirst 0 = .ok (.aload_n 0, 1) := by decide +kernel
theorem dX12_hasFirst_1 : decode cX12_hasFirst 1 = .ok (.iload_n 1, 1) := by decide +kernel
theorem dX12_hasFirst_2 : decode cX12_hasFirst 2 = .ok (.iload_n 2, 1) := by decide +kernel
theorem dX12_hasFirst_3 : decode cX12_hasFirst 3 = .ok (.invokevirtual 270, 3) := by decide +kernel
theorem dX12_hasFirst_6 : decode cX12_hasFirst 6 = .ok (.invokestatic 264, 3) := by decide +kernel
theorem dX12_hasFirst_9 : decode cX12_hasFirst 9 = .ok (.aload_n 0, 1) := by decide +kernel
theorem dX12_hasFirst_10 : decode cX12_hasFirst 10 = .ok (.iload_n 1, 1) := by decide +kernel
theorem dX12_hasFirst_11 : decode cX12_hasFirst 11 = .ok (.invokevirtual 215, 3) := by decide +kernel
theorem dX12_hasFirst_14 : decode cX12_hasFirst 14 = .ok (.iadd, 1) := by decide +kernel
theorem dX12_hasFirst_15 : decode cX12_hasFirst 15 = .ok (.ireturn, 1) := by decide +kernel
noncomputable def vX12_hasFirst : List Cond := .code yX12_hasFirst cX12_hasFirst 3 (some .int) :: (([.methodLink RX12 270 yX12_meetOf, .instanceMethod yX12_meetOf, .selects RX12 yX12_meetOf yX12_meetOf, .initialized RX12, .methodLink RX12 264 yX12_bits, .static yX12_bits, .methodLink RX12 215 yX12_sunOf, .instanceMethod yX12_sunOf, .selects RX12 yX12_sunOf yX12_sunOf] : List Cond) ++ (vX12_meetOf ++ (vX12_bits ++ vX12_sunOf)))
theorem gs_X12_hasFirst : Gd vX12_hasFirst := Gd.cons (by decide +kernel) (Gd.app (Gd.r (by decide +kernel)) (Gd.app gs_X12_meetOf (Gd.app gs_X12_bits gs_X12_sunOf)))
theorem gg_X12_hasFirst_X12_meetOf : GoodIn vX12_hasFirst (wsV RX12 270 RX12 yX12_meetOf vX12_meetOf) := goodIn_app (goodIn_r _ [1, 2, 3, 4] (by decide +kernel) (by decide +kernel)) (fun w h => ⟨List.mem_cons_of_mem _ (List.mem_append_right _ (List.mem_append_left _ h)), gs_X12_meetOf w h⟩)
theorem gg_X12_hasFirst_X12_bits : GoodIn vX12_hasFirst (wsS RX12 264 yX12_bits vX12_bits) := goodIn_app (goodIn_r _ [5, 6, 4] (by decide +kernel) (by decide +kernel)) (fun w h => ⟨List.mem_cons_of_mem _ (List.mem_append_right _ (List.mem_append_right _ (List.mem_append_left _ h))), gs_X12_bits w h⟩)
theorem gg_X12_hasFirst_X12_sunOf : GoodIn vX12_hasFirst (wsV RX12 215 RX12 yX12_sunOf vX12_sunOf) := goodIn_app (goodIn_r _ [7, 8, 9, 4] (by decide +kernel) (by decide +kernel)) (fun w h => ⟨List.mem_cons_of_mem _ (List.mem_append_right _ (List.mem_append_right _ (List.mem_append_right _ (h)))), gs_X12_sunOf w h⟩)
set_option maxHeartbeats 4000000 in
set_option maxRecDepth 100000 in
theorem s_X12_hasFirst (l : Launch) (D : va_G) (cs : Nat → ClassId) (ad : Nat → Nat) (kS : kSt) (K : sK) (hKO : KO K) (hj : wJ ad 218) (g : Nat → va_E) (hW : WF (shp ad K) ad cs g) (ea : Int32) (eb : Int32) (hp0 : 0 ≤ ea.toInt ∧ ea.toInt ≤ 4) (hp1 : 0 ≤ eb.toInt ∧ eb.toInt ≤ 4) : sI l yX12_hasFirst vX12_hasFirst { frames := 3, cells := 0, slots := 0, locals := 70 } D cs ad kS [.ref (ad 197), .int ea, .int eb] g (fun r g2 => g2 = g) := by
  refine Met.startS (cc := cX12_hasFirst) (maxL := 3) (ret := (some .int)) RX12 rfl (by decide) rfl (Nat.le_of_ble_eq_true rfl) ?_
  intro p e s m below meth c ls X Z hP hl
  have hx := X.1
  have hb := X.2.1
  have hS : va_S (wA ad 218) s.heap s.heap [] := va_S.rf
  have hA : ∀ i, i < 218 → wA ad 218 (ad i) := fun i h => ⟨i, h, rfl⟩
  have hl : lv_has ls 3 [(0, .ref (ad 197)), (1, .int ea), (2, .int eb)] := hl
  refine lv_aload_n hx hb dX12_hasFirst_0 rfl (lv_at hl 0 rfl) ?_
  refine lv_iload_n hx hb dX12_hasFirst_1 rfl (lv_at hl 1 rfl) ?_
  refine lv_iload_n hx hb dX12_hasFirst_2 rfl (lv_at hl 2 rfl) ?_
  obtain ⟨fsc_4, hgc_4, hOc_4⟩ := hW.obj (i := 197) (by decide) (sh_197 ad K)
  refine s_calli (q := (RX12, TX12, 40)) (As := [.int ea, .int eb]) (rest := []) X Z (s_X12_meetOf l D cs ad kS K hKO hj g hW ea eb) (cwV 2 X.2.2.2.2.1 gg_X12_hasFirst_X12_meetOf rfl rfl rfl (by decide +kernel) ⟨Nat.le_of_ble_eq_true rfl, Nat.le_of_ble_eq_true rfl⟩) (by decide) hgc_4 rfl hP hA hS.2.1 hS rfl hl.1 rfl (Nat.le_of_ble_eq_true rfl) dX12_hasFirst_3 ⟨Nat.le_of_ble_eq_true rfl, Nat.le_of_ble_eq_true rfl⟩ (fun r_3 g_2 H locs hw_1 hP hS => ?_)
  rw [hw_1] at hP
  refine s_callSi (As := [.int r_3]) (rest := []) X Z (s_X12_bits l D cs ad kS K hKO hj g hW r_3) (cwS 1 X.2.2.2.2.1 gg_X12_hasFirst_X12_bits rfl rfl rfl (by decide +kernel) ⟨Nat.le_of_ble_eq_true rfl, Nat.le_of_ble_eq_true rfl⟩) hP hA hS.2.1 hS rfl hl.1 rfl (Nat.le_of_ble_eq_true rfl) dX12_hasFirst_6 ⟨Nat.le_of_ble_eq_true rfl, Nat.le_of_ble_eq_true rfl⟩ (fun r_7 g_6 H locs hw_5 hP hS => ?_)
  rw [hw_5] at hP
  refine lv_aload_n hx hb dX12_hasFirst_9 rfl (lv_at hl 0 rfl) ?_
  refine lv_iload_n hx hb dX12_hasFirst_10 rfl (lv_at hl 1 rfl) ?_
  refine s_calli (q := (RX12, TX12, 40)) (As := [.int ea]) (rest := [.int r_7]) X Z (s_X12_sunOf l D cs ad kS K hKO hj g hW ea (by omega)) (cwV 1 X.2.2.2.2.1 gg_X12_hasFirst_X12_sunOf rfl rfl rfl (by decide +kernel) ⟨Nat.le_of_ble_eq_true rfl, Nat.le_of_ble_eq_true rfl⟩) (by decide) hgc_4 rfl hP hA hS.2.1 hS rfl hl.1 rfl (Nat.le_of_ble_eq_true rfl) dX12_hasFirst_11 ⟨Nat.le_of_ble_eq_true rfl, Nat.le_of_ble_eq_true rfl⟩ (fun r_10 g_9 H locs hw_8 hP hS => ?_)
  rw [hw_8] at hP
  refine lv_iadd hx hb dX12_hasFirst_14 ?_
  refine lv_topi (fun z_11 ez_11 => ?_)
  exact q_iret X hP hS rfl dX12_hasFirst_15

theorem dX12_hasSecond_0 : decode cX12_hasSecond 0 = .ok (.aload_n 0, 1) := by decide +kernel
theorem dX12_hasSecond_1 : decode cX12_hasSecond 1 = .ok (.getfield 231, 3) := by decide +kernel
theorem dX12_hasSecond_4 : decode cX12_hasSecond 4 = .ok (.aload_n 0, 1) := by decide +kernel
theorem dX12_hasSecond_5 : decode cX12_hasSecond 5 = .ok (.iload_n 1, 1) := by decide +kernel
theorem dX12_hasSecond_6 : decode cX12_hasSecond 6 = .ok (.iload_n 2, 1) := by decide +kernel
theorem dX12_hasSecond_7 : decode cX12_hasSecond 7 = .ok (.invokevirtual 270, 3) := by decide +kernel
theorem dX12_hasSecond_10 : decode cX12_hasSecond 10 = .ok (.invokestatic 264, 3) := by decide +kernel
theorem dX12_hasSecond_13 : decode cX12_hasSecond 13 = .ok (.isub, 1) := by decide +kernel
theorem dX12_hasSecond_14 : decode cX12_hasSecond 14 = .ok (.aload_n 0, 1) := by decide +kernel
theorem dX12_hasSecond_15 : decode cX12_hasSecond 15 = .ok (.iload_n 2, 1) := by decide +kernel
theorem dX12_hasSecond_16 : decode cX12_hasSecond 16 = .ok (.invokevirtual 215, 3) := by decide +kernel
theorem dX12_hasSecond_19 : decode cX12_hasSecond 19 = .ok (.iadd, 1) := by decide +kernel
theorem dX12_hasSecond_20 : decode cX12_hasSecond 20 = .ok (.ireturn, 1) := by decide +kernel
noncomputable def vX12_hasSecond : List Cond := .code yX12_hasSecond cX12_hasSecond 3 (some .int) :: (([.fieldLink RX12 231 "IcicleClockModel" "days" "I", .methodLink RX12 270 yX12_meetOf, .instanceMethod yX12_meetOf, .selects RX12 yX12_meetOf yX12_meetOf, .initialized RX12, .methodLink RX12 264 yX12_bits, .static yX12_bits, .methodLink RX12 215 yX12_sunOf, .instanceMethod yX12_sunOf, .selects RX12 yX12_sunOf yX12_sunOf] : List Cond) ++ (wsX120 ++ (vX12_meetOf ++ (vX12_bits ++ vX12_sunOf))))
theorem iX12_hasSecond_12 : ∀ w ∈ wsX120, w ∈ vX12_hasSecond := fun _ h => List.mem_cons_of_mem _ (List.mem_append_right _ (List.mem_append_left _ h))
theorem gs_X12_hasSecond : Gd vX12_hasSecond := Gd.cons (by decide +kernel) (Gd.app (Gd.r (by decide +kernel)) (Gd.app gwX_12 (Gd.app gs_X12_meetOf (Gd.app gs_X12_bits gs_X12_sunOf))))
theorem gg_X12_hasSecond_X12_meetOf : GoodIn vX12_hasSecond (wsV RX12 270 RX12 yX12_meetOf vX12_meetOf) := goodIn_app (goodIn_r _ [2, 3, 4, 5] (by decide +kernel) (by decide +kernel)) (fun w h => ⟨List.mem_cons_of_mem _ (List.mem_append_right _ (List.mem_append_right _ (List.mem_append_left _ h))), gs_X12_meetOf w h⟩)
theorem gg_X12_hasSecond_X12_bits : GoodIn vX12_hasSecond (wsS RX12 264 yX12_bits vX12_bits) := goodIn_app (goodIn_r _ [6, 7, 5] (by decide +kernel) (by decide +kernel)) (fun w h => ⟨List.mem_cons_of_mem _ (List.mem_append_right _ (List.mem_append_right _ (List.mem_append_right _ (List.mem_append_left _ h)))), gs_X12_bits w h⟩)
theorem gg_X12_hasSecond_X12_sunOf : GoodIn vX12_hasSecond (wsV RX12 215 RX12 yX12_sunOf vX12_sunOf) := goodIn_app (goodIn_r _ [8, 9, 10, 5] (by decide +kernel) (by decide +kernel)) (fun w h => ⟨List.mem_cons_of_mem _ (List.mem_append_right _ (List.mem_append_right _ (List.mem_append_right _ (List.mem_append_right _ (h))))), gs_X12_sunOf w h⟩)
set_option maxHeartbeats 4000000 in
set_option maxRecDepth 100000 in
theorem s_X12_hasSecond (l : Launch) (D : va_G) (cs : Nat → ClassId) (ad : Nat → Nat) (kS : kSt) (K : sK) (hKO : KO K) (hj : wJ ad 218) (g : Nat → va_E) (hW : WF (shp ad K) ad cs g) (ea : Int32) (eb : Int32) (hp0 : 0 ≤ ea.toInt ∧ ea.toInt ≤ 4) (hp1 : 0 ≤ eb.toInt ∧ eb.toInt ≤ 4) : sI l yX12_hasSecond vX12_hasSecond { frames := 3, cells := 0, slots := 0, locals := 70 } D cs ad kS [.ref (ad 197), .int ea, .int eb] g (fun r g2 => g2 = g) := by
  refine Met.startS (cc := cX12_hasSecond) (maxL := 3) (ret := (some .int)) RX12 rfl (by decide) rfl (Nat.le_of_ble_eq_true rfl) ?_
  intro p e s m below meth c ls X Z hP hl
  have hx := X.1
  have hb := X.2.1
  have hS : va_S (wA ad 218) s.heap s.heap [] := va_S.rf
  have hA : ∀ i, i < 218 → wA ad 218 (ad i) := fun i h => ⟨i, h, rfl⟩
  have hl : lv_has ls 3 [(0, .ref (ad 197)), (1, .int ea), (2, .int eb)] := hl
  refine lv_aload_n hx hb dX12_hasSecond_0 rfl (lv_at hl 0 rfl) ?_
  obtain ⟨fsc_1, hgc_1, hOc_1⟩ := hW.obj (i := 197) (by decide) (sh_197 ad K)
  obtain ⟨x_3, hk_2, hlx_3, hhx_3⟩ := hOc_1.int 17 rfl
  refine q_get X iX12_hasSecond_12 hP (by decide) hgc_1 rfl 17 (by decide) (List.mem_of_getElem? (i := 1) rfl) (v := .int x_3) hk_2 dX12_hasSecond_1 ?_
  refine lv_aload_n hx hb dX12_hasSecond_4 rfl (lv_at hl 0 rfl) ?_
  refine lv_iload_n hx hb dX12_hasSecond_5 rfl (lv_at hl 1 rfl) ?_
  refine lv_iload_n hx hb dX12_hasSecond_6 rfl (lv_at hl 2 rfl) ?_
  refine s_calli (q := (RX12, TX12, 40)) (As := [.int ea, .int eb]) (rest := [.int x_3]) X Z (s_X12_meetOf l D cs ad kS K hKO hj g hW ea eb) (cwV 2 X.2.2.2.2.1 gg_X12_hasSecond_X12_meetOf rfl rfl rfl (by decide +kernel) ⟨Nat.le_of_ble_eq_true rfl, Nat.le_of_ble_eq_true rfl⟩) (by decide) hgc_1 rfl hP hA hS.2.1 hS rfl hl.1 rfl (Nat.le_of_ble_eq_true rfl) dX12_hasSecond_7 ⟨Nat.le_of_ble_eq_true rfl, Nat.le_of_ble_eq_true rfl⟩ (fun r_6 g_5 H locs hw_4 hP hS => ?_)
  rw [hw_4] at hP
  refine s_callSi (As := [.int r_6]) (rest := [.int x_3]) X Z (s_X12_bits l D cs ad kS K hKO hj g hW r_6) (cwS 1 X.2.2.2.2.1 gg_X12_hasSecond_X12_bits rfl rfl rfl (by decide +kernel) ⟨Nat.le_of_ble_eq_true rfl, Nat.le_of_ble_eq_true rfl⟩) hP hA hS.2.1 hS rfl hl.1 rfl (Nat.le_of_ble_eq_true rfl) dX12_hasSecond_10 ⟨Nat.le_of_ble_eq_true rfl, Nat.le_of_ble_eq_true rfl⟩ (fun r_9 g_8 H locs hw_7 hP hS => ?_)
  rw [hw_7] at hP
  refine lv_isub hx hb dX12_hasSecond_13 ?_
  refine lv_topi (fun z_10 ez_10 => ?_)
  refine lv_aload_n hx hb dX12_hasSecond_14 rfl (lv_at hl 0 rfl) ?_
  refine lv_iload_n hx hb dX12_hasSecond_15 rfl (lv_at hl 2 rfl) ?_
  refine s_calli (q := (RX12, TX12, 40)) (As := [.int eb]) (rest := [.int z_10]) X Z (s_X12_sunOf l D cs ad kS K hKO hj g hW eb (by omega)) (cwV 1 X.2.2.2.2.1 gg_X12_hasSecond_X12_sunOf rfl rfl rfl (by decide +kernel) ⟨Nat.le_of_ble_eq_true rfl, Nat.le_of_ble_eq_true rfl⟩) (by decide) hgc_1 rfl hP hA hS.2.1 hS rfl hl.1 rfl (Nat.le_of_ble_eq_true rfl) dX12_hasSecond_16 ⟨Nat.le_of_ble_eq_true rfl, Nat.le_of_ble_eq_true rfl⟩ (fun r_13 g_12 H locs hw_11 hP hS => ?_)
  rw [hw_11] at hP
  refine lv_iadd hx hb dX12_hasSecond_19 ?_
  refine lv_topi (fun z_14 ez_14 => ?_)
  exact q_iret X hP hS rfl dX12_hasSecond_20

theorem dX12_isRest_0 : decode cX12_isRest 0 = .ok (.iconst 0, 1) := by decide +kernel
theorem dX12_isRest_1 : decode cX12_isRest 1 = .ok (.istore_n 3, 1) := by decide +kernel
theorem dX12_isRest_2 : decode cX12_isRest 2 = .ok (.iload_n 3, 1) := by decide +kernel
theorem dX12_isRest_3 : decode cX12_isRest 3 = .ok (.aload_n 0, 1) := by decide +kernel
theorem dX12_isRest_4 : decode cX12_isRest 4 = .ok (.getfield 9, 3) := by decide +kernel
theorem dX12_isRest_7 : decode cX12_isRest 7 = .ok (.iconst 4, 1) := by decide +kernel
theorem dX12_isRest_8 : decode cX12_isRest 8 = .ok (.iaload, 1) := by decide +kernel
theorem dX12_isRest_9 : decode cX12_isRest 9 = .ok (.if_icmp .ge 41, 3) := by decide +kernel
theorem dX12_isRest_12 : decode cX12_isRest 12 = .ok (.aload_n 0, 1) := by decide +kernel
theorem dX12_isRest_13 : decode cX12_isRest 13 = .ok (.iload_n 3, 1) := by decide +kernel
theorem dX12_isRest_14 : decode cX12_isRest 14 = .ok (.iload_n 2, 1) := by decide +kernel
theorem dX12_isRest_15 : decode cX12_isRest 15 = .ok (.invokevirtual 385, 3) := by decide +kernel
theorem dX12_isRest_18 : decode cX12_isRest 18 = .ok (.aload_n 0, 1) := by decide +kernel
theorem dX12_isRest_19 : decode cX12_isRest 19 = .ok (.iload_n 1, 1) := by decide +kernel
theorem dX12_isRest_20 : decode cX12_isRest 20 = .ok (.iload_n 2, 1) := by decide +kernel
theorem dX12_isRest_21 : decode cX12_isRest 21 = .ok (.invokevirtual 385, 3) := by decide +kernel
theorem dX12_isRest_24 : decode cX12_isRest 24 = .ok (.if_icmp .gt 18, 3) := by decide +kernel
theorem dX12_isRest_27 : decode cX12_isRest 27 = .ok (.aload_n 0, 1) := by decide +kernel
theorem dX12_isRest_28 : decode cX12_isRest 28 = .ok (.iload_n 1, 1) := by decide +kernel
theorem dX12_isRest_29 : decode cX12_isRest 29 = .ok (.iload_n 3, 1) := by decide +kernel
theorem dX12_isRest_30 : decode cX12_isRest 30 = .ok (.invokevirtual 388, 3) := by decide +kernel
theorem dX12_isRest_33 : decode cX12_isRest 33 = .ok (.aload_n 0, 1) := by decide +kernel
theorem dX12_isRest_34 : decode cX12_isRest 34 = .ok (.iload_n 1, 1) := by decide +kernel
theorem dX12_isRest_35 : decode cX12_isRest 35 = .ok (.iload_n 2, 1) := by decide +kernel
theorem dX12_isRest_36 : decode cX12_isRest 36 = .ok (.invokevirtual 388, 3) := by decide +kernel
theorem dX12_isRest_39 : decode cX12_isRest 39 = .ok (.if_icmp .le 5, 3) := by decide +kernel
theorem dX12_isRest_44 : decode cX12_isRest 44 = .ok (.iinc 3 1, 3) := by decide +kernel
theorem dX12_isRest_47 : decode cX12_isRest 47 = .ok (.goto (-45), 3) := by decide +kernel
theorem dX12_isRest_42 : decode cX12_isRest 42 = .ok (.iconst 0, 1) := by decide +kernel
theorem dX12_isRest_43 : decode cX12_isRest 43 = .ok (.ireturn, 1) := by decide +kernel
theorem dX12_isRest_50 : decode cX12_isRest 50 = .ok (.iconst 1, 1) := by decide +kernel
theorem dX12_isRest_51 : decode cX12_isRest 51 = .ok (.ireturn, 1) := by decide +kernel
noncomputable def vX12_isRest : List Cond := .code yX12_isRest cX12_isRest 4 (some .boolean) :: (([.fieldLink RX12 9 "IcicleClockModel" "world" "[I", .methodLink RX12 385 yX12_hasFirst, .instanceMethod yX12_hasFirst, .selects RX12 yX12_hasFirst yX12_hasFirst, .initialized RX12, .methodLink RX12 388 yX12_hasSecond, .instanceMethod yX12_hasSecond, .selects RX12 yX12_hasSecond yX12_hasSecond] : List Cond) ++ (wsX120 ++ (vX12_hasFirst ++ vX12_hasSecond)))
theorem iX12_isRest_12 : ∀ w ∈ wsX120, w ∈ vX12_isRest := fun _ h => List.mem_cons_of_mem _ (List.mem_append_right _ (List.mem_append_left _ h))
theorem gs_X12_isRest : Gd vX12_isRest := Gd.cons (by decide +kernel) (Gd.app (Gd.r (by decide +kernel)) (Gd.app gwX_12 (Gd.app gs_X12_hasFirst gs_X12_hasSecond)))
theorem gg_X12_isRest_X12_hasFirst : GoodIn vX12_isRest (wsV RX12 385 RX12 yX12_hasFirst vX12_hasFirst) := goodIn_app (goodIn_r _ [2, 3, 4, 5] (by decide +kernel) (by decide +kernel)) (fun w h => ⟨List.mem_cons_of_mem _ (List.mem_append_right _ (List.mem_append_right _ (List.mem_append_left _ h))), gs_X12_hasFirst w h⟩)
theorem gg_X12_isRest_X12_hasSecond : GoodIn vX12_isRest (wsV RX12 388 RX12 yX12_hasSecond vX12_hasSecond) := goodIn_app (goodIn_r _ [6, 7, 8, 5] (by decide +kernel) (by decide +kernel)) (fun w h => ⟨List.mem_cons_of_mem _ (List.mem_append_right _ (List.mem_append_right _ (List.mem_append_right _ (h)))), gs_X12_hasSecond w h⟩)
set_option maxHeartbeats 4000000 in
set_option maxRecDepth 100000 in
theorem s_X12_isRest (l : Launch) (D : va_G) (cs : Nat → ClassId) (ad : Nat → Nat) (kS : kSt) (K : sK) (hKO : KO K) (hj : wJ ad 218) (g : Nat → va_E) (hW : WF (shp ad K) ad cs g) (ea : Int32) (eb : Int32) (hp0 : 0 ≤ ea.toInt ∧ ea.toInt ≤ 4) (hp1 : 0 ≤ eb.toInt ∧ eb.toInt ≤ 4) : sI l yX12_isRest vX12_isRest { frames := 4, cells := 0, slots := 0, locals := 92 } D cs ad kS [.ref (ad 197), .int ea, .int eb] g (fun r g2 => g2 = g ∧ (0 ≤ r.toInt ∧ r.toInt ≤ 1)) := by
  refine Met.startS (cc := cX12_isRest) (maxL := 4) (ret := (some .boolean)) RX12 rfl (by decide) rfl (Nat.le_of_ble_eq_true rfl) ?_
  intro p e s m below meth c ls X Z hP hl
  have hx := X.1
  have hb := X.2.1
  have hS : va_S (wA ad 218) s.heap s.heap [] := va_S.rf
  have hA : ∀ i, i < 218 → wA ad 218 (ad i) := fun i h => ⟨i, h, rfl⟩
  have hl : lv_has ls 4 [(0, .ref (ad 197)), (1, .int ea), (2, .int eb)] := hl
  refine lv_iconst (v := 0) hx hb dX12_isRest_0 (by decide) ?_
  refine lv_istore_n (lv' := [(3, .int 0), (0, .ref (ad 197)), (1, .int ea), (2, .int eb)]) hx hb dX12_isRest_1 rfl hl (by decide) rfl (fun ls hl => ?_)
  have HL2 : ∀ (n2 : Nat) (v2_3 : Int32) (H : Heap) (locs : List Loc) (ls : Array Slot), (5 - v2_3.toInt).toNat < n2 → (0 ≤ v2_3.toInt ∧ v2_3.toInt ≤ 5) → va_P D vwCl (wL ad g 218) H → va_S (wA ad 218) s.heap H locs → lv_has ls 4 [(3, .int v2_3), (0, .ref (ad 197)), (1, .int ea), (2, .int eb)] → W p l e ({ frames := 4, cells := 0, slots := 0, locals := 92 } : Room) s m ([.ref (ad 197), .int ea, .int eb] : List Value).toArray below meth c H locs 0 0 (MQ below (qI D ad 218 (fun r g2 => g2 = g ∧ (0 ≤ r.toInt ∧ r.toInt ≤ 1))) ([.ref (ad 197), .int ea, .int eb] : List Value).toArray s 0 0 (wA ad 218)) (F0 m 2 ls []) := by
    intro n2
    induction n2 with
    | zero =>
      intro v2_3 H locs ls hm2 hv2_0 hP hS hl
      exact absurd hm2 (Nat.not_lt_zero _)
    | succ n2 ih2 =>
      intro v2_3 H locs ls hm2 hv2_0 hP hS hl
      refine lv_iload_n hx hb dX12_isRest_2 rfl (lv_at hl 0 rfl) ?_
      refine lv_aload_n hx hb dX12_isRest_3 rfl (lv_at hl 1 rfl) ?_
      obtain ⟨fsc_1, hgc_1, hOc_1⟩ := hW.obj (i := 197) (by decide) (sh_197 ad K)
      have hk_2 := hOc_1.ref 1 rfl
      refine q_get X iX12_isRest_12 hP (by decide) hgc_1 rfl 1 (by decide) (List.mem_of_getElem? (i := 1) rfl) (v := .ref (ad 198)) hk_2 dX12_isRest_4 ?_
      refine lv_iconst (v := 4) hx hb dX12_isRest_7 (by decide) ?_
      obtain ⟨fc_3, hgc_3, hFc_3⟩ := hW.arr (i := 198) (by decide) (sh_198 ad K)
      refine q_iald X hP (by decide) hgc_3 (by unfold vp_in; decide) dX12_isRest_8 ?_
      refine lv_topi (fun z_4 ez_4 => ?_)
      have hqz_4 : wq (4) z_4.toInt := ez_4 ▸ hFc_3 _
      have hz_4 : 0 ≤ z_4.toInt ∧ z_4.toInt ≤ 5 := by unfold wq at hqz_4; omega
      clear hqz_4
      refine lv_icmp_ge (tgt := 50) hx hb dX12_isRest_9 (by decide) (fun hc_5 => ?_) (fun hc_5 => ?_)
      · have hhc_5 := n_le (rfl : z_4.toInt = z_4.toInt) (rfl : v2_3.toInt = v2_3.toInt) hc_5
        refine lv_iconst (v := 1) hx hb dX12_isRest_50 (by decide) ?_
        have hr0 : (1 : Int32).toInt = 1 := by decide
        exact q_zret X hP hS rfl ⟨rfl, (by omega)⟩ dX12_isRest_51
      · have hhc_5 := n_nle (rfl : z_4.toInt = z_4.toInt) (rfl : v2_3.toInt = v2_3.toInt) hc_5
        refine lv_aload_n hx hb dX12_isRest_12 rfl (lv_at hl 1 rfl) ?_
        refine lv_iload_n hx hb dX12_isRest_13 rfl (lv_at hl 0 rfl) ?_
        refine lv_iload_n hx hb dX12_isRest_14 rfl (lv_at hl 3 rfl) ?_
        refine s_calli (q := (RX12, TX12, 40)) (As := [.int v2_3, .int eb]) (rest := []) X Z (s_X12_hasFirst l D cs ad kS K hKO hj g hW v2_3 eb (by omega) (by omega)) (cwV 2 X.2.2.2.2.1 gg_X12_isRest_X12_hasFirst rfl rfl rfl (by decide +kernel) ⟨Nat.le_of_ble_eq_true rfl, Nat.le_of_ble_eq_true rfl⟩) (by decide) hgc_1 rfl hP hA hS.2.1 hS rfl hl.1 rfl (Nat.le_of_ble_eq_true rfl) dX12_isRest_15 ⟨Nat.le_of_ble_eq_true rfl, Nat.le_of_ble_eq_true rfl⟩ (fun r_8 g_7 H locs hw_6 hP hS => ?_)
        rw [hw_6] at hP
        refine lv_aload_n hx hb dX12_isRest_18 rfl (lv_at hl 1 rfl) ?_
        refine lv_iload_n hx hb dX12_isRest_19 rfl (lv_at hl 2 rfl) ?_
        refine lv_iload_n hx hb dX12_isRest_20 rfl (lv_at hl 3 rfl) ?_
        refine s_calli (q := (RX12, TX12, 40)) (As := [.int ea, .int eb]) (rest := [.int r_8]) X Z (s_X12_hasFirst l D cs ad kS K hKO hj g hW ea eb (by omega) (by omega)) (cwV 2 X.2.2.2.2.1 gg_X12_isRest_X12_hasFirst rfl rfl rfl (by decide +kernel) ⟨Nat.le_of_ble_eq_true rfl, Nat.le_of_ble_eq_true rfl⟩) (by decide) hgc_1 rfl hP hA hS.2.1 hS rfl hl.1 rfl (Nat.le_of_ble_eq_true rfl) dX12_isRest_21 ⟨Nat.le_of_ble_eq_true rfl, Nat.le_of_ble_eq_true rfl⟩ (fun r_11 g_10 H locs hw_9 hP hS => ?_)
        rw [hw_9] at hP
        have HJ42 : ∀ (H : Heap) (locs : List Loc) (ls : Array Slot), va_P D vwCl (wL ad g 218) H → va_S (wA ad 218) s.heap H locs → lv_has ls 4 [] → W p l e ({ frames := 4, cells := 0, slots := 0, locals := 92 } : Room) s m ([.ref (ad 197), .int ea, .int eb] : List Value).toArray below meth c H locs 0 0 (MQ below (qI D ad 218 (fun r g2 => g2 = g ∧ (0 ≤ r.toInt ∧ r.toInt ≤ 1))) ([.ref (ad 197), .int ea, .int eb] : List Value).toArray s 0 0 (wA ad 218)) (F0 m 42 ls []) := by
          intro H locs ls hP hS hl
          refine lv_iconst (v := 0) hx hb dX12_isRest_42 (by decide) ?_
          have hr0 : (0 : Int32).toInt = 0 := by decide
          exact q_zret X hP hS rfl ⟨rfl, (by omega)⟩ dX12_isRest_43
        refine lv_icmp_gt (tgt := 42) hx hb dX12_isRest_24 (by decide) (fun hc_12 => ?_) (fun hc_12 => ?_)
        · have hhc_12 := n_lt (rfl : r_11.toInt = r_11.toInt) (rfl : r_8.toInt = r_8.toInt) hc_12
          have := n_hi r_11
          have := n_lo r_11
          have := n_hi r_8
          have := n_lo r_8
          exact HJ42 _ _ ls hP hS (lv_sub hl [] rfl)
        · have hhc_12 := n_nlt (rfl : r_11.toInt = r_11.toInt) (rfl : r_8.toInt = r_8.toInt) hc_12
          have := n_hi r_11
          have := n_lo r_11
          have := n_hi r_8
          have := n_lo r_8
          refine lv_aload_n hx hb dX12_isRest_27 rfl (lv_at hl 1 rfl) ?_
          refine lv_iload_n hx hb dX12_isRest_28 rfl (lv_at hl 2 rfl) ?_
          refine lv_iload_n hx hb dX12_isRest_29 rfl (lv_at hl 0 rfl) ?_
          refine s_calli (q := (RX12, TX12, 40)) (As := [.int ea, .int v2_3]) (rest := []) X Z (s_X12_hasSecond l D cs ad kS K hKO hj g hW ea v2_3 (by omega) (by omega)) (cwV 2 X.2.2.2.2.1 gg_X12_isRest_X12_hasSecond rfl rfl rfl (by decide +kernel) ⟨Nat.le_of_ble_eq_true rfl, Nat.le_of_ble_eq_true rfl⟩) (by decide) hgc_1 rfl hP hA hS.2.1 hS rfl hl.1 rfl (Nat.le_of_ble_eq_true rfl) dX12_isRest_30 ⟨Nat.le_of_ble_eq_true rfl, Nat.le_of_ble_eq_true rfl⟩ (fun r_15 g_14 H locs hw_13 hP hS => ?_)
          rw [hw_13] at hP
          refine lv_aload_n hx hb dX12_isRest_33 rfl (lv_at hl 1 rfl) ?_
          refine lv_iload_n hx hb dX12_isRest_34 rfl (lv_at hl 2 rfl) ?_
          refine lv_iload_n hx hb dX12_isRest_35 rfl (lv_at hl 3 rfl) ?_
          refine s_calli (q := (RX12, TX12, 40)) (As := [.int ea, .int eb]) (rest := [.int r_15]) X Z (s_X12_hasSecond l D cs ad kS K hKO hj g hW ea eb (by omega) (by omega)) (cwV 2 X.2.2.2.2.1 gg_X12_isRest_X12_hasSecond rfl rfl rfl (by decide +kernel) ⟨Nat.le_of_ble_eq_true rfl, Nat.le_of_ble_eq_true rfl⟩) (by decide) hgc_1 rfl hP hA hS.2.1 hS rfl hl.1 rfl (Nat.le_of_ble_eq_true rfl) dX12_isRest_36 ⟨Nat.le_of_ble_eq_true rfl, Nat.le_of_ble_eq_true rfl⟩ (fun r_18 g_17 H locs hw_16 hP hS => ?_)
          rw [hw_16] at hP
          refine lv_icmp_le (tgt := 44) hx hb dX12_isRest_39 (by decide) (fun hc_19 => ?_) (fun hc_19 => ?_)
          · have hhc_19 := n_le (rfl : r_15.toInt = r_15.toInt) (rfl : r_18.toInt = r_18.toInt) hc_19
            have := n_hi r_18
            have := n_lo r_18
            have := n_hi r_15
            have := n_lo r_15
            obtain ⟨x_20, ex_20⟩ : ∃ y : Int32, y = v2_3 + 1 := ⟨_, rfl⟩
            have hx_20 : x_20.toInt = v2_3.toInt + 1 := n_add rfl (by decide : (1 : Int32).toInt = 1) ex_20 (by omega) (by omega)
            refine lv_iinc (v := x_20) (lv' := [(3, .int x_20), (0, .ref (ad 197)), (1, .int ea), (2, .int eb)]) hx hb dX12_isRest_44 hl (k := 0) rfl (by rw [ex_20]; rfl) (by decide) rfl (fun ls hl => ?_)
            refine lv_goto (tgt := 2) hx hb dX12_isRest_47 (by decide) ?_
            exact ih2 x_20 _ _ ls (by omega) (by omega) hP hS (lv_sub hl [0, 1, 2, 3] rfl)
          · have hhc_19 := n_nle (rfl : r_15.toInt = r_15.toInt) (rfl : r_18.toInt = r_18.toInt) hc_19
            have := n_hi r_18
            have := n_lo r_18
            have := n_hi r_15
            have := n_lo r_15
            exact HJ42 _ _ ls hP hS (lv_sub hl [] rfl)
  have hiv2_3 : (0 : Int32).toInt = 0 := by decide
  exact HL2 _ 0 _ _ ls (Nat.lt_succ_self _) (by omega) hP hS (lv_sub hl [0, 1, 2, 3] rfl)

theorem dX12_layRests_0 : decode cX12_layRests 0 = .ok (.aload_n 0, 1) := by decide +kernel
theorem dX12_layRests_1 : decode cX12_layRests 1 = .ok (.invokevirtual 246, 3) := by decide +kernel
theorem dX12_layRests_4 : decode cX12_layRests 4 = .ok (.aload_n 0, 1) := by decide +kernel
theorem dX12_layRests_5 : decode cX12_layRests 5 = .ok (.iconst (-1), 1) := by decide +kernel
theorem dX12_layRests_6 : decode cX12_layRests 6 = .ok (.putfield 391, 3) := by decide +kernel
theorem dX12_layRests_9 : decode cX12_layRests 9 = .ok (.iconst 0, 1) := by decide +kernel
theorem dX12_layRests_10 : decode cX12_layRests 10 = .ok (.istore_n 1, 1) := by decide +kernel
theorem dX12_layRests_11 : decode cX12_layRests 11 = .ok (.aload_n 0, 1) := by decide +kernel
theorem dX12_layRests_12 : decode cX12_layRests 12 = .ok (.getfield 9, 3) := by decide +kernel
theorem dX12_layRests_15 : decode cX12_layRests 15 = .ok (.iconst 4, 1) := by decide +kernel
theorem dX12_layRests_16 : decode cX12_layRests 16 = .ok (.iaload, 1) := by decide +kernel
theorem dX12_layRests_17 : decode cX12_layRests 17 = .ok (.iconst 1, 1) := by decide +kernel
theorem dX12_layRests_18 : decode cX12_layRests 18 = .ok (.isub, 1) := by decide +kernel
theorem dX12_layRests_19 : decode cX12_layRests 19 = .ok (.istore_n 2, 1) := by decide +kernel
theorem dX12_layRests_20 : decode cX12_layRests 20 = .ok (.iload_n 2, 1) := by decide +kernel
theorem dX12_layRests_21 : decode cX12_layRests 21 = .ok (.ifCond .lt 53, 3) := by decide +kernel
theorem dX12_layRests_24 : decode cX12_layRests 24 = .ok (.aload_n 0, 1) := by decide +kernel
theorem dX12_layRests_25 : decode cX12_layRests 25 = .ok (.getfield 9, 3) := by decide +kernel
theorem dX12_layRests_28 : decode cX12_layRests 28 = .ok (.iconst 4, 1) := by decide +kernel
theorem dX12_layRests_29 : decode cX12_layRests 29 = .ok (.iaload, 1) := by decide +kernel
theorem dX12_layRests_30 : decode cX12_layRests 30 = .ok (.iconst 1, 1) := by decide +kernel
theorem dX12_layRests_31 : decode cX12_layRests 31 = .ok (.isub, 1) := by decide +kernel
theorem dX12_layRests_32 : decode cX12_layRests 32 = .ok (.istore_n 3, 1) := by decide +kernel
theorem dX12_layRests_33 : decode cX12_layRests 33 = .ok (.iload_n 3, 1) := by decide +kernel
theorem dX12_layRests_34 : decode cX12_layRests 34 = .ok (.ifCond .lt 34, 3) := by decide +kernel
theorem dX12_layRests_37 : decode cX12_layRests 37 = .ok (.aload_n 0, 1) := by decide +kernel
theorem dX12_layRests_38 : decode cX12_layRests 38 = .ok (.iload_n 2, 1) := by decide +kernel
theorem dX12_layRests_39 : decode cX12_layRests 39 = .ok (.iload_n 3, 1) := by decide +kernel
theorem dX12_layRests_40 : decode cX12_layRests 40 = .ok (.invokevirtual 394, 3) := by decide +kernel
theorem dX12_layRests_43 : decode cX12_layRests 43 = .ok (.ifCond .ne 6, 3) := by decide +kernel
theorem dX12_layRests_46 : decode cX12_layRests 46 = .ok (.goto 16, 3) := by decide +kernel
theorem dX12_layRests_49 : decode cX12_layRests 49 = .ok (.aload_n 0, 1) := by decide +kernel
theorem dX12_layRests_50 : decode cX12_layRests 50 = .ok (.bipush 10, 2) := by decide +kernel
theorem dX12_layRests_52 : decode cX12_layRests 52 = .ok (.iload_n 2, 1) := by decide +kernel
theorem dX12_layRests_53 : decode cX12_layRests 53 = .ok (.imul, 1) := by decide +kernel
theorem dX12_layRests_54 : decode cX12_layRests 54 = .ok (.iload_n 3, 1) := by decide +kernel
theorem dX12_layRests_55 : decode cX12_layRests 55 = .ok (.iadd, 1) := by decide +kernel
theorem dX12_layRests_56 : decode cX12_layRests 56 = .ok (.putfield 391, 3) := by decide +kernel
theorem dX12_layRests_59 : decode cX12_layRests 59 = .ok (.iinc 1 1, 3) := by decide +kernel
theorem dX12_layRests_62 : decode cX12_layRests 62 = .ok (.iinc 3 (-1), 3) := by decide +kernel
theorem dX12_layRests_65 : decode cX12_layRests 65 = .ok (.goto (-32), 3) := by decide +kernel
theorem dX12_layRests_68 : decode cX12_layRests 68 = .ok (.iinc 2 (-1), 3) := by decide +kernel
theorem dX12_layRests_71 : decode cX12_layRests 71 = .ok (.goto (-51), 3) := by decide +kernel
theorem dX12_layRests_74 : decode cX12_layRests 74 = .ok (.iload_n 1, 1) := by decide +kernel
theorem dX12_layRests_75 : decode cX12_layRests 75 = .ok (.ireturn, 1) := by decide +kernel
noncomputable def vX12_layRests : List Cond := .code yX12_layRests cX12_layRests 4 (some .int) :: (([.methodLink RX12 246 yX12_layAll, .instanceMethod yX12_layAll, .selects RX12 yX12_layAll yX12_layAll, .initialized RX12, .fieldLink RX12 391 "IcicleClockModel" "restFirst" "I", .fieldLink RX12 9 "IcicleClockModel" "world" "[I", .methodLink RX12 394 yX12_isRest, .instanceMethod yX12_isRest, .selects RX12 yX12_isRest yX12_isRest] : List Cond) ++ (wsX120 ++ (vX12_layAll ++ vX12_isRest)))
theorem iX12_layRests_12 : ∀ w ∈ wsX120, w ∈ vX12_layRests := fun _ h => List.mem_cons_of_mem _ (List.mem_append_right _ (List.mem_append_left _ h))
theorem gs_X12_layRests : Gd vX12_layRests := Gd.cons (by decide +kernel) (Gd.app (Gd.r (by decide +kernel)) (Gd.app gwX_12 (Gd.app gs_X12_layAll gs_X12_isRest)))
theorem gg_X12_layRests_X12_layAll : GoodIn vX12_layRests (wsV RX12 246 RX12 yX12_layAll vX12_layAll) := goodIn_app (goodIn_r _ [1, 2, 3, 4] (by decide +kernel) (by decide +kernel)) (fun w h => ⟨List.mem_cons_of_mem _ (List.mem_append_right _ (List.mem_append_right _ (List.mem_append_left _ h))), gs_X12_layAll w h⟩)
theorem gg_X12_layRests_X12_isRest : GoodIn vX12_layRests (wsV RX12 394 RX12 yX12_isRest vX12_isRest) := goodIn_app (goodIn_r _ [7, 8, 9, 4] (by decide +kernel) (by decide +kernel)) (fun w h => ⟨List.mem_cons_of_mem _ (List.mem_append_right _ (List.mem_append_right _ (List.mem_append_right _ (h)))), gs_X12_isRest w h⟩)
set_option maxHeartbeats 4000000 in
set_option maxRecDepth 100000 in
theorem s_X12_layRests (l : Launch) (D : va_G) (cs : Nat → ClassId) (ad : Nat → Nat) (kS : kSt) (K : sK) (hKO : KO K) (hj : wJ ad 218) (g : Nat → va_E) (hW : WF (shp ad K) ad cs g) : sI l yX12_layRests vX12_layRests { frames := 5, cells := 0, slots := 0, locals := 115 } D cs ad kS [.ref (ad 197)] g (fun r g2 => WF (shp ad K) ad cs g2 ∧ (∀ j, j ≠ 197 ∧ j ≠ 204 ∧ j ≠ 205 → g2 j = g j)) := by
  refine Met.startS (cc := cX12_layRests) (maxL := 4) (ret := (some .int)) RX12 rfl (by decide) rfl (Nat.le_of_ble_eq_true rfl) ?_
  intro p e s m below meth c ls X Z hP hl
  have hx := X.1
  have hb := X.2.1
  have hS : va_S (wA ad 218) s.heap s.heap [] := va_S.rf
  have hA : ∀ i, i < 218 → wA ad 218 (ad i) := fun i h => ⟨i, h, rfl⟩
  have hfr : ∀ j, j ≠ 197 ∧ j ≠ 204 ∧ j ≠ 205 → g j = g j := fun _ _ => rfl
  have hl : lv_has ls 4 [(0, .ref (ad 197))] := hl
  refine lv_aload_n hx hb dX12_layRests_0 rfl (lv_at hl 0 rfl) ?_
  obtain ⟨fsc_4, hgc_4, hOc_4⟩ := hW.obj (i := 197) (by decide) (sh_197 ad K)
  refine s_callv (q := (RX12, TX12, 40)) (As := []) (rest := []) X Z (s_X12_layAll l D cs ad kS K hKO hj g hW) (cwV 0 X.2.2.2.2.1 gg_X12_layRests_X12_layAll rfl rfl rfl (by decide +kernel) ⟨Nat.le_of_ble_eq_true rfl, Nat.le_of_ble_eq_true rfl⟩) (by decide) hgc_4 rfl hP hA hS.2.1 hS rfl hl.1 rfl (Nat.le_of_ble_eq_true rfl) dX12_layRests_1 ⟨Nat.le_of_ble_eq_true rfl, Nat.le_of_ble_eq_true rfl⟩ (fun g_2 H locs hw_1 hP hS => ?_)
  obtain ⟨hw_1W, hw_1f⟩ := hw_1
  have hfr_5 : ∀ j, j ≠ 197 ∧ j ≠ 204 ∧ j ≠ 205 → g_2 j = g j := fun j hj => (hw_1f j (by omega)).trans (hfr j hj)
  refine lv_aload_n hx hb dX12_layRests_4 rfl (lv_at hl 0 rfl) ?_
  refine lv_iconst (v := (-1)) hx hb dX12_layRests_5 (by decide) ?_
  obtain ⟨fsc_6, hgc_6, hOc_6⟩ := hw_1W.obj (i := 197) (by decide) (sh_197 ad K)
  refine s_put X iX12_layRests_12 tyX12 tyX12_ok nmX12 hP hj hA hS (by decide) hgc_6 rfl 34 (by decide) (List.mem_of_getElem? (i := 5) rfl) rfl (ty := .int) (v := .int (-1)) (by decide +kernel) rfl rfl dX12_layRests_6 hw_1W (sh_197 ad K) hOc_6 rfl ⟨(-1), rfl, n_lo _, n_hi _⟩ (fun fsc_7 gc_7 H locs hOc_7 hkc_7 hnc_7 hgc_7 hfc_7 hWc_7 hP hS => ?_)
  have hfr_8 : ∀ j, j ≠ 197 ∧ j ≠ 204 ∧ j ≠ 205 → gc_7 j = g j := fun j hj => (hfc_7 j (by omega)).trans (hfr_5 j hj)
  refine lv_iconst (v := 0) hx hb dX12_layRests_9 (by decide) ?_
  refine lv_istore_n (lv' := [(1, .int 0), (0, .ref (ad 197))]) hx hb dX12_layRests_10 rfl hl (by decide) rfl (fun ls hl => ?_)
  refine lv_aload_n hx hb dX12_layRests_11 rfl (lv_at hl 1 rfl) ?_
  have hk_9 := hOc_7.ref 1 rfl
  refine q_get X iX12_layRests_12 hP (by decide) hgc_7 rfl 1 (by decide) (List.mem_of_getElem? (i := 6) rfl) (v := .ref (ad 198)) hk_9 dX12_layRests_12 ?_
  refine lv_iconst (v := 4) hx hb dX12_layRests_15 (by decide) ?_
  obtain ⟨fc_10, hgc_10, hFc_10⟩ := hWc_7.arr (i := 198) (by decide) (sh_198 ad K)
  refine q_iald X hP (by decide) hgc_10 (by unfold vp_in; decide) dX12_layRests_16 ?_
  refine lv_topi (fun z_11 ez_11 => ?_)
  have hqz_11 : wq (4) z_11.toInt := ez_11 ▸ hFc_10 _
  have hz_11 : 0 ≤ z_11.toInt ∧ z_11.toInt ≤ 5 := by unfold wq at hqz_11; omega
  clear hqz_11
  refine lv_iconst (v := 1) hx hb dX12_layRests_17 (by decide) ?_
  refine lv_isub hx hb dX12_layRests_18 ?_
  refine lv_topi (fun z_12 ez_12 => ?_)
  have hz_12 : z_12.toInt = z_11.toInt - 1 := n_sub (rfl : z_11.toInt = z_11.toInt) (by decide : (1 : Int32).toInt = 1) ez_12 (by omega) (by omega)
  refine lv_istore_n (lv' := [(2, .int z_12), (1, .int 0), (0, .ref (ad 197))]) hx hb dX12_layRests_19 rfl hl (by decide) rfl (fun ls hl => ?_)
  have HL20 : ∀ (n20 : Nat) (v20_2 : Int32) (v20_1 : Int32) (G20 : Nat → va_E) (H : Heap) (locs : List Loc) (ls : Array Slot), (v20_2.toInt - (-1)).toNat < n20 → ((-1) ≤ v20_2.toInt ∧ v20_2.toInt ≤ 4) → WF (shp ad K) ad cs G20 → (∀ j, j ≠ 197 ∧ j ≠ 204 ∧ j ≠ 205 → G20 j = g j) → va_P D vwCl (wL ad G20 218) H → va_S (wA ad 218) s.heap H locs → lv_has ls 4 [(2, .int v20_2), (1, .int v20_1), (0, .ref (ad 197))] → W p l e ({ frames := 5, cells := 0, slots := 0, locals := 115 } : Room) s m ([.ref (ad 197)] : List Value).toArray below meth c H locs 0 0 (MQ below (qI D ad 218 (fun r g2 => WF (shp ad K) ad cs g2 ∧ (∀ j, j ≠ 197 ∧ j ≠ 204 ∧ j ≠ 205 → g2 j = g j))) ([.ref (ad 197)] : List Value).toArray s 0 0 (wA ad 218)) (F0 m 20 ls []) := by
    intro n20
    induction n20 with
    | zero =>
      intro v20_2 v20_1 G20 H locs ls hm20 hv20_0 hW20 hfr20 hP hS hl
      exact absurd hm20 (Nat.not_lt_zero _)
    | succ n20 ih20 =>
      intro v20_2 v20_1 G20 H locs ls hm20 hv20_0 hW20 hfr20 hP hS hl
      refine lv_iload_n hx hb dX12_layRests_20 rfl (lv_at hl 0 rfl) ?_
      refine lv_if_lt (tgt := 74) hx hb dX12_layRests_21 (by decide) (fun hc_13 => ?_) (fun hc_13 => ?_)
      · have hhc_13 := n_lt (rfl : v20_2.toInt = v20_2.toInt) (by decide : (0 : Int32).toInt = 0) hc_13
        refine lv_iload_n hx hb dX12_layRests_74 rfl (lv_at hl 1 rfl) ?_
        exact q_iret X hP hS ⟨hW20, hfr20⟩ dX12_layRests_75
      · have hhc_13 := n_nlt (rfl : v20_2.toInt = v20_2.toInt) (by decide : (0 : Int32).toInt = 0) hc_13
        refine lv_aload_n hx hb dX12_layRests_24 rfl (lv_at hl 2 rfl) ?_
        obtain ⟨fsc_14, hgc_14, hOc_14⟩ := hW20.obj (i := 197) (by decide) (sh_197 ad K)
        have hk_15 := hOc_14.ref 1 rfl
        refine q_get X iX12_layRests_12 hP (by decide) hgc_14 rfl 1 (by decide) (List.mem_of_getElem? (i := 6) rfl) (v := .ref (ad 198)) hk_15 dX12_layRests_25 ?_
        refine lv_iconst (v := 4) hx hb dX12_layRests_28 (by decide) ?_
        obtain ⟨fc_16, hgc_16, hFc_16⟩ := hW20.arr (i := 198) (by decide) (sh_198 ad K)
        refine q_iald X hP (by decide) hgc_16 (by unfold vp_in; decide) dX12_layRests_29 ?_
        refine lv_topi (fun z_17 ez_17 => ?_)
        have hqz_17 : wq (4) z_17.toInt := ez_17 ▸ hFc_16 _
        have hz_17 : 0 ≤ z_17.toInt ∧ z_17.toInt ≤ 5 := by unfold wq at hqz_17; omega
        clear hqz_17
        refine lv_iconst (v := 1) hx hb dX12_layRests_30 (by decide) ?_
        refine lv_isub hx hb dX12_layRests_31 ?_
        refine lv_topi (fun z_18 ez_18 => ?_)
        have hz_18 : z_18.toInt = z_17.toInt - 1 := n_sub (rfl : z_17.toInt = z_17.toInt) (by decide : (1 : Int32).toInt = 1) ez_18 (by omega) (by omega)
        refine lv_istore_n (lv' := [(3, .int z_18), (2, .int v20_2), (1, .int v20_1), (0, .ref (ad 197))]) hx hb dX12_layRests_32 rfl hl (by decide) rfl (fun ls hl => ?_)
        have HL33 : ∀ (n33 : Nat) (v33_3 : Int32) (v33_1 : Int32) (G33 : Nat → va_E) (H : Heap) (locs : List Loc) (ls : Array Slot), (v33_3.toInt - (-1)).toNat < n33 → ((-1) ≤ v33_3.toInt ∧ v33_3.toInt ≤ 4) → WF (shp ad K) ad cs G33 → (∀ j, j ≠ 197 ∧ j ≠ 204 ∧ j ≠ 205 → G33 j = g j) → va_P D vwCl (wL ad G33 218) H → va_S (wA ad 218) s.heap H locs → lv_has ls 4 [(3, .int v33_3), (2, .int v20_2), (1, .int v33_1), (0, .ref (ad 197))] → W p l e ({ frames := 5, cells := 0, slots := 0, locals := 115 } : Room) s m ([.ref (ad 197)] : List Value).toArray below meth c H locs 0 0 (MQ below (qI D ad 218 (fun r g2 => WF (shp ad K) ad cs g2 ∧ (∀ j, j ≠ 197 ∧ j ≠ 204 ∧ j ≠ 205 → g2 j = g j))) ([.ref (ad 197)] : List Value).toArray s 0 0 (wA ad 218)) (F0 m 33 ls []) := by
          intro n33
          induction n33 with
          | zero =>
            intro v33_3 v33_1 G33 H locs ls hm33 hv33_0 hW33 hfr33 hP hS hl
            exact absurd hm33 (Nat.not_lt_zero _)
          | succ n33 ih33 =>
            intro v33_3 v33_1 G33 H locs ls hm33 hv33_0 hW33 hfr33 hP hS hl
            refine lv_iload_n hx hb dX12_layRests_33 rfl (lv_at hl 0 rfl) ?_
            refine lv_if_lt (tgt := 68) hx hb dX12_layRests_34 (by decide) (fun hc_19 => ?_) (fun hc_19 => ?_)
            · have hhc_19 := n_lt (rfl : v33_3.toInt = v33_3.toInt) (by decide : (0 : Int32).toInt = 0) hc_19
              obtain ⟨x_20, ex_20⟩ : ∃ y : Int32, y = v20_2 + (-1) := ⟨_, rfl⟩
              have hx_20 : x_20.toInt = v20_2.toInt + (-1) := n_add rfl (by decide : (-1 : Int32).toInt = -1) ex_20 (by omega) (by omega)
              refine lv_iinc (v := x_20) (lv' := [(2, .int x_20), (3, .int v33_3), (1, .int v33_1), (0, .ref (ad 197))]) hx hb dX12_layRests_68 hl (k := 1) rfl (by rw [ex_20]; rfl) (by decide) rfl (fun ls hl => ?_)
              refine lv_goto (tgt := 20) hx hb dX12_layRests_71 (by decide) ?_
              exact ih20 x_20 v33_1 G33 _ _ ls (by omega) (by omega) hW33 hfr33 hP hS (lv_sub hl [0, 2, 3] rfl)
            · have hhc_19 := n_nlt (rfl : v33_3.toInt = v33_3.toInt) (by decide : (0 : Int32).toInt = 0) hc_19
              refine lv_aload_n hx hb dX12_layRests_37 rfl (lv_at hl 3 rfl) ?_
              refine lv_iload_n hx hb dX12_layRests_38 rfl (lv_at hl 1 rfl) ?_
              refine lv_iload_n hx hb dX12_layRests_39 rfl (lv_at hl 0 rfl) ?_
              obtain ⟨fsc_24, hgc_24, hOc_24⟩ := hW33.obj (i := 197) (by decide) (sh_197 ad K)
              refine s_calli (q := (RX12, TX12, 40)) (As := [.int v20_2, .int v33_3]) (rest := []) X Z (s_X12_isRest l D cs ad kS K hKO hj G33 hW33 v20_2 v33_3 (by omega) (by omega)) (cwV 2 X.2.2.2.2.1 gg_X12_layRests_X12_isRest rfl rfl rfl (by decide +kernel) ⟨Nat.le_of_ble_eq_true rfl, Nat.le_of_ble_eq_true rfl⟩) (by decide) hgc_24 rfl hP hA hS.2.1 hS rfl hl.1 rfl (Nat.le_of_ble_eq_true rfl) dX12_layRests_40 ⟨Nat.le_of_ble_eq_true rfl, Nat.le_of_ble_eq_true rfl⟩ (fun r_23 g_22 H locs hw_21 hP hS => ?_)
              obtain ⟨hw_21g, hw_21⟩ := hw_21
              rw [hw_21g] at hP
              have HJ62 : ∀ (v62_1 : Int32) (G62 : Nat → va_E) (H : Heap) (locs : List Loc) (ls : Array Slot), WF (shp ad K) ad cs G62 → (∀ j, j ≠ 197 ∧ j ≠ 204 ∧ j ≠ 205 → G62 j = g j) → va_P D vwCl (wL ad G62 218) H → va_S (wA ad 218) s.heap H locs → lv_has ls 4 [(3, .int v33_3), (2, .int v20_2), (1, .int v62_1), (0, .ref (ad 197))] → W p l e ({ frames := 5, cells := 0, slots := 0, locals := 115 } : Room) s m ([.ref (ad 197)] : List Value).toArray below meth c H locs 0 0 (MQ below (qI D ad 218 (fun r g2 => WF (shp ad K) ad cs g2 ∧ (∀ j, j ≠ 197 ∧ j ≠ 204 ∧ j ≠ 205 → g2 j = g j))) ([.ref (ad 197)] : List Value).toArray s 0 0 (wA ad 218)) (F0 m 62 ls []) := by
                intro v62_1 G62 H locs ls hW62 hfr62 hP hS hl
                obtain ⟨x_25, ex_25⟩ : ∃ y : Int32, y = v33_3 + (-1) := ⟨_, rfl⟩
                have hx_25 : x_25.toInt = v33_3.toInt + (-1) := n_add rfl (by decide : (-1 : Int32).toInt = -1) ex_25 (by omega) (by omega)
                refine lv_iinc (v := x_25) (lv' := [(3, .int x_25), (2, .int v20_2), (1, .int v62_1), (0, .ref (ad 197))]) hx hb dX12_layRests_62 hl (k := 0) rfl (by rw [ex_25]; rfl) (by decide) rfl (fun ls hl => ?_)
                refine lv_goto (tgt := 33) hx hb dX12_layRests_65 (by decide) ?_
                exact ih33 x_25 v62_1 G62 _ _ ls (by omega) (by omega) hW62 hfr62 hP hS (lv_sub hl [0, 1, 2, 3] rfl)
              refine lv_if_ne (tgt := 49) hx hb dX12_layRests_43 (by decide) (fun hc_26 => ?_) (fun hc_26 => ?_)
              · have hhc_26 := n_ne (rfl : r_23.toInt = r_23.toInt) (by decide : (0 : Int32).toInt = 0) hc_26
                refine lv_aload_n hx hb dX12_layRests_49 rfl (lv_at hl 3 rfl) ?_
                refine lv_bipush (v := 10) hx hb dX12_layRests_50 (by decide) ?_
                refine lv_iload_n hx hb dX12_layRests_52 rfl (lv_at hl 1 rfl) ?_
                refine lv_imul hx hb dX12_layRests_53 ?_
                refine lv_topi (fun z_27 ez_27 => ?_)
                have hz_27 : z_27.toInt = 10 * v20_2.toInt := n_mul (by decide : (10 : Int32).toInt = 10) (rfl : v20_2.toInt = v20_2.toInt) ez_27 (by omega) (by omega)
                refine lv_iload_n hx hb dX12_layRests_54 rfl (lv_at hl 0 rfl) ?_
                refine lv_iadd hx hb dX12_layRests_55 ?_
                refine lv_topi (fun z_28 ez_28 => ?_)
                have hz_28 : z_28.toInt = z_27.toInt + v33_3.toInt := n_add (rfl : z_27.toInt = z_27.toInt) (rfl : v33_3.toInt = v33_3.toInt) ez_28 (by omega) (by omega)
                refine s_put X iX12_layRests_12 tyX12 tyX12_ok nmX12 hP hj hA hS (by decide) hgc_24 rfl 34 (by decide) (List.mem_of_getElem? (i := 5) rfl) rfl (ty := .int) (v := .int z_28) (by decide +kernel) rfl rfl dX12_layRests_56 hW33 (sh_197 ad K) hOc_24 rfl ⟨z_28, rfl, n_lo _, n_hi _⟩ (fun fsc_29 gc_29 H locs hOc_29 hkc_29 hnc_29 hgc_29 hfc_29 hWc_29 hP hS => ?_)
                have hfr_30 : ∀ j, j ≠ 197 ∧ j ≠ 204 ∧ j ≠ 205 → gc_29 j = g j := fun j hj => (hfc_29 j (by omega)).trans (hfr33 j hj)
                obtain ⟨x_31, ex_31⟩ : ∃ y : Int32, y = v33_1 + 1 := ⟨_, rfl⟩
                refine lv_iinc (v := x_31) (lv' := [(1, .int x_31), (3, .int v33_3), (2, .int v20_2), (0, .ref (ad 197))]) hx hb dX12_layRests_59 hl (k := 2) rfl (by rw [ex_31]; rfl) (by decide) rfl (fun ls hl => ?_)
                exact HJ62 x_31 gc_29 _ _ ls hWc_29 hfr_30 hP hS (lv_sub hl [1, 2, 0, 3] rfl)
              · have hhc_26 := n_eq (rfl : r_23.toInt = r_23.toInt) (by decide : (0 : Int32).toInt = 0) hc_26
                refine lv_goto (tgt := 62) hx hb dX12_layRests_46 (by decide) ?_
                exact HJ62 v33_1 G33 _ _ ls hW33 hfr33 hP hS (lv_sub hl [0, 1, 2, 3] rfl)
        exact HL33 _ z_18 v20_1 G20 _ _ ls (Nat.lt_succ_self _) (by omega) hW20 hfr20 hP hS (lv_sub hl [0, 1, 2, 3] rfl)
  have hiv20_1 : (0 : Int32).toInt = 0 := by decide
  exact HL20 _ z_12 0 gc_7 _ _ ls (Nat.lt_succ_self _) (by omega) hWc_7 hfr_8 hP hS (lv_sub hl [0, 1, 2] rfl)

theorem dX12_rests_0 : decode cX12_rests 0 = .ok (.aload_n 0, 1) := by decide +kernel
theorem dX12_rests_1 : decode cX12_rests 1 = .ok (.invokevirtual 261, 3) := by decide +kernel
theorem dX12_rests_4 : decode cX12_rests 4 = .ok (.ifCond .eq 10, 3) := by decide +kernel
theorem dX12_rests_7 : decode cX12_rests 7 = .ok (.aload_n 0, 1) := by decide +kernel
theorem dX12_rests_8 : decode cX12_rests 8 = .ok (.invokevirtual 397, 3) := by decide +kernel
theorem dX12_rests_11 : decode cX12_rests 11 = .ok (.goto 5, 3) := by decide +kernel
theorem dX12_rests_14 : decode cX12_rests 14 = .ok (.bipush (-2), 2) := by decide +kernel
theorem dX12_rests_16 : decode cX12_rests 16 = .ok (.ireturn, 1) := by decide +kernel
noncomputable def vX12_rests : List Cond := .code yX12_rests cX12_rests 1 (some .int) :: (([.methodLink RX12 261 yX12_isStreet, .instanceMethod yX12_isStreet, .selects RX12 yX12_isStreet yX12_isStreet, .initialized RX12, .methodLink RX12 397 yX12_layRests, .instanceMethod yX12_layRests, .selects RX12 yX12_layRests yX12_layRests] : List Cond) ++ (vX12_isStreet ++ vX12_layRests))
theorem gs_X12_rests : Gd vX12_rests := Gd.cons (by decide +kernel) (Gd.app (Gd.r (by decide +kernel)) (Gd.app gs_X12_isStreet gs_X12_layRests))
theorem gg_X12_rests_X12_isStreet : GoodIn vX12_rests (wsV RX12 261 RX12 yX12_isStreet vX12_isStreet) := goodIn_app (goodIn_r _ [1, 2, 3, 4] (by decide +kernel) (by decide +kernel)) (fun w h => ⟨List.mem_cons_of_mem _ (List.mem_append_right _ (List.mem_append_left _ h)), gs_X12_isStreet w h⟩)
theorem gg_X12_rests_X12_layRests : GoodIn vX12_rests (wsV RX12 397 RX12 yX12_layRests vX12_layRests) := goodIn_app (goodIn_r _ [5, 6, 7, 4] (by decide +kernel) (by decide +kernel)) (fun w h => ⟨List.mem_cons_of_mem _ (List.mem_append_right _ (List.mem_append_right _ (h))), gs_X12_layRests w h⟩)
set_option maxHeartbeats 4000000 in
set_option maxRecDepth 100000 in
theorem s_X12_rests (l : Launch) (D : va_G) (cs : Nat → ClassId) (ad : Nat → Nat) (kS : kSt) (K : sK) (hKO : KO K) (hj : wJ ad 218) (g : Nat → va_E) (hW : WF (shp ad K) ad cs g) : sI l yX12_rests vX12_rests { frames := 6, cells := 0, slots := 0, locals := 138 } D cs ad kS [.ref (ad 197)] g (fun r g2 => WF (shp ad K) ad cs g2 ∧ (∀ j, j ≠ 197 ∧ j ≠ 204 ∧ j ≠ 205 → g2 j = g j)) := by
  refine Met.startS (cc := cX12_rests) (maxL := 1) (ret := (some .int)) RX12 rfl (by decide) rfl (Nat.le_of_ble_eq_true rfl) ?_
  intro p e s m below meth c ls X Z hP hl
  have hx := X.1
  have hb := X.2.1
  have hS : va_S (wA ad 218) s.heap s.heap [] := va_S.rf
  have hA : ∀ i, i < 218 → wA ad 218 (ad i) := fun i h => ⟨i, h, rfl⟩
  have hfr : ∀ j, j ≠ 197 ∧ j ≠ 204 ∧ j ≠ 205 → g j = g j := fun _ _ => rfl
  have hl : lv_has ls 1 [(0, .ref (ad 197))] := hl
  refine lv_aload_n hx hb dX12_rests_0 rfl (lv_at hl 0 rfl) ?_
  obtain ⟨fsc_4, hgc_4, hOc_4⟩ := hW.obj (i := 197) (by decide) (sh_197 ad K)
  refine s_calli (q := (RX12, TX12, 40)) (As := []) (rest := []) X Z (s_X12_isStreet l D cs ad kS K hKO hj g hW) (cwV 0 X.2.2.2.2.1 gg_X12_rests_X12_isStreet rfl rfl rfl (by decide +kernel) ⟨Nat.le_of_ble_eq_true rfl, Nat.le_of_ble_eq_true rfl⟩) (by decide) hgc_4 rfl hP hA hS.2.1 hS rfl hl.1 rfl (Nat.le_of_ble_eq_true rfl) dX12_rests_1 ⟨Nat.le_of_ble_eq_true rfl, Nat.le_of_ble_eq_true rfl⟩ (fun r_3 g_2 H locs hw_1 hP hS => ?_)
  obtain ⟨hw_1g, hw_1⟩ := hw_1
  rw [hw_1g] at hP
  refine lv_if_eq (tgt := 14) hx hb dX12_rests_4 (by decide) (fun hc_5 => ?_) (fun hc_5 => ?_)
  · have hhc_5 := n_eq (rfl : r_3.toInt = r_3.toInt) (by decide : (0 : Int32).toInt = 0) hc_5
    refine lv_bipush (v := (-2)) hx hb dX12_rests_14 (by decide) ?_
    exact q_iret X hP hS ⟨hW, hfr⟩ dX12_rests_16
  · have hhc_5 := n_ne (rfl : r_3.toInt = r_3.toInt) (by decide : (0 : Int32).toInt = 0) hc_5
    refine lv_aload_n hx hb dX12_rests_7 rfl (lv_at hl 0 rfl) ?_
    refine s_calli (q := (RX12, TX12, 40)) (As := []) (rest := []) X Z (s_X12_layRests l D cs ad kS K hKO hj g hW) (cwV 0 X.2.2.2.2.1 gg_X12_rests_X12_layRests rfl rfl rfl (by decide +kernel) ⟨Nat.le_of_ble_eq_true rfl, Nat.le_of_ble_eq_true rfl⟩) (by decide) hgc_4 rfl hP hA hS.2.1 hS rfl hl.1 rfl (Nat.le_of_ble_eq_true rfl) dX12_rests_8 ⟨Nat.le_of_ble_eq_true rfl, Nat.le_of_ble_eq_true rfl⟩ (fun r_8 g_7 H locs hw_6 hP hS => ?_)
    obtain ⟨hw_6W, hw_6f⟩ := hw_6
    have hfr_9 : ∀ j, j ≠ 197 ∧ j ≠ 204 ∧ j ≠ 205 → g_7 j = g j := fun j hj => (hw_6f j (by omega)).trans (hfr j hj)
    refine lv_goto (tgt := 16) hx hb dX12_rests_11 (by decide) ?_
    exact q_iret X hP hS ⟨hw_6W, hfr_9⟩ dX12_rests_16

theorem dX12_rest_0 : decode cX12_rest 0 = .ok (.aload_n 0, 1) := by decide +kernel
theorem dX12_rest_1 : decode cX12_rest 1 = .ok (.invokevirtual 261, 3) := by decide +kernel
theorem dX12_rest_4 : decode cX12_rest 4 = .ok (.ifCond .ne 6, 3) := by decide +kernel
theorem dX12_rest_7 : decode cX12_rest 7 = .ok (.bipush (-2), 2) := by decide +kernel
theorem dX12_rest_9 : decode cX12_rest 9 = .ok (.ireturn, 1) := by decide +kernel
theorem dX12_rest_10 : decode cX12_rest 10 = .ok (.aload_n 0, 1) := by decide +kernel
theorem dX12_rest_11 : decode cX12_rest 11 = .ok (.invokevirtual 397, 3) := by decide +kernel
theorem dX12_rest_14 : decode cX12_rest 14 = .ok (.pop, 1) := by decide +kernel
theorem dX12_rest_15 : decode cX12_rest 15 = .ok (.aload_n 0, 1) := by decide +kernel
theorem dX12_rest_16 : decode cX12_rest 16 = .ok (.getfield 391, 3) := by decide +kernel
theorem dX12_rest_19 : decode cX12_rest 19 = .ok (.ireturn, 1) := by decide +kernel
noncomputable def vX12_rest : List Cond := .code yX12_rest cX12_rest 1 (some .int) :: (([.methodLink RX12 261 yX12_isStreet, .instanceMethod yX12_isStreet, .selects RX12 yX12_isStreet yX12_isStreet, .initialized RX12, .methodLink RX12 397 yX12_layRests, .instanceMethod yX12_layRests, .selects RX12 yX12_layRests yX12_layRests, .fieldLink RX12 391 "IcicleClockModel" "restFirst" "I"] : List Cond) ++ (wsX120 ++ (vX12_isStreet ++ vX12_layRests)))
theorem iX12_rest_12 : ∀ w ∈ wsX120, w ∈ vX12_rest := fun _ h => List.mem_cons_of_mem _ (List.mem_append_right _ (List.mem_append_left _ h))
theorem gs_X12_rest : Gd vX12_rest := Gd.cons (by decide +kernel) (Gd.app (Gd.r (by decide +kernel)) (Gd.app gwX_12 (Gd.app gs_X12_isStreet gs_X12_layRests)))
theorem gg_X12_rest_X12_isStreet : GoodIn vX12_rest (wsV RX12 261 RX12 yX12_isStreet vX12_isStreet) := goodIn_app (goodIn_r _ [1, 2, 3, 4] (by decide +kernel) (by decide +kernel)) (fun w h => ⟨List.mem_cons_of_mem _ (List.mem_append_right _ (List.mem_append_right _ (List.mem_append_left _ h))), gs_X12_isStreet w h⟩)
theorem gg_X12_rest_X12_layRests : GoodIn vX12_rest (wsV RX12 397 RX12 yX12_layRests vX12_layRests) := goodIn_app (goodIn_r _ [5, 6, 7, 4] (by decide +kernel) (by decide +kernel)) (fun w h => ⟨List.mem_cons_of_mem _ (List.mem_append_right _ (List.mem_append_right _ (List.mem_append_right _ (h)))), gs_X12_layRests w h⟩)
set_option maxHeartbeats 4000000 in
set_option maxRecDepth 100000 in
theorem s_X12_rest (l : Launch) (D : va_G) (cs : Nat → ClassId) (ad : Nat → Nat) (kS : kSt) (K : sK) (hKO : KO K) (hj : wJ ad 218) (g : Nat → va_E) (hW : WF (shp ad K) ad cs g) : sI l yX12_rest vX12_rest { frames := 6, cells := 0, slots := 0, locals := 138 } D cs ad kS [.ref (ad 197)] g (fun r g2 => WF (shp ad K) ad cs g2 ∧ (∀ j, j ≠ 197 ∧ j ≠ 204 ∧ j ≠ 205 → g2 j = g j)) := by
  refine Met.startS (cc := cX12_rest) (maxL := 1) (ret := (some .int)) RX12 rfl (by decide) rfl (Nat.le_of_ble_eq_true rfl) ?_
  intro p e s m below meth c ls X Z hP hl
  have hx := X.1
  have hb := X.2.1
  have hS : va_S (wA ad 218) s.heap s.heap [] := va_S.rf
  have hA : ∀ i, i < 218 → wA ad 218 (ad i) := fun i h => ⟨i, h, rfl⟩
  have hfr : ∀ j, j ≠ 197 ∧ j ≠ 204 ∧ j ≠ 205 → g j = g j := fun _ _ => rfl
  have hl : lv_has ls 1 [(0, .ref (ad 197))] := hl
  refine lv_aload_n hx hb dX12_rest_0 rfl (lv_at hl 0 rfl) ?_
  obtain ⟨fsc_4, hgc_4, hOc_4⟩ := hW.obj (i := 197) (by decide) (sh_197 ad K)
  refine s_calli (q := (RX12, TX12, 40)) (As := []) (rest := []) X Z (s_X12_isStreet l D cs ad kS K hKO hj g hW) (cwV 0 X.2.2.2.2.1 gg_X12_rest_X12_isStreet rfl rfl rfl (by decide +kernel) ⟨Nat.le_of_ble_eq_true rfl, Nat.le_of_ble_eq_true rfl⟩) (by decide) hgc_4 rfl hP hA hS.2.1 hS rfl hl.1 rfl (Nat.le_of_ble_eq_true rfl) dX12_rest_1 ⟨Nat.le_of_ble_eq_true rfl, Nat.le_of_ble_eq_true rfl⟩ (fun r_3 g_2 H locs hw_1 hP hS => ?_)
  obtain ⟨hw_1g, hw_1⟩ := hw_1
  rw [hw_1g] at hP
  refine lv_if_ne (tgt := 10) hx hb dX12_rest_4 (by decide) (fun hc_5 => ?_) (fun hc_5 => ?_)
  · have hhc_5 := n_ne (rfl : r_3.toInt = r_3.toInt) (by decide : (0 : Int32).toInt = 0) hc_5
    refine lv_aload_n hx hb dX12_rest_10 rfl (lv_at hl 0 rfl) ?_
    refine s_calli (q := (RX12, TX12, 40)) (As := []) (rest := []) X Z (s_X12_layRests l D cs ad kS K hKO hj g hW) (cwV 0 X.2.2.2.2.1 gg_X12_rest_X12_layRests rfl rfl rfl (by decide +kernel) ⟨Nat.le_of_ble_eq_true rfl, Nat.le_of_ble_eq_true rfl⟩) (by decide) hgc_4 rfl hP hA hS.2.1 hS rfl hl.1 rfl (Nat.le_of_ble_eq_true rfl) dX12_rest_11 ⟨Nat.le_of_ble_eq_true rfl, Nat.le_of_ble_eq_true rfl⟩ (fun r_8 g_7 H locs hw_6 hP hS => ?_)
    obtain ⟨hw_6W, hw_6f⟩ := hw_6
    have hfr_9 : ∀ j, j ≠ 197 ∧ j ≠ 204 ∧ j ≠ 205 → g_7 j = g j := fun j hj => (hw_6f j (by omega)).trans (hfr j hj)
    refine lv_pop hx hb dX12_rest_14 rfl ?_
    refine lv_aload_n hx hb dX12_rest_15 rfl (lv_at hl 0 rfl) ?_
    obtain ⟨fsc_10, hgc_10, hOc_10⟩ := hw_6W.obj (i := 197) (by decide) (sh_197 ad K)
    obtain ⟨x_12, hk_11, -⟩ := hOc_10.int 34 rfl
    refine q_get X iX12_rest_12 hP (by decide) hgc_10 rfl 34 (by decide) (List.mem_of_getElem? (i := 8) rfl) (v := .int x_12) hk_11 dX12_rest_16 ?_
    exact q_iret X hP hS ⟨hw_6W, hfr_9⟩ dX12_rest_19
  · have hhc_5 := n_eq (rfl : r_3.toInt = r_3.toInt) (by decide : (0 : Int32).toInt = 0) hc_5
    refine lv_bipush (v := (-2)) hx hb dX12_rest_7 (by decide) ?_
    exact q_iret X hP hS ⟨hW, hfr⟩ dX12_rest_9

theorem dX12_keepAct_0 : decode cX12_keepAct 0 = .ok (.aload_n 0, 1) := by decide +kernel
theorem dX12_keepAct_1 : decode cX12_keepAct 1 = .ok (.getfield 9, 3) := by decide +kernel
theorem dX12_keepAct_4 : decode cX12_keepAct 4 = .ok (.bipush 7, 2) := by decide +kernel
theorem dX12_keepAct_6 : decode cX12_keepAct 6 = .ok (.iaload, 1) := by decide +kernel
theorem dX12_keepAct_7 : decode cX12_keepAct 7 = .ok (.bipush 40, 2) := by decide +kernel
theorem dX12_keepAct_9 : decode cX12_keepAct 9 = .ok (.if_icmp .ne 5, 3) := by decide +kernel
theorem dX12_keepAct_12 : decode cX12_keepAct 12 = .ok (.iconst 0, 1) := by decide +kernel
theorem dX12_keepAct_13 : decode cX12_keepAct 13 = .ok (.ireturn, 1) := by decide +kernel
theorem dX12_keepAct_14 : decode cX12_keepAct 14 = .ok (.aload_n 0, 1) := by decide +kernel
theorem dX12_keepAct_15 : decode cX12_keepAct 15 = .ok (.getfield 9, 3) := by decide +kernel
theorem dX12_keepAct_18 : decode cX12_keepAct 18 = .ok (.bipush 78, 2) := by decide +kernel
theorem dX12_keepAct_20 : decode cX12_keepAct 20 = .ok (.aload_n 0, 1) := by decide +kernel
theorem dX12_keepAct_21 : decode cX12_keepAct 21 = .ok (.getfield 9, 3) := by decide +kernel
theorem dX12_keepAct_24 : decode cX12_keepAct 24 = .ok (.bipush 7, 2) := by decide +kernel
theorem dX12_keepAct_26 : decode cX12_keepAct 26 = .ok (.iaload, 1) := by decide +kernel
theorem dX12_keepAct_27 : decode cX12_keepAct 27 = .ok (.iadd, 1) := by decide +kernel
theorem dX12_keepAct_28 : decode cX12_keepAct 28 = .ok (.iload_n 1, 1) := by decide +kernel
theorem dX12_keepAct_29 : decode cX12_keepAct 29 = .ok (.iastore, 1) := by decide +kernel
theorem dX12_keepAct_30 : decode cX12_keepAct 30 = .ok (.aload_n 0, 1) := by decide +kernel
theorem dX12_keepAct_31 : decode cX12_keepAct 31 = .ok (.getfield 9, 3) := by decide +kernel
theorem dX12_keepAct_34 : decode cX12_keepAct 34 = .ok (.bipush 7, 2) := by decide +kernel
theorem dX12_keepAct_36 : decode cX12_keepAct 36 = .ok (.dup2, 1) := by decide +kernel
theorem dX12_keepAct_37 : decode cX12_keepAct 37 = .ok (.iaload, 1) := by decide +kernel
theorem dX12_keepAct_38 : decode cX12_keepAct 38 = .ok (.iconst 1, 1) := by decide +kernel
theorem dX12_keepAct_39 : decode cX12_keepAct 39 = .ok (.iadd, 1) := by decide +kernel
theorem dX12_keepAct_40 : decode cX12_keepAct 40 = .ok (.iastore, 1) := by decide +kernel
theorem dX12_keepAct_41 : decode cX12_keepAct 41 = .ok (.aload_n 0, 1) := by decide +kernel
theorem dX12_keepAct_42 : decode cX12_keepAct 42 = .ok (.invokevirtual 246, 3) := by decide +kernel
theorem dX12_keepAct_45 : decode cX12_keepAct 45 = .ok (.iconst 1, 1) := by decide +kernel
theorem dX12_keepAct_46 : decode cX12_keepAct 46 = .ok (.ireturn, 1) := by decide +kernel
noncomputable def vX12_keepAct : List Cond := .code yX12_keepAct cX12_keepAct 2 (some .boolean) :: (([.fieldLink RX12 9 "IcicleClockModel" "world" "[I", .methodLink RX12 246 yX12_layAll, .instanceMethod yX12_layAll, .selects RX12 yX12_layAll yX12_layAll, .initialized RX12] : List Cond) ++ (wsX120 ++ vX12_layAll))
theorem iX12_keepAct_12 : ∀ w ∈ wsX120, w ∈ vX12_keepAct := fun _ h => List.mem_cons_of_mem _ (List.mem_append_right _ (List.mem_append_left _ h))
theorem gs_X12_keepAct : Gd vX12_keepAct := Gd.cons (by decide +kernel) (Gd.app (Gd.r (by decide +kernel)) (Gd.app gwX_12 gs_X12_layAll))
theorem gg_X12_keepAct_X12_layAll : GoodIn vX12_keepAct (wsV RX12 246 RX12 yX12_layAll vX12_layAll) := goodIn_app (goodIn_r _ [2, 3, 4, 5] (by decide +kernel) (by decide +kernel)) (fun w h => ⟨List.mem_cons_of_mem _ (List.mem_append_right _ (List.mem_append_right _ (h))), gs_X12_layAll w h⟩)
set_option maxHeartbeats 4000000 in
set_option maxRecDepth 100000 in
theorem s_X12_keepAct (l : Launch) (D : va_G) (cs : Nat → ClassId) (ad : Nat → Nat) (kS : kSt) (K : sK) (hKO : KO K) (hj : wJ ad 218) (g : Nat → va_E) (hW : WF (shp ad K) ad cs g) (ac : Int32) (hp0 : ((0 ≤ ac.toInt ∧ ac.toInt ≤ 93 ∧ ac.toInt % 20 ≤ 13) ∨ (1000 ≤ ac.toInt ∧ ac.toInt ≤ 1013))) : sI l yX12_keepAct vX12_keepAct { frames := 3, cells := 0, slots := 0, locals := 65 } D cs ad kS [.ref (ad 197), .int ac] g (fun r g2 => WF (shp ad K) ad cs g2 ∧ (∀ j, j ≠ 198 ∧ j ≠ 197 ∧ j ≠ 204 ∧ j ≠ 205 → g2 j = g j) ∧ (0 ≤ r.toInt ∧ r.toInt ≤ 1)) := by
  refine Met.startS (cc := cX12_keepAct) (maxL := 2) (ret := (some .boolean)) RX12 rfl (by decide) rfl (Nat.le_of_ble_eq_true rfl) ?_
  intro p e s m below meth c ls X Z hP hl
  have hx := X.1
  have hb := X.2.1
  have hS : va_S (wA ad 218) s.heap s.heap [] := va_S.rf
  have hA : ∀ i, i < 218 → wA ad 218 (ad i) := fun i h => ⟨i, h, rfl⟩
  have hfr : ∀ j, j ≠ 198 ∧ j ≠ 197 ∧ j ≠ 204 ∧ j ≠ 205 → g j = g j := fun _ _ => rfl
  have hl : lv_has ls 2 [(0, .ref (ad 197)), (1, .int ac)] := hl
  refine lv_aload_n hx hb dX12_keepAct_0 rfl (lv_at hl 0 rfl) ?_
  obtain ⟨fsc_1, hgc_1, hOc_1⟩ := hW.obj (i := 197) (by decide) (sh_197 ad K)
  have hk_2 := hOc_1.ref 1 rfl
  refine q_get X iX12_keepAct_12 hP (by decide) hgc_1 rfl 1 (by decide) (List.mem_of_getElem? (i := 1) rfl) (v := .ref (ad 198)) hk_2 dX12_keepAct_1 ?_
  refine lv_bipush (v := 7) hx hb dX12_keepAct_4 (by decide) ?_
  obtain ⟨fc_3, hgc_3, hFc_3⟩ := hW.arr (i := 198) (by decide) (sh_198 ad K)
  refine q_iald X hP (by decide) hgc_3 (by unfold vp_in; decide) dX12_keepAct_6 ?_
  refine lv_topi (fun z_4 ez_4 => ?_)
  have hqz_4 : wq (7) z_4.toInt := ez_4 ▸ hFc_3 _
  have hz_4 : 0 ≤ z_4.toInt ∧ z_4.toInt ≤ 40 := by unfold wq at hqz_4; omega
  clear hqz_4
  refine lv_bipush (v := 40) hx hb dX12_keepAct_7 (by decide) ?_
  refine lv_icmp_ne (tgt := 14) hx hb dX12_keepAct_9 (by decide) (fun hc_5 => ?_) (fun hc_5 => ?_)
  · have hhc_5 := n_ne (rfl : z_4.toInt = z_4.toInt) (by decide : (40 : Int32).toInt = 40) hc_5
    refine lv_aload_n hx hb dX12_keepAct_14 rfl (lv_at hl 0 rfl) ?_
    refine q_get X iX12_keepAct_12 hP (by decide) hgc_1 rfl 1 (by decide) (List.mem_of_getElem? (i := 1) rfl) (v := .ref (ad 198)) hk_2 dX12_keepAct_15 ?_
    refine lv_bipush (v := 78) hx hb dX12_keepAct_18 (by decide) ?_
    refine lv_aload_n hx hb dX12_keepAct_20 rfl (lv_at hl 0 rfl) ?_
    refine q_get X iX12_keepAct_12 hP (by decide) hgc_1 rfl 1 (by decide) (List.mem_of_getElem? (i := 1) rfl) (v := .ref (ad 198)) hk_2 dX12_keepAct_21 ?_
    refine lv_bipush (v := 7) hx hb dX12_keepAct_24 (by decide) ?_
    refine q_iald X hP (by decide) hgc_3 (by unfold vp_in; decide) dX12_keepAct_26 ?_
    refine lv_topi (fun z_6 ez_6 => ?_)
    have hqz_6 : wq (7) z_6.toInt := ez_6 ▸ hFc_3 _
    have hz_6 : 0 ≤ z_6.toInt ∧ z_6.toInt ≤ 40 := by unfold wq at hqz_6; omega
    clear hqz_6
    have hsz_6 : z_6.toInt = z_4.toInt := by rw [ez_6, ez_4]
    refine lv_iadd hx hb dX12_keepAct_27 ?_
    refine lv_topi (fun z_7 ez_7 => ?_)
    have hz_7 : z_7.toInt = 78 + z_6.toInt := n_add (by decide : (78 : Int32).toInt = 78) (rfl : z_6.toInt = z_6.toInt) ez_7 (by omega) (by omega)
    refine lv_iload_n hx hb dX12_keepAct_28 rfl (lv_at hl 1 rfl) ?_
    have hc_29 := n_cl (rfl : z_7.toInt = z_7.toInt) (by omega)
    have hu_9 : wq (z_7.toNatClampNeg) (ac : Int32).toInt := by unfold wq; omega
    refine s_iast X hP hj hA hS (by decide) hgc_3 (n_in (rfl : z_7.toInt = z_7.toInt) (by omega) (by omega)) dX12_keepAct_29 hW (sh_198 ad K) (hFc_3.put hu_9) (fun fc_8 gc_8 H locs ec_8 hFc_8 hgc_8 hfc_8 hWc_8 hP hS => ?_)
    have hg_11 := (hfc_8 197 (by decide)).trans hgc_1
    have hfr_10 : ∀ j, j ≠ 198 ∧ j ≠ 197 ∧ j ≠ 204 ∧ j ≠ 205 → gc_8 j = g j := fun j hj => (hfc_8 j (by omega)).trans (hfr j hj)
    have hcl_12 := n_cl (rfl : z_7.toInt = z_7.toInt) (by omega)
    refine lv_aload_n hx hb dX12_keepAct_30 rfl (lv_at hl 0 rfl) ?_
    refine q_get X iX12_keepAct_12 hP (by decide) hg_11 rfl 1 (by decide) (List.mem_of_getElem? (i := 1) rfl) (v := .ref (ad 198)) hk_2 dX12_keepAct_31 ?_
    refine lv_bipush (v := 7) hx hb dX12_keepAct_34 (by decide) ?_
    refine lv_dup2_11 hx hb dX12_keepAct_36 rfl rfl ?_
    refine q_iald X hP (by decide) hgc_8 (by unfold vp_in; decide) dX12_keepAct_37 ?_
    refine lv_topi (fun z_13 ez_13 => ?_)
    have hqz_13 : wq (7) z_13.toInt := ez_13 ▸ hFc_8 _
    have hz_13 : 0 ≤ z_13.toInt ∧ z_13.toInt ≤ 40 := by unfold wq at hqz_13; omega
    clear hqz_13
    have hl3 : (7 : Int32).toNatClampNeg = 7 := by decide
    have hsmz_13 : z_13.toInt = z_6.toInt := by rw [ez_13, ec_8]; unfold upd; rw [if_neg (by omega), ← ez_6]
    refine lv_iconst (v := 1) hx hb dX12_keepAct_38 (by decide) ?_
    refine lv_iadd hx hb dX12_keepAct_39 ?_
    refine lv_topi (fun z_14 ez_14 => ?_)
    have hz_14 : z_14.toInt = z_13.toInt + 1 := n_add (rfl : z_13.toInt = z_13.toInt) (by decide : (1 : Int32).toInt = 1) ez_14 (by omega) (by omega)
    have hu_16 : wq (7) (z_14 : Int32).toInt := by unfold wq; omega
    refine s_iast X hP hj hA hS (by decide) hgc_8 (by unfold vp_in; decide) dX12_keepAct_40 hWc_8 (sh_198 ad K) (hFc_8.put hu_16) (fun fc_15 gc_15 H locs ec_15 hFc_15 hgc_15 hfc_15 hWc_15 hP hS => ?_)
    have hg_18 := (hfc_15 197 (by decide)).trans hg_11
    have hfr_17 : ∀ j, j ≠ 198 ∧ j ≠ 197 ∧ j ≠ 204 ∧ j ≠ 205 → gc_15 j = g j := fun j hj => (hfc_15 j (by omega)).trans (hfr_10 j hj)
    refine lv_aload_n hx hb dX12_keepAct_41 rfl (lv_at hl 0 rfl) ?_
    refine s_callv (q := (RX12, TX12, 40)) (As := []) (rest := []) X Z (s_X12_layAll l D cs ad kS K hKO hj gc_15 hWc_15) (cwV 0 X.2.2.2.2.1 gg_X12_keepAct_X12_layAll rfl rfl rfl (by decide +kernel) ⟨Nat.le_of_ble_eq_true rfl, Nat.le_of_ble_eq_true rfl⟩) (by decide) hg_18 rfl hP hA hS.2.1 hS rfl hl.1 rfl (Nat.le_of_ble_eq_true rfl) dX12_keepAct_42 ⟨Nat.le_of_ble_eq_true rfl, Nat.le_of_ble_eq_true rfl⟩ (fun g_20 H locs hw_19 hP hS => ?_)
    obtain ⟨hw_19W, hw_19f⟩ := hw_19
    have hfr_22 : ∀ j, j ≠ 198 ∧ j ≠ 197 ∧ j ≠ 204 ∧ j ≠ 205 → g_20 j = g j := fun j hj => (hw_19f j (by omega)).trans (hfr_17 j hj)
    have hg_23 := (hw_19f 198 (by omega)).trans hgc_15
    refine lv_iconst (v := 1) hx hb dX12_keepAct_45 (by decide) ?_
    have hr0 : (1 : Int32).toInt = 1 := by decide
    exact q_zret X hP hS rfl ⟨hw_19W, hfr_22, (by omega)⟩ dX12_keepAct_46
  · have hhc_5 := n_eq (rfl : z_4.toInt = z_4.toInt) (by decide : (40 : Int32).toInt = 40) hc_5
    refine lv_iconst (v := 0) hx hb dX12_keepAct_12 (by decide) ?_
    have hr0 : (0 : Int32).toInt = 0 := by decide
    exact q_zret X hP hS rfl ⟨hW, hfr, (by omega)⟩ dX12_keepAct_13

theorem dX12_door_0 : decode cX12_door 0 = .ok (.aload_n 0, 1) := by decide +kernel
theorem dX12_door_1 : decode cX12_door 1 = .ok (.iload_n 1, 1) := by decide +kernel
theorem dX12_door_2 : decode cX12_door 2 = .ok (.invokevirtual 212, 3) := by decide +kernel
theorem dX12_door_5 : decode cX12_door 5 = .ok (.ifCond .eq 11, 3) := by decide +kernel
theorem dX12_door_8 : decode cX12_door 8 = .ok (.aload_n 0, 1) := by decide +kernel
theorem dX12_door_9 : decode cX12_door 9 = .ok (.iload_n 2, 1) := by decide +kernel
theorem dX12_door_10 : decode cX12_door 10 = .ok (.invokevirtual 205, 3) := by decide +kernel
theorem dX12_door_13 : decode cX12_door 13 = .ok (.ifCond .ne 6, 3) := by decide +kernel
theorem dX12_door_19 : decode cX12_door 19 = .ok (.aload_n 0, 1) := by decide +kernel
theorem dX12_door_20 : decode cX12_door 20 = .ok (.bipush 20, 2) := by decide +kernel
theorem dX12_door_22 : decode cX12_door 22 = .ok (.iload_n 1, 1) := by decide +kernel
theorem dX12_door_23 : decode cX12_door 23 = .ok (.imul, 1) := by decide +kernel
theorem dX12_door_24 : decode cX12_door 24 = .ok (.iload_n 2, 1) := by decide +kernel
theorem dX12_door_25 : decode cX12_door 25 = .ok (.iadd, 1) := by decide +kernel
theorem dX12_door_26 : decode cX12_door 26 = .ok (.invokevirtual 400, 3) := by decide +kernel
theorem dX12_door_29 : decode cX12_door 29 = .ok (.ifCond .eq 12, 3) := by decide +kernel
theorem dX12_door_32 : decode cX12_door 32 = .ok (.aload_n 0, 1) := by decide +kernel
theorem dX12_door_33 : decode cX12_door 33 = .ok (.iload_n 1, 1) := by decide +kernel
theorem dX12_door_34 : decode cX12_door 34 = .ok (.iload_n 2, 1) := by decide +kernel
theorem dX12_door_35 : decode cX12_door 35 = .ok (.invokevirtual 294, 3) := by decide +kernel
theorem dX12_door_38 : decode cX12_door 38 = .ok (.goto 5, 3) := by decide +kernel
theorem dX12_door_41 : decode cX12_door 41 = .ok (.bipush (-5), 2) := by decide +kernel
theorem dX12_door_43 : decode cX12_door 43 = .ok (.ireturn, 1) := by decide +kernel
theorem dX12_door_16 : decode cX12_door 16 = .ok (.bipush (-2), 2) := by decide +kernel
theorem dX12_door_18 : decode cX12_door 18 = .ok (.ireturn, 1) := by decide +kernel
noncomputable def vX12_door : List Cond := .code yX12_door cX12_door 3 (some .int) :: (([.methodLink RX12 212 yX12_isEave, .instanceMethod yX12_isEave, .selects RX12 yX12_isEave yX12_isEave, .initialized RX12, .methodLink RX12 205 yX12_isDay, .instanceMethod yX12_isDay, .selects RX12 yX12_isDay yX12_isDay, .methodLink RX12 400 yX12_keepAct, .instanceMethod yX12_keepAct, .selects RX12 yX12_keepAct yX12_keepAct, .methodLink RX12 294 yX12_dropsAt, .instanceMethod yX12_dropsAt, .selects RX12 yX12_dropsAt yX12_dropsAt] : List Cond) ++ (vX12_isEave ++ (vX12_isDay ++ (vX12_keepAct ++ vX12_dropsAt))))
theorem gs_X12_door : Gd vX12_door := Gd.cons (by decide +kernel) (Gd.app (Gd.r (by decide +kernel)) (Gd.app gs_X12_isEave (Gd.app gs_X12_isDay (Gd.app gs_X12_keepAct gs_X12_dropsAt))))
theorem gg_X12_door_X12_isEave : GoodIn vX12_door (wsV RX12 212 RX12 yX12_isEave vX12_isEave) := goodIn_app (goodIn_r _ [1, 2, 3, 4] (by decide +kernel) (by decide +kernel)) (fun w h => ⟨List.mem_cons_of_mem _ (List.mem_append_right _ (List.mem_append_left _ h)), gs_X12_isEave w h⟩)
theorem gg_X12_door_X12_isDay : GoodIn vX12_door (wsV RX12 205 RX12 yX12_isDay vX12_isDay) := goodIn_app (goodIn_r _ [5, 6, 7, 4] (by decide +kernel) (by decide +kernel)) (fun w h => ⟨List.mem_cons_of_mem _ (List.mem_append_right _ (List.mem_append_right _ (List.mem_append_left _ h))), gs_X12_isDay w h⟩)
theorem gg_X12_door_X12_keepAct : GoodIn vX12_door (wsV RX12 400 RX12 yX12_keepAct vX12_keepAct) := goodIn_app (goodIn_r _ [8, 9, 10, 4] (by decide +kernel) (by decide +kernel)) (fun w h => ⟨List.mem_cons_of_mem _ (List.mem_append_right _ (List.mem_append_right _ (List.mem_append_right _ (List.mem_append_left _ h)))), gs_X12_keepAct w h⟩)
theorem gg_X12_door_X12_dropsAt : GoodIn vX12_door (wsV RX12 294 RX12 yX12_dropsAt vX12_dropsAt) := goodIn_app (goodIn_r _ [11, 12, 13, 4] (by decide +kernel) (by decide +kernel)) (fun w h => ⟨List.mem_cons_of_mem _ (List.mem_append_right _ (List.mem_append_right _ (List.mem_append_right _ (List.mem_append_right _ (h))))), gs_X12_dropsAt w h⟩)
set_option maxHeartbeats 4000000 in
set_option maxRecDepth 100000 in
theorem s_X12_door (l : Launch) (D : va_G) (cs : Nat → ClassId) (ad : Nat → Nat) (kS : kSt) (K : sK) (hKO : KO K) (hj : wJ ad 218) (g : Nat → va_E) (hW : WF (shp ad K) ad cs g) (ev : Int32) (dy : Int32) : sI l yX12_door vX12_door { frames := 4, cells := 0, slots := 0, locals := 86 } D cs ad kS [.ref (ad 197), .int ev, .int dy] g (fun r g2 => WF (shp ad K) ad cs g2 ∧ (∀ j, j ≠ 198 ∧ j ≠ 197 ∧ j ≠ 204 ∧ j ≠ 205 → g2 j = g j)) := by
  refine Met.startS (cc := cX12_door) (maxL := 3) (ret := (some .int)) RX12 rfl (by decide) rfl (Nat.le_of_ble_eq_true rfl) ?_
  intro p e s m below meth c ls X Z hP hl
  have hx := X.1
  have hb := X.2.1
  have hS : va_S (wA ad 218) s.heap s.heap [] := va_S.rf
  have hA : ∀ i, i < 218 → wA ad 218 (ad i) := fun i h => ⟨i, h, rfl⟩
  have hfr : ∀ j, j ≠ 198 ∧ j ≠ 197 ∧ j ≠ 204 ∧ j ≠ 205 → g j = g j := fun _ _ => rfl
  have hl : lv_has ls 3 [(0, .ref (ad 197)), (1, .int ev), (2, .int dy)] := hl
  refine lv_aload_n hx hb dX12_door_0 rfl (lv_at hl 0 rfl) ?_
  refine lv_iload_n hx hb dX12_door_1 rfl (lv_at hl 1 rfl) ?_
  obtain ⟨fsc_4, hgc_4, hOc_4⟩ := hW.obj (i := 197) (by decide) (sh_197 ad K)
  refine s_calli (q := (RX12, TX12, 40)) (As := [.int ev]) (rest := []) X Z (s_X12_isEave l D cs ad kS K hKO hj g hW ev) (cwV 1 X.2.2.2.2.1 gg_X12_door_X12_isEave rfl rfl rfl (by decide +kernel) ⟨Nat.le_of_ble_eq_true rfl, Nat.le_of_ble_eq_true rfl⟩) (by decide) hgc_4 rfl hP hA hS.2.1 hS rfl hl.1 rfl (Nat.le_of_ble_eq_true rfl) dX12_door_2 ⟨Nat.le_of_ble_eq_true rfl, Nat.le_of_ble_eq_true rfl⟩ (fun r_3 g_2 H locs hw_1 hP hS => ?_)
  obtain ⟨hw_1g, hw_1⟩ := hw_1
  rw [hw_1g] at hP
  have HJ16 : ∀ (G16 : Nat → va_E) (H : Heap) (locs : List Loc) (ls : Array Slot), WF (shp ad K) ad cs G16 → (∀ j, j ≠ 198 ∧ j ≠ 197 ∧ j ≠ 204 ∧ j ≠ 205 → G16 j = g j) → G16 197 = .inr (12, fsc_4) → va_P D vwCl (wL ad G16 218) H → va_S (wA ad 218) s.heap H locs → lv_has ls 3 [] → W p l e ({ frames := 4, cells := 0, slots := 0, locals := 86 } : Room) s m ([.ref (ad 197), .int ev, .int dy] : List Value).toArray below meth c H locs 0 0 (MQ below (qI D ad 218 (fun r g2 => WF (shp ad K) ad cs g2 ∧ (∀ j, j ≠ 198 ∧ j ≠ 197 ∧ j ≠ 204 ∧ j ≠ 205 → g2 j = g j))) ([.ref (ad 197), .int ev, .int dy] : List Value).toArray s 0 0 (wA ad 218)) (F0 m 16 ls []) := by
    intro G16 H locs ls hW16 hfr16 hg16_0 hP hS hl
    refine lv_bipush (v := (-2)) hx hb dX12_door_16 (by decide) ?_
    exact q_iret X hP hS ⟨hW16, hfr16⟩ dX12_door_18
  refine lv_if_eq (tgt := 16) hx hb dX12_door_5 (by decide) (fun hc_5 => ?_) (fun hc_5 => ?_)
  · have hhc_5 := n_eq (rfl : r_3.toInt = r_3.toInt) (by decide : (0 : Int32).toInt = 0) hc_5
    exact HJ16 g _ _ ls hW hfr hgc_4 hP hS (lv_sub hl [] rfl)
  · have hhc_5 := n_ne (rfl : r_3.toInt = r_3.toInt) (by decide : (0 : Int32).toInt = 0) hc_5
    refine lv_aload_n hx hb dX12_door_8 rfl (lv_at hl 0 rfl) ?_
    refine lv_iload_n hx hb dX12_door_9 rfl (lv_at hl 2 rfl) ?_
    refine s_calli (q := (RX12, TX12, 40)) (As := [.int dy]) (rest := []) X Z (s_X12_isDay l D cs ad kS K hKO hj g hW dy) (cwV 1 X.2.2.2.2.1 gg_X12_door_X12_isDay rfl rfl rfl (by decide +kernel) ⟨Nat.le_of_ble_eq_true rfl, Nat.le_of_ble_eq_true rfl⟩) (by decide) hgc_4 rfl hP hA hS.2.1 hS rfl hl.1 rfl (Nat.le_of_ble_eq_true rfl) dX12_door_10 ⟨Nat.le_of_ble_eq_true rfl, Nat.le_of_ble_eq_true rfl⟩ (fun r_8 g_7 H locs hw_6 hP hS => ?_)
    obtain ⟨hw_6g, hw_6⟩ := hw_6
    rw [hw_6g] at hP
    refine lv_if_ne (tgt := 19) hx hb dX12_door_13 (by decide) (fun hc_9 => ?_) (fun hc_9 => ?_)
    · have hhc_9 := n_ne (rfl : r_8.toInt = r_8.toInt) (by decide : (0 : Int32).toInt = 0) hc_9
      refine lv_aload_n hx hb dX12_door_19 rfl (lv_at hl 0 rfl) ?_
      refine lv_bipush (v := 20) hx hb dX12_door_20 (by decide) ?_
      refine lv_iload_n hx hb dX12_door_22 rfl (lv_at hl 1 rfl) ?_
      refine lv_imul hx hb dX12_door_23 ?_
      refine lv_topi (fun z_10 ez_10 => ?_)
      have hz_10 : z_10.toInt = 20 * ev.toInt := n_mul (by decide : (20 : Int32).toInt = 20) (rfl : ev.toInt = ev.toInt) ez_10 (by omega) (by omega)
      refine lv_iload_n hx hb dX12_door_24 rfl (lv_at hl 2 rfl) ?_
      refine lv_iadd hx hb dX12_door_25 ?_
      refine lv_topi (fun z_11 ez_11 => ?_)
      have hz_11 : z_11.toInt = z_10.toInt + dy.toInt := n_add (rfl : z_10.toInt = z_10.toInt) (rfl : dy.toInt = dy.toInt) ez_11 (by omega) (by omega)
      refine s_calli (q := (RX12, TX12, 40)) (As := [.int z_11]) (rest := []) X Z (s_X12_keepAct l D cs ad kS K hKO hj g hW z_11 (by omega)) (cwV 1 X.2.2.2.2.1 gg_X12_door_X12_keepAct rfl rfl rfl (by decide +kernel) ⟨Nat.le_of_ble_eq_true rfl, Nat.le_of_ble_eq_true rfl⟩) (by decide) hgc_4 rfl hP hA hS.2.1 hS rfl hl.1 rfl (Nat.le_of_ble_eq_true rfl) dX12_door_26 ⟨Nat.le_of_ble_eq_true rfl, Nat.le_of_ble_eq_true rfl⟩ (fun r_14 g_13 H locs hw_12 hP hS => ?_)
      obtain ⟨hw_12W, hw_12f, hw_12⟩ := hw_12
      have hfr_15 : ∀ j, j ≠ 198 ∧ j ≠ 197 ∧ j ≠ 204 ∧ j ≠ 205 → g_13 j = g j := fun j hj => (hw_12f j (by omega)).trans (hfr j hj)
      refine lv_if_eq (tgt := 41) hx hb dX12_door_29 (by decide) (fun hc_16 => ?_) (fun hc_16 => ?_)
      · have hhc_16 := n_eq (rfl : r_14.toInt = r_14.toInt) (by decide : (0 : Int32).toInt = 0) hc_16
        refine lv_bipush (v := (-5)) hx hb dX12_door_41 (by decide) ?_
        exact q_iret X hP hS ⟨hw_12W, hfr_15⟩ dX12_door_43
      · have hhc_16 := n_ne (rfl : r_14.toInt = r_14.toInt) (by decide : (0 : Int32).toInt = 0) hc_16
        refine lv_aload_n hx hb dX12_door_32 rfl (lv_at hl 0 rfl) ?_
        refine lv_iload_n hx hb dX12_door_33 rfl (lv_at hl 1 rfl) ?_
        refine lv_iload_n hx hb dX12_door_34 rfl (lv_at hl 2 rfl) ?_
        obtain ⟨fsc_20, hgc_20, hOc_20⟩ := hw_12W.obj (i := 197) (by decide) (sh_197 ad K)
        refine s_calli (q := (RX12, TX12, 40)) (As := [.int ev, .int dy]) (rest := []) X Z (s_X12_dropsAt l D cs ad kS K hKO hj g_13 hw_12W ev dy) (cwV 2 X.2.2.2.2.1 gg_X12_door_X12_dropsAt rfl rfl rfl (by decide +kernel) ⟨Nat.le_of_ble_eq_true rfl, Nat.le_of_ble_eq_true rfl⟩) (by decide) hgc_20 rfl hP hA hS.2.1 hS rfl hl.1 rfl (Nat.le_of_ble_eq_true rfl) dX12_door_35 ⟨Nat.le_of_ble_eq_true rfl, Nat.le_of_ble_eq_true rfl⟩ (fun r_19 g_18 H locs hw_17 hP hS => ?_)
        obtain ⟨hw_17g, hw_17⟩ := hw_17
        rw [hw_17g] at hP
        refine lv_goto (tgt := 43) hx hb dX12_door_38 (by decide) ?_
        exact q_iret X hP hS ⟨hw_12W, hfr_15⟩ dX12_door_43
    · have hhc_9 := n_eq (rfl : r_8.toInt = r_8.toInt) (by decide : (0 : Int32).toInt = 0) hc_9
      exact HJ16 g _ _ ls hW hfr hgc_4 hP hS (lv_sub hl [] rfl)

theorem dX12_ring_0 : decode cX12_ring 0 = .ok (.aload_n 0, 1) := by decide +kernel
theorem dX12_ring_1 : decode cX12_ring 1 = .ok (.iload_n 1, 1) := by decide +kernel
theorem dX12_ring_2 : decode cX12_ring 2 = .ok (.invokevirtual 205, 3) := by decide +kernel
theorem dX12_ring_5 : decode cX12_ring 5 = .ok (.ifCond .ne 6, 3) := by decide +kernel
theorem dX12_ring_8 : decode cX12_ring 8 = .ok (.bipush (-2), 2) := by decide +kernel
theorem dX12_ring_10 : decode cX12_ring 10 = .ok (.ireturn, 1) := by decide +kernel
theorem dX12_ring_11 : decode cX12_ring 11 = .ok (.aload_n 0, 1) := by decide +kernel
theorem dX12_ring_12 : decode cX12_ring 12 = .ok (.sipush 1000, 3) := by decide +kernel
theorem dX12_ring_15 : decode cX12_ring 15 = .ok (.iload_n 1, 1) := by decide +kernel
theorem dX12_ring_16 : decode cX12_ring 16 = .ok (.iadd, 1) := by decide +kernel
theorem dX12_ring_17 : decode cX12_ring 17 = .ok (.invokevirtual 400, 3) := by decide +kernel
theorem dX12_ring_20 : decode cX12_ring 20 = .ok (.ifCond .eq 14, 3) := by decide +kernel
theorem dX12_ring_23 : decode cX12_ring 23 = .ok (.aload_n 0, 1) := by decide +kernel
theorem dX12_ring_24 : decode cX12_ring 24 = .ok (.iload_n 1, 1) := by decide +kernel
theorem dX12_ring_25 : decode cX12_ring 25 = .ok (.invokevirtual 255, 3) := by decide +kernel
theorem dX12_ring_28 : decode cX12_ring 28 = .ok (.invokestatic 264, 3) := by decide +kernel
theorem dX12_ring_31 : decode cX12_ring 31 = .ok (.goto 5, 3) := by decide +kernel
theorem dX12_ring_34 : decode cX12_ring 34 = .ok (.bipush (-5), 2) := by decide +kernel
theorem dX12_ring_36 : decode cX12_ring 36 = .ok (.ireturn, 1) := by decide +kernel
noncomputable def vX12_ring : List Cond := .code yX12_ring cX12_ring 2 (some .int) :: (([.methodLink RX12 205 yX12_isDay, .instanceMethod yX12_isDay, .selects RX12 yX12_isDay yX12_isDay, .initialized RX12, .methodLink RX12 400 yX12_keepAct, .instanceMethod yX12_keepAct, .selects RX12 yX12_keepAct yX12_keepAct, .methodLink RX12 255 yX12_dropsOn, .instanceMethod yX12_dropsOn, .selects RX12 yX12_dropsOn yX12_dropsOn, .methodLink RX12 264 yX12_bits, .static yX12_bits] : List Cond) ++ (vX12_isDay ++ (vX12_keepAct ++ (vX12_dropsOn ++ vX12_bits))))
theorem gs_X12_ring : Gd vX12_ring := Gd.cons (by decide +kernel) (Gd.app (Gd.r (by decide +kernel)) (Gd.app gs_X12_isDay (Gd.app gs_X12_keepAct (Gd.app gs_X12_dropsOn gs_X12_bits))))
theorem gg_X12_ring_X12_isDay : GoodIn vX12_ring (wsV RX12 205 RX12 yX12_isDay vX12_isDay) := goodIn_app (goodIn_r _ [1, 2, 3, 4] (by decide +kernel) (by decide +kernel)) (fun w h => ⟨List.mem_cons_of_mem _ (List.mem_append_right _ (List.mem_append_left _ h)), gs_X12_isDay w h⟩)
theorem gg_X12_ring_X12_keepAct : GoodIn vX12_ring (wsV RX12 400 RX12 yX12_keepAct vX12_keepAct) := goodIn_app (goodIn_r _ [5, 6, 7, 4] (by decide +kernel) (by decide +kernel)) (fun w h => ⟨List.mem_cons_of_mem _ (List.mem_append_right _ (List.mem_append_right _ (List.mem_append_left _ h))), gs_X12_keepAct w h⟩)
theorem gg_X12_ring_X12_dropsOn : GoodIn vX12_ring (wsV RX12 255 RX12 yX12_dropsOn vX12_dropsOn) := goodIn_app (goodIn_r _ [8, 9, 10, 4] (by decide +kernel) (by decide +kernel)) (fun w h => ⟨List.mem_cons_of_mem _ (List.mem_append_right _ (List.mem_append_right _ (List.mem_append_right _ (List.mem_append_left _ h)))), gs_X12_dropsOn w h⟩)
theorem gg_X12_ring_X12_bits : GoodIn vX12_ring (wsS RX12 264 yX12_bits vX12_bits) := goodIn_app (goodIn_r _ [11, 12, 4] (by decide +kernel) (by decide +kernel)) (fun w h => ⟨List.mem_cons_of_mem _ (List.mem_append_right _ (List.mem_append_right _ (List.mem_append_right _ (List.mem_append_right _ (h))))), gs_X12_bits w h⟩)
set_option maxHeartbeats 4000000 in
set_option maxRecDepth 100000 in
theorem s_X12_ring (l : Launch) (D : va_G) (cs : Nat → ClassId) (ad : Nat → Nat) (kS : kSt) (K : sK) (hKO : KO K) (hj : wJ ad 218) (g : Nat → va_E) (hW : WF (shp ad K) ad cs g) (dy : Int32) : sI l yX12_ring vX12_ring { frames := 4, cells := 0, slots := 0, locals := 86 } D cs ad kS [.ref (ad 197), .int dy] g (fun r g2 => WF (shp ad K) ad cs g2 ∧ (∀ j, j ≠ 198 ∧ j ≠ 197 ∧ j ≠ 204 ∧ j ≠ 205 → g2 j = g j)) := by
  refine Met.startS (cc := cX12_ring) (maxL := 2) (ret := (some .int)) RX12 rfl (by decide) rfl (Nat.le_of_ble_eq_true rfl) ?_
  intro p e s m below meth c ls X Z hP hl
  have hx := X.1
  have hb := X.2.1
  have hS : va_S (wA ad 218) s.heap s.heap [] := va_S.rf
  have hA : ∀ i, i < 218 → wA ad 218 (ad i) := fun i h => ⟨i, h, rfl⟩
  have hfr : ∀ j, j ≠ 198 ∧ j ≠ 197 ∧ j ≠ 204 ∧ j ≠ 205 → g j = g j := fun _ _ => rfl
  have hl : lv_has ls 2 [(0, .ref (ad 197)), (1, .int dy)] := hl
  refine lv_aload_n hx hb dX12_ring_0 rfl (lv_at hl 0 rfl) ?_
  refine lv_iload_n hx hb dX12_ring_1 rfl (lv_at hl 1 rfl) ?_
  obtain ⟨fsc_4, hgc_4, hOc_4⟩ := hW.obj (i := 197) (by decide) (sh_197 ad K)
  refine s_calli (q := (RX12, TX12, 40)) (As := [.int dy]) (rest := []) X Z (s_X12_isDay l D cs ad kS K hKO hj g hW dy) (cwV 1 X.2.2.2.2.1 gg_X12_ring_X12_isDay rfl rfl rfl (by decide +kernel) ⟨Nat.le_of_ble_eq_true rfl, Nat.le_of_ble_eq_true rfl⟩) (by decide) hgc_4 rfl hP hA hS.2.1 hS rfl hl.1 rfl (Nat.le_of_ble_eq_true rfl) dX12_ring_2 ⟨Nat.le_of_ble_eq_true rfl, Nat.le_of_ble_eq_true rfl⟩ (fun r_3 g_2 H locs hw_1 hP hS => ?_)
  obtain ⟨hw_1g, hw_1⟩ := hw_1
  rw [hw_1g] at hP
  refine lv_if_ne (tgt := 11) hx hb dX12_ring_5 (by decide) (fun hc_5 => ?_) (fun hc_5 => ?_)
  · have hhc_5 := n_ne (rfl : r_3.toInt = r_3.toInt) (by decide : (0 : Int32).toInt = 0) hc_5
    refine lv_aload_n hx hb dX12_ring_11 rfl (lv_at hl 0 rfl) ?_
    refine lv_sipush (v := 1000) hx hb dX12_ring_12 (by decide) ?_
    refine lv_iload_n hx hb dX12_ring_15 rfl (lv_at hl 1 rfl) ?_
    refine lv_iadd hx hb dX12_ring_16 ?_
    refine lv_topi (fun z_6 ez_6 => ?_)
    have hz_6 : z_6.toInt = 1000 + dy.toInt := n_add (by decide : (1000 : Int32).toInt = 1000) (rfl : dy.toInt = dy.toInt) ez_6 (by omega) (by omega)
    refine s_calli (q := (RX12, TX12, 40)) (As := [.int z_6]) (rest := []) X Z (s_X12_keepAct l D cs ad kS K hKO hj g hW z_6 (by omega)) (cwV 1 X.2.2.2.2.1 gg_X12_ring_X12_keepAct rfl rfl rfl (by decide +kernel) ⟨Nat.le_of_ble_eq_true rfl, Nat.le_of_ble_eq_true rfl⟩) (by decide) hgc_4 rfl hP hA hS.2.1 hS rfl hl.1 rfl (Nat.le_of_ble_eq_true rfl) dX12_ring_17 ⟨Nat.le_of_ble_eq_true rfl, Nat.le_of_ble_eq_true rfl⟩ (fun r_9 g_8 H locs hw_7 hP hS => ?_)
    obtain ⟨hw_7W, hw_7f, hw_7⟩ := hw_7
    have hfr_10 : ∀ j, j ≠ 198 ∧ j ≠ 197 ∧ j ≠ 204 ∧ j ≠ 205 → g_8 j = g j := fun j hj => (hw_7f j (by omega)).trans (hfr j hj)
    refine lv_if_eq (tgt := 34) hx hb dX12_ring_20 (by decide) (fun hc_11 => ?_) (fun hc_11 => ?_)
    · have hhc_11 := n_eq (rfl : r_9.toInt = r_9.toInt) (by decide : (0 : Int32).toInt = 0) hc_11
      refine lv_bipush (v := (-5)) hx hb dX12_ring_34 (by decide) ?_
      exact q_iret X hP hS ⟨hw_7W, hfr_10⟩ dX12_ring_36
    · have hhc_11 := n_ne (rfl : r_9.toInt = r_9.toInt) (by decide : (0 : Int32).toInt = 0) hc_11
      refine lv_aload_n hx hb dX12_ring_23 rfl (lv_at hl 0 rfl) ?_
      refine lv_iload_n hx hb dX12_ring_24 rfl (lv_at hl 1 rfl) ?_
      obtain ⟨fsc_15, hgc_15, hOc_15⟩ := hw_7W.obj (i := 197) (by decide) (sh_197 ad K)
      refine s_calli (q := (RX12, TX12, 40)) (As := [.int dy]) (rest := []) X Z (s_X12_dropsOn l D cs ad kS K hKO hj g_8 hw_7W dy) (cwV 1 X.2.2.2.2.1 gg_X12_ring_X12_dropsOn rfl rfl rfl (by decide +kernel) ⟨Nat.le_of_ble_eq_true rfl, Nat.le_of_ble_eq_true rfl⟩) (by decide) hgc_15 rfl hP hA hS.2.1 hS rfl hl.1 rfl (Nat.le_of_ble_eq_true rfl) dX12_ring_25 ⟨Nat.le_of_ble_eq_true rfl, Nat.le_of_ble_eq_true rfl⟩ (fun r_14 g_13 H locs hw_12 hP hS => ?_)
      rw [hw_12] at hP
      refine s_callSi (As := [.int r_14]) (rest := []) X Z (s_X12_bits l D cs ad kS K hKO hj g_8 hw_7W r_14) (cwS 1 X.2.2.2.2.1 gg_X12_ring_X12_bits rfl rfl rfl (by decide +kernel) ⟨Nat.le_of_ble_eq_true rfl, Nat.le_of_ble_eq_true rfl⟩) hP hA hS.2.1 hS rfl hl.1 rfl (Nat.le_of_ble_eq_true rfl) dX12_ring_28 ⟨Nat.le_of_ble_eq_true rfl, Nat.le_of_ble_eq_true rfl⟩ (fun r_18 g_17 H locs hw_16 hP hS => ?_)
      rw [hw_16] at hP
      refine lv_goto (tgt := 36) hx hb dX12_ring_31 (by decide) ?_
      exact q_iret X hP hS ⟨hw_7W, hfr_10⟩ dX12_ring_36
  · have hhc_5 := n_eq (rfl : r_3.toInt = r_3.toInt) (by decide : (0 : Int32).toInt = 0) hc_5
    refine lv_bipush (v := (-2)) hx hb dX12_ring_8 (by decide) ?_
    exact q_iret X hP hS ⟨hW, hfr⟩ dX12_ring_10

theorem dX12_undo_0 : decode cX12_undo 0 = .ok (.aload_n 0, 1) := by decide +kernel
theorem dX12_undo_1 : decode cX12_undo 1 = .ok (.invokevirtual 261, 3) := by decide +kernel
theorem dX12_undo_4 : decode cX12_undo 4 = .ok (.ifCond .ne 6, 3) := by decide +kernel
theorem dX12_undo_7 : decode cX12_undo 7 = .ok (.bipush (-2), 2) := by decide +kernel
theorem dX12_undo_9 : decode cX12_undo 9 = .ok (.ireturn, 1) := by decide +kernel
theorem dX12_undo_10 : decode cX12_undo 10 = .ok (.aload_n 0, 1) := by decide +kernel
theorem dX12_undo_11 : decode cX12_undo 11 = .ok (.getfield 9, 3) := by decide +kernel
theorem dX12_undo_14 : decode cX12_undo 14 = .ok (.bipush 7, 2) := by decide +kernel
theorem dX12_undo_16 : decode cX12_undo 16 = .ok (.iaload, 1) := by decide +kernel
theorem dX12_undo_17 : decode cX12_undo 17 = .ok (.ifCond .ne 6, 3) := by decide +kernel
theorem dX12_undo_20 : decode cX12_undo 20 = .ok (.bipush (-5), 2) := by decide +kernel
theorem dX12_undo_22 : decode cX12_undo 22 = .ok (.ireturn, 1) := by decide +kernel
theorem dX12_undo_23 : decode cX12_undo 23 = .ok (.aload_n 0, 1) := by decide +kernel
theorem dX12_undo_24 : decode cX12_undo 24 = .ok (.getfield 9, 3) := by decide +kernel
theorem dX12_undo_27 : decode cX12_undo 27 = .ok (.bipush 7, 2) := by decide +kernel
theorem dX12_undo_29 : decode cX12_undo 29 = .ok (.dup2, 1) := by decide +kernel
theorem dX12_undo_30 : decode cX12_undo 30 = .ok (.iaload, 1) := by decide +kernel
theorem dX12_undo_31 : decode cX12_undo 31 = .ok (.iconst 1, 1) := by decide +kernel
theorem dX12_undo_32 : decode cX12_undo 32 = .ok (.isub, 1) := by decide +kernel
theorem dX12_undo_33 : decode cX12_undo 33 = .ok (.iastore, 1) := by decide +kernel
theorem dX12_undo_34 : decode cX12_undo 34 = .ok (.aload_n 0, 1) := by decide +kernel
theorem dX12_undo_35 : decode cX12_undo 35 = .ok (.getfield 9, 3) := by decide +kernel
theorem dX12_undo_38 : decode cX12_undo 38 = .ok (.bipush 7, 2) := by decide +kernel
theorem dX12_undo_40 : decode cX12_undo 40 = .ok (.iaload, 1) := by decide +kernel
theorem dX12_undo_41 : decode cX12_undo 41 = .ok (.ireturn, 1) := by decide +kernel
noncomputable def vX12_undo : List Cond := .code yX12_undo cX12_undo 1 (some .int) :: (([.methodLink RX12 261 yX12_isStreet, .instanceMethod yX12_isStreet, .selects RX12 yX12_isStreet yX12_isStreet, .initialized RX12, .fieldLink RX12 9 "IcicleClockModel" "world" "[I"] : List Cond) ++ (wsX120 ++ vX12_isStreet))
theorem iX12_undo_12 : ∀ w ∈ wsX120, w ∈ vX12_undo := fun _ h => List.mem_cons_of_mem _ (List.mem_append_right _ (List.mem_append_left _ h))
theorem gs_X12_undo : Gd vX12_undo := Gd.cons (by decide +kernel) (Gd.app (Gd.r (by decide +kernel)) (Gd.app gwX_12 gs_X12_isStreet))
theorem gg_X12_undo_X12_isStreet : GoodIn vX12_undo (wsV RX12 261 RX12 yX12_isStreet vX12_isStreet) := goodIn_app (goodIn_r _ [1, 2, 3, 4] (by decide +kernel) (by decide +kernel)) (fun w h => ⟨List.mem_cons_of_mem _ (List.mem_append_right _ (List.mem_append_right _ (h))), gs_X12_isStreet w h⟩)
set_option maxHeartbeats 4000000 in
set_option maxRecDepth 100000 in
theorem s_X12_undo (l : Launch) (D : va_G) (cs : Nat → ClassId) (ad : Nat → Nat) (kS : kSt) (K : sK) (hKO : KO K) (hj : wJ ad 218) (g : Nat → va_E) (hW : WF (shp ad K) ad cs g) : sI l yX12_undo vX12_undo { frames := 1, cells := 0, slots := 0, locals := 20 } D cs ad kS [.ref (ad 197)] g (fun r g2 => WF (shp ad K) ad cs g2 ∧ (∀ j, j ≠ 198 → g2 j = g j)) := by
  refine Met.startS (cc := cX12_undo) (maxL := 1) (ret := (some .int)) RX12 rfl (by decide) rfl (Nat.le_of_ble_eq_true rfl) ?_
  intro p e s m below meth c ls X Z hP hl
  have hx := X.1
  have hb := X.2.1
  have hS : va_S (wA ad 218) s.heap s.heap [] := va_S.rf
  have hA : ∀ i, i < 218 → wA ad 218 (ad i) := fun i h => ⟨i, h, rfl⟩
  have hfr : ∀ j, j ≠ 198 → g j = g j := fun _ _ => rfl
  have hl : lv_has ls 1 [(0, .ref (ad 197))] := hl
  refine lv_aload_n hx hb dX12_undo_0 rfl (lv_at hl 0 rfl) ?_
  obtain ⟨fsc_4, hgc_4, hOc_4⟩ := hW.obj (i := 197) (by decide) (sh_197 ad K)
  refine s_calli (q := (RX12, TX12, 40)) (As := []) (rest := []) X Z (s_X12_isStreet l D cs ad kS K hKO hj g hW) (cwV 0 X.2.2.2.2.1 gg_X12_undo_X12_isStreet rfl rfl rfl (by decide +kernel) ⟨Nat.le_of_ble_eq_true rfl, Nat.le_of_ble_eq_true rfl⟩) (by decide) hgc_4 rfl hP hA hS.2.1 hS rfl hl.1 rfl (Nat.le_of_ble_eq_true rfl) dX12_undo_1 ⟨Nat.le_of_ble_eq_true rfl, Nat.le_of_ble_eq_true rfl⟩ (fun r_3 g_2 H locs hw_1 hP hS => ?_)
  obtain ⟨hw_1g, hw_1⟩ := hw_1
  rw [hw_1g] at hP
  refine lv_if_ne (tgt := 10) hx hb dX12_undo_4 (by decide) (fun hc_5 => ?_) (fun hc_5 => ?_)
  · have hhc_5 := n_ne (rfl : r_3.toInt = r_3.toInt) (by decide : (0 : Int32).toInt = 0) hc_5
    refine lv_aload_n hx hb dX12_undo_10 rfl (lv_at hl 0 rfl) ?_
    have hk_6 := hOc_4.ref 1 rfl
    refine q_get X iX12_undo_12 hP (by decide) hgc_4 rfl 1 (by decide) (List.mem_of_getElem? (i := 5) rfl) (v := .ref (ad 198)) hk_6 dX12_undo_11 ?_
    refine lv_bipush (v := 7) hx hb dX12_undo_14 (by decide) ?_
    obtain ⟨fc_7, hgc_7, hFc_7⟩ := hW.arr (i := 198) (by decide) (sh_198 ad K)
    refine q_iald X hP (by decide) hgc_7 (by unfold vp_in; decide) dX12_undo_16 ?_
    refine lv_topi (fun z_8 ez_8 => ?_)
    have hqz_8 : wq (7) z_8.toInt := ez_8 ▸ hFc_7 _
    have hz_8 : 0 ≤ z_8.toInt ∧ z_8.toInt ≤ 40 := by unfold wq at hqz_8; omega
    clear hqz_8
    refine lv_if_ne (tgt := 23) hx hb dX12_undo_17 (by decide) (fun hc_9 => ?_) (fun hc_9 => ?_)
    · have hhc_9 := n_ne (rfl : z_8.toInt = z_8.toInt) (by decide : (0 : Int32).toInt = 0) hc_9
      refine lv_aload_n hx hb dX12_undo_23 rfl (lv_at hl 0 rfl) ?_
      refine q_get X iX12_undo_12 hP (by decide) hgc_4 rfl 1 (by decide) (List.mem_of_getElem? (i := 5) rfl) (v := .ref (ad 198)) hk_6 dX12_undo_24 ?_
      refine lv_bipush (v := 7) hx hb dX12_undo_27 (by decide) ?_
      refine lv_dup2_11 hx hb dX12_undo_29 rfl rfl ?_
      refine q_iald X hP (by decide) hgc_7 (by unfold vp_in; decide) dX12_undo_30 ?_
      refine lv_topi (fun z_10 ez_10 => ?_)
      have hqz_10 : wq (7) z_10.toInt := ez_10 ▸ hFc_7 _
      have hz_10 : 0 ≤ z_10.toInt ∧ z_10.toInt ≤ 40 := by unfold wq at hqz_10; omega
      clear hqz_10
      have hsz_10 : z_10.toInt = z_8.toInt := by rw [ez_10, ez_8]
      refine lv_iconst (v := 1) hx hb dX12_undo_31 (by decide) ?_
      refine lv_isub hx hb dX12_undo_32 ?_
      refine lv_topi (fun z_11 ez_11 => ?_)
      have hz_11 : z_11.toInt = z_10.toInt - 1 := n_sub (rfl : z_10.toInt = z_10.toInt) (by decide : (1 : Int32).toInt = 1) ez_11 (by omega) (by omega)
      have hu_13 : wq (7) (z_11 : Int32).toInt := by unfold wq; omega
      refine s_iast X hP hj hA hS (by decide) hgc_7 (by unfold vp_in; decide) dX12_undo_33 hW (sh_198 ad K) (hFc_7.put hu_13) (fun fc_12 gc_12 H locs ec_12 hFc_12 hgc_12 hfc_12 hWc_12 hP hS => ?_)
      have hg_15 := (hfc_12 197 (by decide)).trans hgc_4
      have hfr_14 : ∀ j, j ≠ 198 → gc_12 j = g j := fun j hj => (hfc_12 j (by omega)).trans (hfr j hj)
      refine lv_aload_n hx hb dX12_undo_34 rfl (lv_at hl 0 rfl) ?_
      refine q_get X iX12_undo_12 hP (by decide) hg_15 rfl 1 (by decide) (List.mem_of_getElem? (i := 5) rfl) (v := .ref (ad 198)) hk_6 dX12_undo_35 ?_
      refine lv_bipush (v := 7) hx hb dX12_undo_38 (by decide) ?_
      refine q_iald X hP (by decide) hgc_12 (by unfold vp_in; decide) dX12_undo_40 ?_
      refine lv_topi (fun z_16 ez_16 => ?_)
      have hqz_16 : wq (7) z_16.toInt := ez_16 ▸ hFc_12 _
      have hz_16 : 0 ≤ z_16.toInt ∧ z_16.toInt ≤ 40 := by unfold wq at hqz_16; omega
      clear hqz_16
      exact q_iret X hP hS ⟨hWc_12, hfr_14⟩ dX12_undo_41
    · have hhc_9 := n_eq (rfl : z_8.toInt = z_8.toInt) (by decide : (0 : Int32).toInt = 0) hc_9
      refine lv_bipush (v := (-5)) hx hb dX12_undo_20 (by decide) ?_
      exact q_iret X hP hS ⟨hW, hfr⟩ dX12_undo_22
  · have hhc_5 := n_eq (rfl : r_3.toInt = r_3.toInt) (by decide : (0 : Int32).toInt = 0) hc_5
    refine lv_bipush (v := (-2)) hx hb dX12_undo_7 (by decide) ?_
    exact q_iret X hP hS ⟨hW, hfr⟩ dX12_undo_9

theorem dX12_anew_0 : decode cX12_anew 0 = .ok (.aload_n 0, 1) := by decide +kernel
theorem dX12_anew_1 : decode cX12_anew 1 = .ok (.invokevirtual 261, 3) := by decide +kernel
theorem dX12_anew_4 : decode cX12_anew 4 = .ok (.ifCond .ne 6, 3) := by decide +kernel
theorem dX12_anew_7 : decode cX12_anew 7 = .ok (.bipush (-2), 2) := by decide +kernel
theorem dX12_anew_9 : decode cX12_anew 9 = .ok (.ireturn, 1) := by decide +kernel
theorem dX12_anew_10 : decode cX12_anew 10 = .ok (.aload_n 0, 1) := by decide +kernel
theorem dX12_anew_11 : decode cX12_anew 11 = .ok (.getfield 9, 3) := by decide +kernel
theorem dX12_anew_14 : decode cX12_anew 14 = .ok (.bipush 7, 2) := by decide +kernel
theorem dX12_anew_16 : decode cX12_anew 16 = .ok (.iaload, 1) := by decide +kernel
theorem dX12_anew_17 : decode cX12_anew 17 = .ok (.istore_n 1, 1) := by decide +kernel
theorem dX12_anew_18 : decode cX12_anew 18 = .ok (.aload_n 0, 1) := by decide +kernel
theorem dX12_anew_19 : decode cX12_anew 19 = .ok (.getfield 9, 3) := by decide +kernel
theorem dX12_anew_22 : decode cX12_anew 22 = .ok (.bipush 7, 2) := by decide +kernel
theorem dX12_anew_24 : decode cX12_anew 24 = .ok (.iconst 0, 1) := by decide +kernel
theorem dX12_anew_25 : decode cX12_anew 25 = .ok (.iastore, 1) := by decide +kernel
theorem dX12_anew_26 : decode cX12_anew 26 = .ok (.iload_n 1, 1) := by decide +kernel
theorem dX12_anew_27 : decode cX12_anew 27 = .ok (.ireturn, 1) := by decide +kernel
noncomputable def vX12_anew : List Cond := .code yX12_anew cX12_anew 2 (some .int) :: (([.methodLink RX12 261 yX12_isStreet, .instanceMethod yX12_isStreet, .selects RX12 yX12_isStreet yX12_isStreet, .initialized RX12, .fieldLink RX12 9 "IcicleClockModel" "world" "[I"] : List Cond) ++ (wsX120 ++ vX12_isStreet))
theorem iX12_anew_12 : ∀ w ∈ wsX120, w ∈ vX12_anew := fun _ h => List.mem_cons_of_mem _ (List.mem_append_right _ (List.mem_append_left _ h))
theorem gs_X12_anew : Gd vX12_anew := Gd.cons (by decide +kernel) (Gd.app (Gd.r (by decide +kernel)) (Gd.app gwX_12 gs_X12_isStreet))
theorem gg_X12_anew_X12_isStreet : GoodIn vX12_anew (wsV RX12 261 RX12 yX12_isStreet vX12_isStreet) := goodIn_app (goodIn_r _ [1, 2, 3, 4] (by decide +kernel) (by decide +kernel)) (fun w h => ⟨List.mem_cons_of_mem _ (List.mem_append_right _ (List.mem_append_right _ (h))), gs_X12_isStreet w h⟩)
set_option maxHeartbeats 4000000 in
set_option maxRecDepth 100000 in
theorem s_X12_anew (l : Launch) (D : va_G) (cs : Nat → ClassId) (ad : Nat → Nat) (kS : kSt) (K : sK) (hKO : KO K) (hj : wJ ad 218) (g : Nat → va_E) (hW : WF (shp ad K) ad cs g) : sI l yX12_anew vX12_anew { frames := 1, cells := 0, slots := 0, locals := 20 } D cs ad kS [.ref (ad 197)] g (fun r g2 => WF (shp ad K) ad cs g2 ∧ (∀ j, j ≠ 198 → g2 j = g j)) := by
  refine Met.startS (cc := cX12_anew) (maxL := 2) (ret := (some .int)) RX12 rfl (by decide) rfl (Nat.le_of_ble_eq_true rfl) ?_
  intro p e s m below meth c ls X Z hP hl
  have hx := X.1
  have hb := X.2.1
  have hS : va_S (wA ad 218) s.heap s.heap [] := va_S.rf
  have hA : ∀ i, i < 218 → wA ad 218 (ad i) := fun i h => ⟨i, h, rfl⟩
  have hfr : ∀ j, j ≠ 198 → g j = g j := fun _ _ => rfl
  have hl : lv_has ls 2 [(0, .ref (ad 197))] := hl
  refine lv_aload_n hx hb dX12_anew_0 rfl (lv_at hl 0 rfl) ?_
  obtain ⟨fsc_4, hgc_4, hOc_4⟩ := hW.obj (i := 197) (by decide) (sh_197 ad K)
  refine s_calli (q := (RX12, TX12, 40)) (As := []) (rest := []) X Z (s_X12_isStreet l D cs ad kS K hKO hj g hW) (cwV 0 X.2.2.2.2.1 gg_X12_anew_X12_isStreet rfl rfl rfl (by decide +kernel) ⟨Nat.le_of_ble_eq_true rfl, Nat.le_of_ble_eq_true rfl⟩) (by decide) hgc_4 rfl hP hA hS.2.1 hS rfl hl.1 rfl (Nat.le_of_ble_eq_true rfl) dX12_anew_1 ⟨Nat.le_of_ble_eq_true rfl, Nat.le_of_ble_eq_true rfl⟩ (fun r_3 g_2 H locs hw_1 hP hS => ?_)
  obtain ⟨hw_1g, hw_1⟩ := hw_1
  rw [hw_1g] at hP
  refine lv_if_ne (tgt := 10) hx hb dX12_anew_4 (by decide) (fun hc_5 => ?_) (fun hc_5 => ?_)
  · have hhc_5 := n_ne (rfl : r_3.toInt = r_3.toInt) (by decide : (0 : Int32).toInt = 0) hc_5
    refine lv_aload_n hx hb dX12_anew_10 rfl (lv_at hl 0 rfl) ?_
    have hk_6 := hOc_4.ref 1 rfl
    refine q_get X iX12_anew_12 hP (by decide) hgc_4 rfl 1 (by decide) (List.mem_of_getElem? (i := 5) rfl) (v := .ref (ad 198)) hk_6 dX12_anew_11 ?_
    refine lv_bipush (v := 7) hx hb dX12_anew_14 (by decide) ?_
    obtain ⟨fc_7, hgc_7, hFc_7⟩ := hW.arr (i := 198) (by decide) (sh_198 ad K)
    refine q_iald X hP (by decide) hgc_7 (by unfold vp_in; decide) dX12_anew_16 ?_
    refine lv_topi (fun z_8 ez_8 => ?_)
    have hqz_8 : wq (7) z_8.toInt := ez_8 ▸ hFc_7 _
    have hz_8 : 0 ≤ z_8.toInt ∧ z_8.toInt ≤ 40 := by unfold wq at hqz_8; omega
    clear hqz_8
    refine lv_istore_n (lv' := [(1, .int z_8), (0, .ref (ad 197))]) hx hb dX12_anew_17 rfl hl (by decide) rfl (fun ls hl => ?_)
    refine lv_aload_n hx hb dX12_anew_18 rfl (lv_at hl 1 rfl) ?_
    refine q_get X iX12_anew_12 hP (by decide) hgc_4 rfl 1 (by decide) (List.mem_of_getElem? (i := 5) rfl) (v := .ref (ad 198)) hk_6 dX12_anew_19 ?_
    refine lv_bipush (v := 7) hx hb dX12_anew_22 (by decide) ?_
    refine lv_iconst (v := 0) hx hb dX12_anew_24 (by decide) ?_
    have hu_10 : wq (7) (0 : Int32).toInt := by rw [(by decide : (0 : Int32).toInt = 0)]; unfold wq; omega
    refine s_iast X hP hj hA hS (by decide) hgc_7 (by unfold vp_in; decide) dX12_anew_25 hW (sh_198 ad K) (hFc_7.put hu_10) (fun fc_9 gc_9 H locs ec_9 hFc_9 hgc_9 hfc_9 hWc_9 hP hS => ?_)
    have hg_12 := (hfc_9 197 (by decide)).trans hgc_4
    have hfr_11 : ∀ j, j ≠ 198 → gc_9 j = g j := fun j hj => (hfc_9 j (by omega)).trans (hfr j hj)
    refine lv_iload_n hx hb dX12_anew_26 rfl (lv_at hl 0 rfl) ?_
    exact q_iret X hP hS ⟨hWc_9, hfr_11⟩ dX12_anew_27
  · have hhc_5 := n_eq (rfl : r_3.toInt = r_3.toInt) (by decide : (0 : Int32).toInt = 0) hc_5
    refine lv_bipush (v := (-2)) hx hb dX12_anew_7 (by decide) ?_
    exact q_iret X hP hS ⟨hW, hfr⟩ dX12_anew_9

theorem dX12_hung_0 : decode cX12_hung 0 = .ok (.aload_n 0, 1) := by decide +kernel
theorem dX12_hung_1 : decode cX12_hung 1 = .ok (.iload_n 1, 1) := by decide +kernel
theorem dX12_hung_2 : decode cX12_hung 2 = .ok (.i2l, 1) := by decide +kernel
theorem dX12_hung_3 : decode cX12_hung 3 = .ok (.invokevirtual 221, 3) := by decide +kernel
theorem dX12_hung_6 : decode cX12_hung 6 = .ok (.ifCond .eq 15, 3) := by decide +kernel
theorem dX12_hung_9 : decode cX12_hung 9 = .ok (.iload_n 2, 1) := by decide +kernel
theorem dX12_hung_10 : decode cX12_hung 10 = .ok (.i2l, 1) := by decide +kernel
theorem dX12_hung_11 : decode cX12_hung 11 = .ok (.lconst 1, 1) := by decide +kernel
theorem dX12_hung_12 : decode cX12_hung 12 = .ok (.ldc2_w 427, 3) := by decide +kernel
theorem dX12_hung_15 : decode cX12_hung 15 = .ok (.invokestatic 82, 3) := by decide +kernel
theorem dX12_hung_18 : decode cX12_hung 18 = .ok (.ifCond .ne 6, 3) := by decide +kernel
theorem dX12_hung_24 : decode cX12_hung 24 = .ok (.aload_n 0, 1) := by decide +kernel
theorem dX12_hung_25 : decode cX12_hung 25 = .ok (.getfield 9, 3) := by decide +kernel
theorem dX12_hung_28 : decode cX12_hung 28 = .ok (.bipush 7, 2) := by decide +kernel
theorem dX12_hung_30 : decode cX12_hung 30 = .ok (.iaload, 1) := by decide +kernel
theorem dX12_hung_31 : decode cX12_hung 31 = .ok (.ifCond .le 6, 3) := by decide +kernel
theorem dX12_hung_34 : decode cX12_hung 34 = .ok (.bipush (-5), 2) := by decide +kernel
theorem dX12_hung_36 : decode cX12_hung 36 = .ok (.ireturn, 1) := by decide +kernel
theorem dX12_hung_37 : decode cX12_hung 37 = .ok (.aload_n 0, 1) := by decide +kernel
theorem dX12_hung_38 : decode cX12_hung 38 = .ok (.iload_n 1, 1) := by decide +kernel
theorem dX12_hung_39 : decode cX12_hung 39 = .ok (.iconst 1, 1) := by decide +kernel
theorem dX12_hung_40 : decode cX12_hung 40 = .ok (.invokevirtual 225, 3) := by decide +kernel
theorem dX12_hung_43 : decode cX12_hung 43 = .ok (.istore_n 3, 1) := by decide +kernel
theorem dX12_hung_44 : decode cX12_hung 44 = .ok (.aload_n 0, 1) := by decide +kernel
theorem dX12_hung_45 : decode cX12_hung 45 = .ok (.getfield 9, 3) := by decide +kernel
theorem dX12_hung_48 : decode cX12_hung 48 = .ok (.bipush 42, 2) := by decide +kernel
theorem dX12_hung_50 : decode cX12_hung 50 = .ok (.iconst 3, 1) := by decide +kernel
theorem dX12_hung_51 : decode cX12_hung 51 = .ok (.iload_n 1, 1) := by decide +kernel
theorem dX12_hung_52 : decode cX12_hung 52 = .ok (.imul, 1) := by decide +kernel
theorem dX12_hung_53 : decode cX12_hung 53 = .ok (.iadd, 1) := by decide +kernel
theorem dX12_hung_54 : decode cX12_hung 54 = .ok (.iconst 1, 1) := by decide +kernel
theorem dX12_hung_55 : decode cX12_hung 55 = .ok (.iadd, 1) := by decide +kernel
theorem dX12_hung_56 : decode cX12_hung 56 = .ok (.iload_n 2, 1) := by decide +kernel
theorem dX12_hung_57 : decode cX12_hung 57 = .ok (.iastore, 1) := by decide +kernel
theorem dX12_hung_58 : decode cX12_hung 58 = .ok (.iload_n 3, 1) := by decide +kernel
theorem dX12_hung_59 : decode cX12_hung 59 = .ok (.ireturn, 1) := by decide +kernel
theorem dX12_hung_21 : decode cX12_hung 21 = .ok (.bipush (-2), 2) := by decide +kernel
theorem dX12_hung_23 : decode cX12_hung 23 = .ok (.ireturn, 1) := by decide +kernel
noncomputable def vX12_hung : List Cond := .code yX12_hung cX12_hung 4 (some .int) :: (([.methodLink RX12 221 yX12_isIcicle, .instanceMethod yX12_isIcicle, .selects RX12 yX12_isIcicle yX12_isIcicle, .initialized RX12, .constantLong RX12 427 (99), .methodLink RX12 82 yX12_in, .static yX12_in, .fieldLink RX12 9 "IcicleClockModel" "world" "[I", .methodLink RX12 225 yX12_of, .instanceMethod yX12_of, .selects RX12 yX12_of yX12_of] : List Cond) ++ (wsX120 ++ (vX12_isIcicle ++ (vX12_in ++ vX12_of))))
theorem iX12_hung_12 : ∀ w ∈ wsX120, w ∈ vX12_hung := fun _ h => List.mem_cons_of_mem _ (List.mem_append_right _ (List.mem_append_left _ h))
theorem gs_X12_hung : Gd vX12_hung := Gd.cons (by decide +kernel) (Gd.app (Gd.r (by decide +kernel)) (Gd.app gwX_12 (Gd.app gs_X12_isIcicle (Gd.app gs_X12_in gs_X12_of))))
theorem gg_X12_hung_X12_isIcicle : GoodIn vX12_hung (wsV RX12 221 RX12 yX12_isIcicle vX12_isIcicle) := goodIn_app (goodIn_r _ [1, 2, 3, 4] (by decide +kernel) (by decide +kernel)) (fun w h => ⟨List.mem_cons_of_mem _ (List.mem_append_right _ (List.mem_append_right _ (List.mem_append_left _ h))), gs_X12_isIcicle w h⟩)
theorem gg_X12_hung_X12_in : GoodIn vX12_hung (wsS RX12 82 yX12_in vX12_in) := goodIn_app (goodIn_r _ [6, 7, 4] (by decide +kernel) (by decide +kernel)) (fun w h => ⟨List.mem_cons_of_mem _ (List.mem_append_right _ (List.mem_append_right _ (List.mem_append_right _ (List.mem_append_left _ h)))), gs_X12_in w h⟩)
theorem gg_X12_hung_X12_of : GoodIn vX12_hung (wsV RX12 225 RX12 yX12_of vX12_of) := goodIn_app (goodIn_r _ [9, 10, 11, 4] (by decide +kernel) (by decide +kernel)) (fun w h => ⟨List.mem_cons_of_mem _ (List.mem_append_right _ (List.mem_append_right _ (List.mem_append_right _ (List.mem_append_right _ (h))))), gs_X12_of w h⟩)
set_option maxHeartbeats 4000000 in
set_option maxRecDepth 100000 in
theorem s_X12_hung (l : Launch) (D : va_G) (cs : Nat → ClassId) (ad : Nat → Nat) (kS : kSt) (K : sK) (hKO : KO K) (hj : wJ ad 218) (g : Nat → va_E) (hW : WF (shp ad K) ad cs g) (ic : Int32) (nn : Int32) : sI l yX12_hung vX12_hung { frames := 2, cells := 0, slots := 0, locals := 47 } D cs ad kS [.ref (ad 197), .int ic, .int nn] g (fun r g2 => WF (shp ad K) ad cs g2 ∧ (∀ j, j ≠ 198 → g2 j = g j)) := by
  refine Met.startS (cc := cX12_hung) (maxL := 4) (ret := (some .int)) RX12 rfl (by decide) rfl (Nat.le_of_ble_eq_true rfl) ?_
  intro p e s m below meth c ls X Z hP hl
  have hx := X.1
  have hb := X.2.1
  have hS : va_S (wA ad 218) s.heap s.heap [] := va_S.rf
  have hA : ∀ i, i < 218 → wA ad 218 (ad i) := fun i h => ⟨i, h, rfl⟩
  have hfr : ∀ j, j ≠ 198 → g j = g j := fun _ _ => rfl
  have hl : lv_has ls 4 [(0, .ref (ad 197)), (1, .int ic), (2, .int nn)] := hl
  refine lv_aload_n hx hb dX12_hung_0 rfl (lv_at hl 0 rfl) ?_
  refine lv_iload_n hx hb dX12_hung_1 rfl (lv_at hl 1 rfl) ?_
  refine lv_i2l hx hb dX12_hung_2 rfl ?_
  refine lv_topl (fun z_1 ez_1 => ?_)
  have hz_1 : z_1.toInt = ic.toInt := ez_1 ▸ j_of rfl
  have := n_hi ic
  have := n_lo ic
  obtain ⟨fsc_5, hgc_5, hOc_5⟩ := hW.obj (i := 197) (by decide) (sh_197 ad K)
  refine s_calli (q := (RX12, TX12, 40)) (As := [.long z_1]) (rest := []) X Z (s_X12_isIcicle l D cs ad kS K hKO hj g hW z_1) (cwV 1 X.2.2.2.2.1 gg_X12_hung_X12_isIcicle rfl rfl rfl (by decide +kernel) ⟨Nat.le_of_ble_eq_true rfl, Nat.le_of_ble_eq_true rfl⟩) (by decide) hgc_5 rfl hP hA hS.2.1 hS rfl hl.1 rfl (Nat.le_of_ble_eq_true rfl) dX12_hung_3 ⟨Nat.le_of_ble_eq_true rfl, Nat.le_of_ble_eq_true rfl⟩ (fun r_4 g_3 H locs hw_2 hP hS => ?_)
  obtain ⟨hw_2g, hw_2⟩ := hw_2
  rw [hw_2g] at hP
  have HJ21 : ∀ (G21 : Nat → va_E) (H : Heap) (locs : List Loc) (ls : Array Slot), WF (shp ad K) ad cs G21 → (∀ j, j ≠ 198 → G21 j = g j) → G21 197 = .inr (12, fsc_5) → va_P D vwCl (wL ad G21 218) H → va_S (wA ad 218) s.heap H locs → lv_has ls 4 [] → W p l e ({ frames := 2, cells := 0, slots := 0, locals := 47 } : Room) s m ([.ref (ad 197), .int ic, .int nn] : List Value).toArray below meth c H locs 0 0 (MQ below (qI D ad 218 (fun r g2 => WF (shp ad K) ad cs g2 ∧ (∀ j, j ≠ 198 → g2 j = g j))) ([.ref (ad 197), .int ic, .int nn] : List Value).toArray s 0 0 (wA ad 218)) (F0 m 21 ls []) := by
    intro G21 H locs ls hW21 hfr21 hg21_0 hP hS hl
    refine lv_bipush (v := (-2)) hx hb dX12_hung_21 (by decide) ?_
    exact q_iret X hP hS ⟨hW21, hfr21⟩ dX12_hung_23
  refine lv_if_eq (tgt := 21) hx hb dX12_hung_6 (by decide) (fun hc_6 => ?_) (fun hc_6 => ?_)
  · have hhc_6 := n_eq (rfl : r_4.toInt = r_4.toInt) (by decide : (0 : Int32).toInt = 0) hc_6
    exact HJ21 g _ _ ls hW hfr hgc_5 hP hS (lv_sub hl [] rfl)
  · have hhc_6 := n_ne (rfl : r_4.toInt = r_4.toInt) (by decide : (0 : Int32).toInt = 0) hc_6
    refine lv_iload_n hx hb dX12_hung_9 rfl (lv_at hl 2 rfl) ?_
    refine lv_i2l hx hb dX12_hung_10 rfl ?_
    refine lv_topl (fun z_7 ez_7 => ?_)
    have hz_7 : z_7.toInt = nn.toInt := ez_7 ▸ j_of rfl
    have := n_hi nn
    have := n_lo nn
    refine lv_lconst (v := 1) hx hb dX12_hung_11 (by decide) ?_
    refine lv_ldc2 (v := 99) hx hb X.2.2.2.2.2.1 (X.2.2.2.2.1 _ (List.mem_of_getElem? (i := 5) rfl)) dX12_hung_12 ?_
    refine s_callSi (As := [.long z_7, .long 1, .long 99]) (rest := []) X Z (s_X12_in l D cs ad kS K hKO hj g hW z_7 1 99) (cwS 3 X.2.2.2.2.1 gg_X12_hung_X12_in rfl rfl rfl (by decide +kernel) ⟨Nat.le_of_ble_eq_true rfl, Nat.le_of_ble_eq_true rfl⟩) hP hA hS.2.1 hS rfl hl.1 rfl (Nat.le_of_ble_eq_true rfl) dX12_hung_15 ⟨Nat.le_of_ble_eq_true rfl, Nat.le_of_ble_eq_true rfl⟩ (fun r_10 g_9 H locs hw_8 hP hS => ?_)
    obtain ⟨hw_8g, hw_8⟩ := hw_8
    rw [hw_8g] at hP
    have hqk_11 : (1 : Int64).toInt = 1 := by decide
    have hqk_12 : (99 : Int64).toInt = 99 := by decide
    refine lv_if_ne (tgt := 24) hx hb dX12_hung_18 (by decide) (fun hc_13 => ?_) (fun hc_13 => ?_)
    · have hhc_13 := n_ne (rfl : r_10.toInt = r_10.toInt) (by decide : (0 : Int32).toInt = 0) hc_13
      refine lv_aload_n hx hb dX12_hung_24 rfl (lv_at hl 0 rfl) ?_
      have hk_14 := hOc_5.ref 1 rfl
      refine q_get X iX12_hung_12 hP (by decide) hgc_5 rfl 1 (by decide) (List.mem_of_getElem? (i := 8) rfl) (v := .ref (ad 198)) hk_14 dX12_hung_25 ?_
      refine lv_bipush (v := 7) hx hb dX12_hung_28 (by decide) ?_
      obtain ⟨fc_15, hgc_15, hFc_15⟩ := hW.arr (i := 198) (by decide) (sh_198 ad K)
      refine q_iald X hP (by decide) hgc_15 (by unfold vp_in; decide) dX12_hung_30 ?_
      refine lv_topi (fun z_16 ez_16 => ?_)
      have hqz_16 : wq (7) z_16.toInt := ez_16 ▸ hFc_15 _
      have hz_16 : 0 ≤ z_16.toInt ∧ z_16.toInt ≤ 40 := by unfold wq at hqz_16; omega
      clear hqz_16
      refine lv_if_le (tgt := 37) hx hb dX12_hung_31 (by decide) (fun hc_17 => ?_) (fun hc_17 => ?_)
      · have hhc_17 := n_le (rfl : z_16.toInt = z_16.toInt) (by decide : (0 : Int32).toInt = 0) hc_17
        refine lv_aload_n hx hb dX12_hung_37 rfl (lv_at hl 0 rfl) ?_
        refine lv_iload_n hx hb dX12_hung_38 rfl (lv_at hl 1 rfl) ?_
        refine lv_iconst (v := 1) hx hb dX12_hung_39 (by decide) ?_
        have hqk_18 : (1 : Int32).toInt = 1 := by decide
        refine s_calli (q := (RX12, TX12, 40)) (As := [.int ic, .int 1]) (rest := []) X Z (s_X12_of l D cs ad kS K hKO hj g hW ic 1 (by omega) (by omega)) (cwV 2 X.2.2.2.2.1 gg_X12_hung_X12_of rfl rfl rfl (by decide +kernel) ⟨Nat.le_of_ble_eq_true rfl, Nat.le_of_ble_eq_true rfl⟩) (by decide) hgc_5 rfl hP hA hS.2.1 hS rfl hl.1 rfl (Nat.le_of_ble_eq_true rfl) dX12_hung_40 ⟨Nat.le_of_ble_eq_true rfl, Nat.le_of_ble_eq_true rfl⟩ (fun r_21 g_20 H locs hw_19 hP hS => ?_)
        obtain ⟨hw_19g, hw_19⟩ := hw_19
        rw [hw_19g] at hP
        have hqk_22 : (1 : Int32).toInt = 1 := by decide
        refine lv_istore_n (lv' := [(3, .int r_21), (0, .ref (ad 197)), (1, .int ic), (2, .int nn)]) hx hb dX12_hung_43 rfl hl (by decide) rfl (fun ls hl => ?_)
        refine lv_aload_n hx hb dX12_hung_44 rfl (lv_at hl 1 rfl) ?_
        refine q_get X iX12_hung_12 hP (by decide) hgc_5 rfl 1 (by decide) (List.mem_of_getElem? (i := 8) rfl) (v := .ref (ad 198)) hk_14 dX12_hung_45 ?_
        refine lv_bipush (v := 42) hx hb dX12_hung_48 (by decide) ?_
        refine lv_iconst (v := 3) hx hb dX12_hung_50 (by decide) ?_
        refine lv_iload_n hx hb dX12_hung_51 rfl (lv_at hl 2 rfl) ?_
        refine lv_imul hx hb dX12_hung_52 ?_
        refine lv_topi (fun z_23 ez_23 => ?_)
        have hz_23 : z_23.toInt = 3 * ic.toInt := n_mul (by decide : (3 : Int32).toInt = 3) (rfl : ic.toInt = ic.toInt) ez_23 (by omega) (by omega)
        refine lv_iadd hx hb dX12_hung_53 ?_
        refine lv_topi (fun z_24 ez_24 => ?_)
        have hz_24 : z_24.toInt = 42 + z_23.toInt := n_add (by decide : (42 : Int32).toInt = 42) (rfl : z_23.toInt = z_23.toInt) ez_24 (by omega) (by omega)
        refine lv_iconst (v := 1) hx hb dX12_hung_54 (by decide) ?_
        refine lv_iadd hx hb dX12_hung_55 ?_
        refine lv_topi (fun z_25 ez_25 => ?_)
        have hz_25 : z_25.toInt = z_24.toInt + 1 := n_add (rfl : z_24.toInt = z_24.toInt) (by decide : (1 : Int32).toInt = 1) ez_25 (by omega) (by omega)
        refine lv_iload_n hx hb dX12_hung_56 rfl (lv_at hl 3 rfl) ?_
        have hc_57 := n_cl (rfl : z_25.toInt = z_25.toInt) (by omega)
        have hu_27 : wq (z_25.toNatClampNeg) (nn : Int32).toInt := by unfold wq; omega
        refine s_iast X hP hj hA hS (by decide) hgc_15 (n_in (rfl : z_25.toInt = z_25.toInt) (by omega) (by omega)) dX12_hung_57 hW (sh_198 ad K) (hFc_15.put hu_27) (fun fc_26 gc_26 H locs ec_26 hFc_26 hgc_26 hfc_26 hWc_26 hP hS => ?_)
        have hg_29 := (hfc_26 197 (by decide)).trans hgc_5
        have hfr_28 : ∀ j, j ≠ 198 → gc_26 j = g j := fun j hj => (hfc_26 j (by omega)).trans (hfr j hj)
        refine lv_iload_n hx hb dX12_hung_58 rfl (lv_at hl 0 rfl) ?_
        exact q_iret X hP hS ⟨hWc_26, hfr_28⟩ dX12_hung_59
      · have hhc_17 := n_nle (rfl : z_16.toInt = z_16.toInt) (by decide : (0 : Int32).toInt = 0) hc_17
        refine lv_bipush (v := (-5)) hx hb dX12_hung_34 (by decide) ?_
        exact q_iret X hP hS ⟨hW, hfr⟩ dX12_hung_36
    · have hhc_13 := n_eq (rfl : r_10.toInt = r_10.toInt) (by decide : (0 : Int32).toInt = 0) hc_13
      exact HJ21 g _ _ ls hW hfr hgc_5 hP hS (lv_sub hl [] rfl)

theorem dX12_goDrawn_0 : decode cX12_goDrawn 0 = .ok (.lload_n 1, 1) := by decide +kernel
theorem dX12_goDrawn_1 : decode cX12_goDrawn 1 = .ok (.lstore_n 3, 1) := by decide +kernel
theorem dX12_goDrawn_2 : decode cX12_goDrawn 2 = .ok (.aload_n 0, 1) := by decide +kernel
theorem dX12_goDrawn_3 : decode cX12_goDrawn 3 = .ok (.iconst 0, 1) := by decide +kernel
theorem dX12_goDrawn_4 : decode cX12_goDrawn 4 = .ok (.putfield 403, 3) := by decide +kernel
theorem dX12_goDrawn_7 : decode cX12_goDrawn 7 = .ok (.iconst 0, 1) := by decide +kernel
theorem dX12_goDrawn_8 : decode cX12_goDrawn 8 = .ok (.istore 5, 2) := by decide +kernel
theorem dX12_goDrawn_10 : decode cX12_goDrawn 10 = .ok (.iload 5, 2) := by decide +kernel
theorem dX12_goDrawn_12 : decode cX12_goDrawn 12 = .ok (.aload_n 0, 1) := by decide +kernel
theorem dX12_goDrawn_13 : decode cX12_goDrawn 13 = .ok (.getfield 9, 3) := by decide +kernel
theorem dX12_goDrawn_16 : decode cX12_goDrawn 16 = .ok (.iconst 3, 1) := by decide +kernel
theorem dX12_goDrawn_17 : decode cX12_goDrawn 17 = .ok (.iaload, 1) := by decide +kernel
theorem dX12_goDrawn_18 : decode cX12_goDrawn 18 = .ok (.if_icmp .ge 72, 3) := by decide +kernel
theorem dX12_goDrawn_21 : decode cX12_goDrawn 21 = .ok (.aload_n 0, 1) := by decide +kernel
theorem dX12_goDrawn_22 : decode cX12_goDrawn 22 = .ok (.iload 5, 2) := by decide +kernel
theorem dX12_goDrawn_24 : decode cX12_goDrawn 24 = .ok (.invokevirtual 350, 3) := by decide +kernel
theorem dX12_goDrawn_27 : decode cX12_goDrawn 27 = .ok (.ifCond .ne 6, 3) := by decide +kernel
theorem dX12_goDrawn_30 : decode cX12_goDrawn 30 = .ok (.goto 54, 3) := by decide +kernel
theorem dX12_goDrawn_33 : decode cX12_goDrawn 33 = .ok (.ldc2_w 406, 3) := by decide +kernel
theorem dX12_goDrawn_36 : decode cX12_goDrawn 36 = .ok (.lload_n 3, 1) := by decide +kernel
theorem dX12_goDrawn_37 : decode cX12_goDrawn 37 = .ok (.lmul, 1) := by decide +kernel
theorem dX12_goDrawn_38 : decode cX12_goDrawn 38 = .ok (.ldc2_w 408, 3) := by decide +kernel
theorem dX12_goDrawn_41 : decode cX12_goDrawn 41 = .ok (.ladd, 1) := by decide +kernel
theorem dX12_goDrawn_42 : decode cX12_goDrawn 42 = .ok (.ldc2_w 410, 3) := by decide +kernel
theorem dX12_goDrawn_45 : decode cX12_goDrawn 45 = .ok (.lrem, 1) := by decide +kernel
theorem dX12_goDrawn_46 : decode cX12_goDrawn 46 = .ok (.lstore_n 3, 1) := by decide +kernel
theorem dX12_goDrawn_47 : decode cX12_goDrawn 47 = .ok (.aload_n 0, 1) := by decide +kernel
theorem dX12_goDrawn_48 : decode cX12_goDrawn 48 = .ok (.dup, 1) := by decide +kernel
theorem dX12_goDrawn_49 : decode cX12_goDrawn 49 = .ok (.getfield 403, 3) := by decide +kernel
theorem dX12_goDrawn_52 : decode cX12_goDrawn 52 = .ok (.lload_n 3, 1) := by decide +kernel
theorem dX12_goDrawn_53 : decode cX12_goDrawn 53 = .ok (.ldc2_w 412, 3) := by decide +kernel
theorem dX12_goDrawn_56 : decode cX12_goDrawn 56 = .ok (.ldiv, 1) := by decide +kernel
theorem dX12_goDrawn_57 : decode cX12_goDrawn 57 = .ok (.ldc2_w 414, 3) := by decide +kernel
theorem dX12_goDrawn_60 : decode cX12_goDrawn 60 = .ok (.lrem, 1) := by decide +kernel
theorem dX12_goDrawn_61 : decode cX12_goDrawn 61 = .ok (.aload_n 0, 1) := by decide +kernel
theorem dX12_goDrawn_62 : decode cX12_goDrawn 62 = .ok (.getfield 9, 3) := by decide +kernel
theorem dX12_goDrawn_65 : decode cX12_goDrawn 65 = .ok (.iconst 2, 1) := by decide +kernel
theorem dX12_goDrawn_66 : decode cX12_goDrawn 66 = .ok (.iaload, 1) := by decide +kernel
theorem dX12_goDrawn_67 : decode cX12_goDrawn 67 = .ok (.i2l, 1) := by decide +kernel
theorem dX12_goDrawn_68 : decode cX12_goDrawn 68 = .ok (.lcmp, 1) := by decide +kernel
theorem dX12_goDrawn_69 : decode cX12_goDrawn 69 = .ok (.ifCond .ge 10, 3) := by decide +kernel
theorem dX12_goDrawn_72 : decode cX12_goDrawn 72 = .ok (.iconst 1, 1) := by decide +kernel
theorem dX12_goDrawn_73 : decode cX12_goDrawn 73 = .ok (.iload 5, 2) := by decide +kernel
theorem dX12_goDrawn_75 : decode cX12_goDrawn 75 = .ok (.ishl, 1) := by decide +kernel
theorem dX12_goDrawn_76 : decode cX12_goDrawn 76 = .ok (.goto 4, 3) := by decide +kernel
theorem dX12_goDrawn_79 : decode cX12_goDrawn 79 = .ok (.iconst 0, 1) := by decide +kernel
theorem dX12_goDrawn_80 : decode cX12_goDrawn 80 = .ok (.ior, 1) := by decide +kernel
theorem dX12_goDrawn_81 : decode cX12_goDrawn 81 = .ok (.putfield 403, 3) := by decide +kernel
theorem dX12_goDrawn_84 : decode cX12_goDrawn 84 = .ok (.iinc 5 1, 3) := by decide +kernel
theorem dX12_goDrawn_87 : decode cX12_goDrawn 87 = .ok (.goto (-77), 3) := by decide +kernel
theorem dX12_goDrawn_90 : decode cX12_goDrawn 90 = .ok (.aload_n 0, 1) := by decide +kernel
theorem dX12_goDrawn_91 : decode cX12_goDrawn 91 = .ok (.aload_n 0, 1) := by decide +kernel
theorem dX12_goDrawn_92 : decode cX12_goDrawn 92 = .ok (.getfield 403, 3) := by decide +kernel
theorem dX12_goDrawn_95 : decode cX12_goDrawn 95 = .ok (.invokevirtual 240, 3) := by decide +kernel
theorem dX12_goDrawn_98 : decode cX12_goDrawn 98 = .ok (.aload_n 0, 1) := by decide +kernel
theorem dX12_goDrawn_99 : decode cX12_goDrawn 99 = .ok (.invokevirtual 243, 3) := by decide +kernel
theorem dX12_goDrawn_102 : decode cX12_goDrawn 102 = .ok (.return_, 1) := by decide +kernel
noncomputable def vX12_goDrawn : List Cond := .code yX12_goDrawn cX12_goDrawn 6 none :: (([.fieldLink RX12 403 "IcicleClockModel" "warmSet" "I", .fieldLink RX12 9 "IcicleClockModel" "world" "[I", .methodLink RX12 350 yX12_isThaw, .instanceMethod yX12_isThaw, .selects RX12 yX12_isThaw yX12_isThaw, .initialized RX12, .constantLong RX12 406 (1103515245), .constantLong RX12 408 (12345), .constantLong RX12 410 (2147483648), .constantLong RX12 412 (65536), .constantLong RX12 414 (10), .methodLink RX12 240 yX12_layOff, .instanceMethod yX12_layOff, .selects RX12 yX12_layOff yX12_layOff, .methodLink RX12 243 yX12_layFalls, .instanceMethod yX12_layFalls, .selects RX12 yX12_layFalls yX12_layFalls] : List Cond) ++ (wsX120 ++ (vX12_isThaw ++ (vX12_layOff ++ vX12_layFalls))))
theorem iX12_goDrawn_12 : ∀ w ∈ wsX120, w ∈ vX12_goDrawn := fun _ h => List.mem_cons_of_mem _ (List.mem_append_right _ (List.mem_append_left _ h))
theorem gs_X12_goDrawn : Gd vX12_goDrawn := Gd.cons (by decide +kernel) (Gd.app (Gd.r (by decide +kernel)) (Gd.app gwX_12 (Gd.app gs_X12_isThaw (Gd.app gs_X12_layOff gs_X12_layFalls))))
theorem gg_X12_goDrawn_X12_isThaw : GoodIn vX12_goDrawn (wsV RX12 350 RX12 yX12_isThaw vX12_isThaw) := goodIn_app (goodIn_r _ [3, 4, 5, 6] (by decide +kernel) (by decide +kernel)) (fun w h => ⟨List.mem_cons_of_mem _ (List.mem_append_right _ (List.mem_append_right _ (List.mem_append_left _ h))), gs_X12_isThaw w h⟩)
theorem gg_X12_goDrawn_X12_layOff : GoodIn vX12_goDrawn (wsV RX12 240 RX12 yX12_layOff vX12_layOff) := goodIn_app (goodIn_r _ [12, 13, 14, 6] (by decide +kernel) (by decide +kernel)) (fun w h => ⟨List.mem_cons_of_mem _ (List.mem_append_right _ (List.mem_append_right _ (List.mem_append_right _ (List.mem_append_left _ h)))), gs_X12_layOff w h⟩)
theorem gg_X12_goDrawn_X12_layFalls : GoodIn vX12_goDrawn (wsV RX12 243 RX12 yX12_layFalls vX12_layFalls) := goodIn_app (goodIn_r _ [15, 16, 17, 6] (by decide +kernel) (by decide +kernel)) (fun w h => ⟨List.mem_cons_of_mem _ (List.mem_append_right _ (List.mem_append_right _ (List.mem_append_right _ (List.mem_append_right _ (h))))), gs_X12_layFalls w h⟩)
set_option maxHeartbeats 4000000 in
set_option maxRecDepth 100000 in
theorem s_X12_goDrawn (l : Launch) (D : va_G) (cs : Nat → ClassId) (ad : Nat → Nat) (kS : kSt) (K : sK) (hKO : KO K) (hj : wJ ad 218) (g : Nat → va_E) (hW : WF (shp ad K) ad cs g) (sd : Int64) : sV l yX12_goDrawn vX12_goDrawn { frames := 2, cells := 0, slots := 0, locals := 45 } D cs ad kS [.ref (ad 197), .long sd] g (fun g2 => WF (shp ad K) ad cs g2 ∧ (∀ j, j ≠ 197 ∧ j ≠ 204 ∧ j ≠ 205 → g2 j = g j)) := by
  refine Met.startS (cc := cX12_goDrawn) (maxL := 6) (ret := none) RX12 rfl (by decide) rfl (Nat.le_of_ble_eq_true rfl) ?_
  intro p e s m below meth c ls X Z hP hl
  have hx := X.1
  have hb := X.2.1
  have hS : va_S (wA ad 218) s.heap s.heap [] := va_S.rf
  have hA : ∀ i, i < 218 → wA ad 218 (ad i) := fun i h => ⟨i, h, rfl⟩
  have hfr : ∀ j, j ≠ 197 ∧ j ≠ 204 ∧ j ≠ 205 → g j = g j := fun _ _ => rfl
  have hl : lv_has ls 6 [(0, .ref (ad 197)), (1, .long sd)] := hl
  refine lv_lload_n hx hb dX12_goDrawn_0 rfl (lv_at hl 1 rfl) ?_
  refine lv_lstore_n (lv' := [(3, .long sd), (0, .ref (ad 197)), (1, .long sd)]) hx hb dX12_goDrawn_1 rfl hl (by decide) rfl (fun ls hl => ?_)
  refine lv_aload_n hx hb dX12_goDrawn_2 rfl (lv_at hl 1 rfl) ?_
  refine lv_iconst (v := 0) hx hb dX12_goDrawn_3 (by decide) ?_
  obtain ⟨fsc_1, hgc_1, hOc_1⟩ := hW.obj (i := 197) (by decide) (sh_197 ad K)
  refine s_put X iX12_goDrawn_12 tyX12 tyX12_ok nmX12 hP hj hA hS (by decide) hgc_1 rfl 35 (by decide) (List.mem_of_getElem? (i := 1) rfl) rfl (ty := .int) (v := .int 0) (by decide +kernel) rfl rfl dX12_goDrawn_4 hW (sh_197 ad K) hOc_1 rfl ⟨0, rfl, n_lo _, n_hi _⟩ (fun fsc_2 gc_2 H locs hOc_2 hkc_2 hnc_2 hgc_2 hfc_2 hWc_2 hP hS => ?_)
  have hfr_3 : ∀ j, j ≠ 197 ∧ j ≠ 204 ∧ j ≠ 205 → gc_2 j = g j := fun j hj => (hfc_2 j (by omega)).trans (hfr j hj)
  refine lv_iconst (v := 0) hx hb dX12_goDrawn_7 (by decide) ?_
  refine lv_istore (lv' := [(5, .int 0), (3, .long sd), (0, .ref (ad 197)), (1, .long sd)]) hx hb dX12_goDrawn_8 hl (by decide) rfl (fun ls hl => ?_)
  have HL10 : ∀ (n10 : Nat) (v10_5 : Int32) (v10_3 : Int64) (G10 : Nat → va_E) (H : Heap) (locs : List Loc) (ls : Array Slot), (14 - v10_5.toInt).toNat < n10 → (0 ≤ v10_5.toInt ∧ v10_5.toInt ≤ 14) → WF (shp ad K) ad cs G10 → (∀ j, j ≠ 197 ∧ j ≠ 204 ∧ j ≠ 205 → G10 j = g j) → va_P D vwCl (wL ad G10 218) H → va_S (wA ad 218) s.heap H locs → lv_has ls 6 [(5, .int v10_5), (3, .long v10_3), (0, .ref (ad 197))] → W p l e ({ frames := 2, cells := 0, slots := 0, locals := 45 } : Room) s m ([.ref (ad 197), .long sd] : List Value).toArray below meth c H locs 0 0 (MQ below (qV D ad 218 (fun g2 => WF (shp ad K) ad cs g2 ∧ (∀ j, j ≠ 197 ∧ j ≠ 204 ∧ j ≠ 205 → g2 j = g j))) ([.ref (ad 197), .long sd] : List Value).toArray s 0 0 (wA ad 218)) (F0 m 10 ls []) := by
    intro n10
    induction n10 with
    | zero =>
      intro v10_5 v10_3 G10 H locs ls hm10 hv10_0 hW10 hfr10 hP hS hl
      exact absurd hm10 (Nat.not_lt_zero _)
    | succ n10 ih10 =>
      intro v10_5 v10_3 G10 H locs ls hm10 hv10_0 hW10 hfr10 hP hS hl
      refine lv_iload hx hb dX12_goDrawn_10 (lv_at hl 0 rfl) ?_
      refine lv_aload_n hx hb dX12_goDrawn_12 rfl (lv_at hl 2 rfl) ?_
      obtain ⟨fsc_4, hgc_4, hOc_4⟩ := hW10.obj (i := 197) (by decide) (sh_197 ad K)
      have hk_5 := hOc_4.ref 1 rfl
      refine q_get X iX12_goDrawn_12 hP (by decide) hgc_4 rfl 1 (by decide) (List.mem_of_getElem? (i := 2) rfl) (v := .ref (ad 198)) hk_5 dX12_goDrawn_13 ?_
      refine lv_iconst (v := 3) hx hb dX12_goDrawn_16 (by decide) ?_
      obtain ⟨fc_6, hgc_6, hFc_6⟩ := hW10.arr (i := 198) (by decide) (sh_198 ad K)
      refine q_iald X hP (by decide) hgc_6 (by unfold vp_in; decide) dX12_goDrawn_17 ?_
      refine lv_topi (fun z_7 ez_7 => ?_)
      have hqz_7 : wq (3) z_7.toInt := ez_7 ▸ hFc_6 _
      have hz_7 : 0 ≤ z_7.toInt ∧ z_7.toInt ≤ 14 := by unfold wq at hqz_7; omega
      clear hqz_7
      refine lv_icmp_ge (tgt := 90) hx hb dX12_goDrawn_18 (by decide) (fun hc_8 => ?_) (fun hc_8 => ?_)
      · have hhc_8 := n_le (rfl : z_7.toInt = z_7.toInt) (rfl : v10_5.toInt = v10_5.toInt) hc_8
        refine lv_aload_n hx hb dX12_goDrawn_90 rfl (lv_at hl 2 rfl) ?_
        refine lv_aload_n hx hb dX12_goDrawn_91 rfl (lv_at hl 2 rfl) ?_
        obtain ⟨x_10, hk_9, -⟩ := hOc_4.int 35 rfl
        refine q_get X iX12_goDrawn_12 hP (by decide) hgc_4 rfl 35 (by decide) (List.mem_of_getElem? (i := 1) rfl) (v := .int x_10) hk_9 dX12_goDrawn_92 ?_
        refine s_callv (q := (RX12, TX12, 40)) (As := [.int x_10]) (rest := []) X Z (s_X12_layOff l D cs ad kS K hKO hj G10 hW10 x_10) (cwV 1 X.2.2.2.2.1 gg_X12_goDrawn_X12_layOff rfl rfl rfl (by decide +kernel) ⟨Nat.le_of_ble_eq_true rfl, Nat.le_of_ble_eq_true rfl⟩) (by decide) hgc_4 rfl hP hA hS.2.1 hS rfl hl.1 rfl (Nat.le_of_ble_eq_true rfl) dX12_goDrawn_95 ⟨Nat.le_of_ble_eq_true rfl, Nat.le_of_ble_eq_true rfl⟩ (fun g_12 H locs hw_11 hP hS => ?_)
        obtain ⟨hw_11W, hw_11f⟩ := hw_11
        have hfr_14 : ∀ j, j ≠ 197 ∧ j ≠ 204 ∧ j ≠ 205 → g_12 j = g j := fun j hj => (hw_11f j (by omega)).trans (hfr10 j hj)
        have hg_15 := (hw_11f 198 (by omega)).trans hgc_6
        refine lv_aload_n hx hb dX12_goDrawn_98 rfl (lv_at hl 2 rfl) ?_
        obtain ⟨fsc_19, hgc_19, hOc_19⟩ := hw_11W.obj (i := 197) (by decide) (sh_197 ad K)
        refine s_callv (q := (RX12, TX12, 40)) (As := []) (rest := []) X Z (s_X12_layFalls l D cs ad kS K hKO hj g_12 hw_11W) (cwV 0 X.2.2.2.2.1 gg_X12_goDrawn_X12_layFalls rfl rfl rfl (by decide +kernel) ⟨Nat.le_of_ble_eq_true rfl, Nat.le_of_ble_eq_true rfl⟩) (by decide) hgc_19 rfl hP hA hS.2.1 hS rfl hl.1 rfl (Nat.le_of_ble_eq_true rfl) dX12_goDrawn_99 ⟨Nat.le_of_ble_eq_true rfl, Nat.le_of_ble_eq_true rfl⟩ (fun g_17 H locs hw_16 hP hS => ?_)
        obtain ⟨hw_16W, hw_16f⟩ := hw_16
        have hfr_20 : ∀ j, j ≠ 197 ∧ j ≠ 204 ∧ j ≠ 205 → g_17 j = g j := fun j hj => (hw_16f j (by omega)).trans (hfr_14 j hj)
        have hg_21 := (hw_16f 198 (by omega)).trans hg_15
        have hg_22 := (hw_16f 197 (by omega)).trans hgc_19
        exact q_vret X hP hS ⟨hw_16W, hfr_20⟩ dX12_goDrawn_102
      · have hhc_8 := n_nle (rfl : z_7.toInt = z_7.toInt) (rfl : v10_5.toInt = v10_5.toInt) hc_8
        refine lv_aload_n hx hb dX12_goDrawn_21 rfl (lv_at hl 2 rfl) ?_
        refine lv_iload hx hb dX12_goDrawn_22 (lv_at hl 0 rfl) ?_
        refine s_calli (q := (RX12, TX12, 40)) (As := [.int v10_5]) (rest := []) X Z (s_X12_isThaw l D cs ad kS K hKO hj G10 hW10 v10_5 (by omega)) (cwV 1 X.2.2.2.2.1 gg_X12_goDrawn_X12_isThaw rfl rfl rfl (by decide +kernel) ⟨Nat.le_of_ble_eq_true rfl, Nat.le_of_ble_eq_true rfl⟩) (by decide) hgc_4 rfl hP hA hS.2.1 hS rfl hl.1 rfl (Nat.le_of_ble_eq_true rfl) dX12_goDrawn_24 ⟨Nat.le_of_ble_eq_true rfl, Nat.le_of_ble_eq_true rfl⟩ (fun r_25 g_24 H locs hw_23 hP hS => ?_)
        obtain ⟨hw_23g, hw_23⟩ := hw_23
        rw [hw_23g] at hP
        have HJ84 : ∀ (v84_3 : Int64) (G84 : Nat → va_E) (H : Heap) (locs : List Loc) (ls : Array Slot), WF (shp ad K) ad cs G84 → (∀ j, j ≠ 197 ∧ j ≠ 204 ∧ j ≠ 205 → G84 j = g j) → G84 198 = .inl (cs 1, 118, .inl fc_6) → va_P D vwCl (wL ad G84 218) H → va_S (wA ad 218) s.heap H locs → lv_has ls 6 [(5, .int v10_5), (3, .long v84_3), (0, .ref (ad 197))] → W p l e ({ frames := 2, cells := 0, slots := 0, locals := 45 } : Room) s m ([.ref (ad 197), .long sd] : List Value).toArray below meth c H locs 0 0 (MQ below (qV D ad 218 (fun g2 => WF (shp ad K) ad cs g2 ∧ (∀ j, j ≠ 197 ∧ j ≠ 204 ∧ j ≠ 205 → g2 j = g j))) ([.ref (ad 197), .long sd] : List Value).toArray s 0 0 (wA ad 218)) (F0 m 84 ls []) := by
          intro v84_3 G84 H locs ls hW84 hfr84 hg84_0 hP hS hl
          obtain ⟨x_26, ex_26⟩ : ∃ y : Int32, y = v10_5 + 1 := ⟨_, rfl⟩
          have hx_26 : x_26.toInt = v10_5.toInt + 1 := n_add rfl (by decide : (1 : Int32).toInt = 1) ex_26 (by omega) (by omega)
          refine lv_iinc (v := x_26) (lv' := [(5, .int x_26), (3, .long v84_3), (0, .ref (ad 197))]) hx hb dX12_goDrawn_84 hl (k := 0) rfl (by rw [ex_26]; rfl) (by decide) rfl (fun ls hl => ?_)
          refine lv_goto (tgt := 10) hx hb dX12_goDrawn_87 (by decide) ?_
          exact ih10 x_26 v84_3 G84 _ _ ls (by omega) (by omega) hW84 hfr84 hP hS (lv_sub hl [0, 1, 2] rfl)
        refine lv_if_ne (tgt := 33) hx hb dX12_goDrawn_27 (by decide) (fun hc_27 => ?_) (fun hc_27 => ?_)
        · have hhc_27 := n_ne (rfl : r_25.toInt = r_25.toInt) (by decide : (0 : Int32).toInt = 0) hc_27
          refine lv_ldc2 (v := 1103515245) hx hb X.2.2.2.2.2.1 (X.2.2.2.2.1 _ (List.mem_of_getElem? (i := 7) rfl)) dX12_goDrawn_33 ?_
          refine lv_lload_n hx hb dX12_goDrawn_36 rfl (lv_at hl 1 rfl) ?_
          refine lv_lmul hx hb dX12_goDrawn_37 ?_
          refine lv_topl (fun z_28 ez_28 => ?_)
          refine lv_ldc2 (v := 12345) hx hb X.2.2.2.2.2.1 (X.2.2.2.2.1 _ (List.mem_of_getElem? (i := 8) rfl)) dX12_goDrawn_38 ?_
          refine lv_ladd hx hb dX12_goDrawn_41 ?_
          refine lv_topl (fun z_29 ez_29 => ?_)
          refine lv_ldc2 (v := 2147483648) hx hb X.2.2.2.2.2.1 (X.2.2.2.2.1 _ (List.mem_of_getElem? (i := 9) rfl)) dX12_goDrawn_42 ?_
          refine lv_lrem hx hb dX12_goDrawn_45 (by decide) ?_
          refine lv_topl (fun z_30 ez_30 => ?_)
          refine lv_lstore_n (lv' := [(3, .long z_30), (5, .int v10_5), (0, .ref (ad 197))]) hx hb dX12_goDrawn_46 rfl hl (by decide) rfl (fun ls hl => ?_)
          refine lv_aload_n hx hb dX12_goDrawn_47 rfl (lv_at hl 2 rfl) ?_
          refine lv_dup hx hb dX12_goDrawn_48 rfl ?_
          obtain ⟨x_32, hk_31, -⟩ := hOc_4.int 35 rfl
          refine q_get X iX12_goDrawn_12 hP (by decide) hgc_4 rfl 35 (by decide) (List.mem_of_getElem? (i := 1) rfl) (v := .int x_32) hk_31 dX12_goDrawn_49 ?_
          refine lv_lload_n hx hb dX12_goDrawn_52 rfl (lv_at hl 0 rfl) ?_
          refine lv_ldc2 (v := 65536) hx hb X.2.2.2.2.2.1 (X.2.2.2.2.1 _ (List.mem_of_getElem? (i := 10) rfl)) dX12_goDrawn_53 ?_
          refine lv_ldiv hx hb dX12_goDrawn_56 (by decide) ?_
          refine lv_topl (fun z_33 ez_33 => ?_)
          refine lv_ldc2 (v := 10) hx hb X.2.2.2.2.2.1 (X.2.2.2.2.1 _ (List.mem_of_getElem? (i := 11) rfl)) dX12_goDrawn_57 ?_
          refine lv_lrem hx hb dX12_goDrawn_60 (by decide) ?_
          refine lv_topl (fun z_34 ez_34 => ?_)
          refine lv_aload_n hx hb dX12_goDrawn_61 rfl (lv_at hl 2 rfl) ?_
          refine q_get X iX12_goDrawn_12 hP (by decide) hgc_4 rfl 1 (by decide) (List.mem_of_getElem? (i := 2) rfl) (v := .ref (ad 198)) hk_5 dX12_goDrawn_62 ?_
          refine lv_iconst (v := 2) hx hb dX12_goDrawn_65 (by decide) ?_
          refine q_iald X hP (by decide) hgc_6 (by unfold vp_in; decide) dX12_goDrawn_66 ?_
          refine lv_topi (fun z_35 ez_35 => ?_)
          have hqz_35 : wq (2) z_35.toInt := ez_35 ▸ hFc_6 _
          clear hqz_35
          refine lv_i2l hx hb dX12_goDrawn_67 rfl ?_
          refine lv_topl (fun z_36 ez_36 => ?_)
          have hz_36 : z_36.toInt = z_35.toInt := ez_36 ▸ j_of rfl
          have := n_hi z_35
          have := n_lo z_35
          refine W.lcmp hx hb dX12_goDrawn_68 ?_
          refine lv_if_ge (tgt := 79) hx hb dX12_goDrawn_69 (by decide) (fun hc_37 => ?_) (fun hc_37 => ?_)
          · have hhc_37 := j_cgeP (rfl : z_34.toInt = z_34.toInt) (rfl : z_36.toInt = z_36.toInt) hc_37
            refine lv_iconst (v := 0) hx hb dX12_goDrawn_79 (by decide) ?_
            refine lv_ior hx hb dX12_goDrawn_80 ?_
            refine lv_topi (fun z_38 ez_38 => ?_)
            refine s_put X iX12_goDrawn_12 tyX12 tyX12_ok nmX12 hP hj hA hS (by decide) hgc_4 rfl 35 (by decide) (List.mem_of_getElem? (i := 1) rfl) rfl (ty := .int) (v := .int z_38) (by decide +kernel) rfl rfl dX12_goDrawn_81 hW10 (sh_197 ad K) hOc_4 rfl ⟨z_38, rfl, n_lo _, n_hi _⟩ (fun fsc_39 gc_39 H locs hOc_39 hkc_39 hnc_39 hgc_39 hfc_39 hWc_39 hP hS => ?_)
            have hk_40 := (hnc_39 1 (by decide)).trans hk_5
            have hg_42 := (hfc_39 198 (by decide)).trans hgc_6
            have hfr_41 : ∀ j, j ≠ 197 ∧ j ≠ 204 ∧ j ≠ 205 → gc_39 j = g j := fun j hj => (hfc_39 j (by omega)).trans (hfr10 j hj)
            exact HJ84 z_30 gc_39 _ _ ls hWc_39 hfr_41 hg_42 hP hS (lv_sub hl [1, 0, 2] rfl)
          · have hhc_37 := j_cltN (rfl : z_34.toInt = z_34.toInt) (rfl : z_36.toInt = z_36.toInt) hc_37
            refine lv_iconst (v := 1) hx hb dX12_goDrawn_72 (by decide) ?_
            refine lv_iload hx hb dX12_goDrawn_73 (lv_at hl 1 rfl) ?_
            refine lv_ishl hx hb dX12_goDrawn_75 ?_
            refine lv_topi (fun z_43 ez_43 => ?_)
            refine lv_goto (tgt := 80) hx hb dX12_goDrawn_76 (by decide) ?_
            refine lv_ior hx hb dX12_goDrawn_80 ?_
            refine lv_topi (fun z_44 ez_44 => ?_)
            refine s_put X iX12_goDrawn_12 tyX12 tyX12_ok nmX12 hP hj hA hS (by decide) hgc_4 rfl 35 (by decide) (List.mem_of_getElem? (i := 1) rfl) rfl (ty := .int) (v := .int z_44) (by decide +kernel) rfl rfl dX12_goDrawn_81 hW10 (sh_197 ad K) hOc_4 rfl ⟨z_44, rfl, n_lo _, n_hi _⟩ (fun fsc_45 gc_45 H locs hOc_45 hkc_45 hnc_45 hgc_45 hfc_45 hWc_45 hP hS => ?_)
            have hk_46 := (hnc_45 1 (by decide)).trans hk_5
            have hg_48 := (hfc_45 198 (by decide)).trans hgc_6
            have hfr_47 : ∀ j, j ≠ 197 ∧ j ≠ 204 ∧ j ≠ 205 → gc_45 j = g j := fun j hj => (hfc_45 j (by omega)).trans (hfr10 j hj)
            exact HJ84 z_30 gc_45 _ _ ls hWc_45 hfr_47 hg_48 hP hS (lv_sub hl [1, 0, 2] rfl)
        · have hhc_27 := n_eq (rfl : r_25.toInt = r_25.toInt) (by decide : (0 : Int32).toInt = 0) hc_27
          refine lv_goto (tgt := 84) hx hb dX12_goDrawn_30 (by decide) ?_
          exact HJ84 v10_3 G10 _ _ ls hW10 hfr10 hgc_6 hP hS (lv_sub hl [0, 1, 2] rfl)
  have hiv10_5 : (0 : Int32).toInt = 0 := by decide
  exact HL10 _ 0 sd gc_2 _ _ ls (Nat.lt_succ_self _) (by omega) hWc_2 hfr_3 hP hS (lv_sub hl [0, 1, 2] rfl)

theorem dX12_drawn_0 : decode cX12_drawn 0 = .ok (.aload_n 0, 1) := by decide +kernel
theorem dX12_drawn_1 : decode cX12_drawn 1 = .ok (.invokevirtual 261, 3) := by decide +kernel
theorem dX12_drawn_4 : decode cX12_drawn 4 = .ok (.ifCond .eq 22, 3) := by decide +kernel
theorem dX12_drawn_7 : decode cX12_drawn 7 = .ok (.iload_n 1, 1) := by decide +kernel
theorem dX12_drawn_8 : decode cX12_drawn 8 = .ok (.invokestatic 418, 3) := by decide +kernel
theorem dX12_drawn_11 : decode cX12_drawn 11 = .ok (.ifCond .eq 15, 3) := by decide +kernel
theorem dX12_drawn_14 : decode cX12_drawn 14 = .ok (.iload_n 2, 1) := by decide +kernel
theorem dX12_drawn_15 : decode cX12_drawn 15 = .ok (.i2l, 1) := by decide +kernel
theorem dX12_drawn_16 : decode cX12_drawn 16 = .ok (.lconst 0, 1) := by decide +kernel
theorem dX12_drawn_17 : decode cX12_drawn 17 = .ok (.ldc2_w 80, 3) := by decide +kernel
theorem dX12_drawn_20 : decode cX12_drawn 20 = .ok (.invokestatic 82, 3) := by decide +kernel
theorem dX12_drawn_23 : decode cX12_drawn 23 = .ok (.ifCond .ne 6, 3) := by decide +kernel
theorem dX12_drawn_29 : decode cX12_drawn 29 = .ok (.aload_n 0, 1) := by decide +kernel
theorem dX12_drawn_30 : decode cX12_drawn 30 = .ok (.iload_n 1, 1) := by decide +kernel
theorem dX12_drawn_31 : decode cX12_drawn 31 = .ok (.i2l, 1) := by decide +kernel
theorem dX12_drawn_32 : decode cX12_drawn 32 = .ok (.invokevirtual 421, 3) := by decide +kernel
theorem dX12_drawn_35 : decode cX12_drawn 35 = .ok (.iload_n 2, 1) := by decide +kernel
theorem dX12_drawn_36 : decode cX12_drawn 36 = .ok (.ifCond .ne 8, 3) := by decide +kernel
theorem dX12_drawn_39 : decode cX12_drawn 39 = .ok (.aload_n 0, 1) := by decide +kernel
theorem dX12_drawn_40 : decode cX12_drawn 40 = .ok (.getfield 403, 3) := by decide +kernel
theorem dX12_drawn_43 : decode cX12_drawn 43 = .ok (.ireturn, 1) := by decide +kernel
theorem dX12_drawn_44 : decode cX12_drawn 44 = .ok (.iload_n 2, 1) := by decide +kernel
theorem dX12_drawn_45 : decode cX12_drawn 45 = .ok (.iconst 2, 1) := by decide +kernel
theorem dX12_drawn_46 : decode cX12_drawn 46 = .ok (.if_icmp .ne 26, 3) := by decide +kernel
theorem dX12_drawn_49 : decode cX12_drawn 49 = .ok (.aload_n 0, 1) := by decide +kernel
theorem dX12_drawn_50 : decode cX12_drawn 50 = .ok (.getfield 231, 3) := by decide +kernel
theorem dX12_drawn_53 : decode cX12_drawn 53 = .ok (.ifCond .ne 7, 3) := by decide +kernel
theorem dX12_drawn_56 : decode cX12_drawn 56 = .ok (.iconst (-1), 1) := by decide +kernel
theorem dX12_drawn_57 : decode cX12_drawn 57 = .ok (.goto 14, 3) := by decide +kernel
theorem dX12_drawn_60 : decode cX12_drawn 60 = .ok (.aload_n 0, 1) := by decide +kernel
theorem dX12_drawn_61 : decode cX12_drawn 61 = .ok (.iconst (-1), 1) := by decide +kernel
theorem dX12_drawn_62 : decode cX12_drawn 62 = .ok (.aload_n 0, 1) := by decide +kernel
theorem dX12_drawn_63 : decode cX12_drawn 63 = .ok (.getfield 231, 3) := by decide +kernel
theorem dX12_drawn_66 : decode cX12_drawn 66 = .ok (.iconst 1, 1) := by decide +kernel
theorem dX12_drawn_67 : decode cX12_drawn 67 = .ok (.isub, 1) := by decide +kernel
theorem dX12_drawn_68 : decode cX12_drawn 68 = .ok (.invokevirtual 267, 3) := by decide +kernel
theorem dX12_drawn_71 : decode cX12_drawn 71 = .ok (.ireturn, 1) := by decide +kernel
theorem dX12_drawn_72 : decode cX12_drawn 72 = .ok (.iconst 0, 1) := by decide +kernel
theorem dX12_drawn_73 : decode cX12_drawn 73 = .ok (.istore_n 3, 1) := by decide +kernel
theorem dX12_drawn_74 : decode cX12_drawn 74 = .ok (.iconst 0, 1) := by decide +kernel
theorem dX12_drawn_75 : decode cX12_drawn 75 = .ok (.istore 4, 2) := by decide +kernel
theorem dX12_drawn_77 : decode cX12_drawn 77 = .ok (.iload 4, 2) := by decide +kernel
theorem dX12_drawn_79 : decode cX12_drawn 79 = .ok (.aload_n 0, 1) := by decide +kernel
theorem dX12_drawn_80 : decode cX12_drawn 80 = .ok (.getfield 9, 3) := by decide +kernel
theorem dX12_drawn_83 : decode cX12_drawn 83 = .ok (.iconst 5, 1) := by decide +kernel
theorem dX12_drawn_84 : decode cX12_drawn 84 = .ok (.iaload, 1) := by decide +kernel
theorem dX12_drawn_85 : decode cX12_drawn 85 = .ok (.if_icmp .ge 31, 3) := by decide +kernel
theorem dX12_drawn_88 : decode cX12_drawn 88 = .ok (.iload_n 3, 1) := by decide +kernel
theorem dX12_drawn_89 : decode cX12_drawn 89 = .ok (.aload_n 0, 1) := by decide +kernel
theorem dX12_drawn_90 : decode cX12_drawn 90 = .ok (.getfield 37, 3) := by decide +kernel
theorem dX12_drawn_93 : decode cX12_drawn 93 = .ok (.iload 4, 2) := by decide +kernel
theorem dX12_drawn_95 : decode cX12_drawn 95 = .ok (.iaload, 1) := by decide +kernel
theorem dX12_drawn_96 : decode cX12_drawn 96 = .ok (.iconst (-1), 1) := by decide +kernel
theorem dX12_drawn_97 : decode cX12_drawn 97 = .ok (.if_icmp .ne 7, 3) := by decide +kernel
theorem dX12_drawn_100 : decode cX12_drawn 100 = .ok (.iconst 0, 1) := by decide +kernel
theorem dX12_drawn_101 : decode cX12_drawn 101 = .ok (.goto 7, 3) := by decide +kernel
theorem dX12_drawn_104 : decode cX12_drawn 104 = .ok (.iconst 1, 1) := by decide +kernel
theorem dX12_drawn_105 : decode cX12_drawn 105 = .ok (.iload 4, 2) := by decide +kernel
theorem dX12_drawn_107 : decode cX12_drawn 107 = .ok (.ishl, 1) := by decide +kernel
theorem dX12_drawn_108 : decode cX12_drawn 108 = .ok (.ior, 1) := by decide +kernel
theorem dX12_drawn_109 : decode cX12_drawn 109 = .ok (.istore_n 3, 1) := by decide +kernel
theorem dX12_drawn_110 : decode cX12_drawn 110 = .ok (.iinc 4 1, 3) := by decide +kernel
theorem dX12_drawn_113 : decode cX12_drawn 113 = .ok (.goto (-36), 3) := by decide +kernel
theorem dX12_drawn_116 : decode cX12_drawn 116 = .ok (.iload_n 3, 1) := by decide +kernel
theorem dX12_drawn_117 : decode cX12_drawn 117 = .ok (.ireturn, 1) := by decide +kernel
theorem dX12_drawn_26 : decode cX12_drawn 26 = .ok (.bipush (-2), 2) := by decide +kernel
theorem dX12_drawn_28 : decode cX12_drawn 28 = .ok (.ireturn, 1) := by decide +kernel
noncomputable def vX12_drawn : List Cond := .code yX12_drawn cX12_drawn 5 (some .int) :: (([.methodLink RX12 261 yX12_isStreet, .instanceMethod yX12_isStreet, .selects RX12 yX12_isStreet yX12_isStreet, .initialized RX12, .methodLink RX12 418 yX12_isSeed, .static yX12_isSeed, .constantLong RX12 80 (2), .methodLink RX12 82 yX12_in, .static yX12_in, .methodLink RX12 421 yX12_goDrawn, .instanceMethod yX12_goDrawn, .selects RX12 yX12_goDrawn yX12_goDrawn, .fieldLink RX12 403 "IcicleClockModel" "warmSet" "I", .fieldLink RX12 231 "IcicleClockModel" "days" "I", .methodLink RX12 267 yX12_timeOf, .instanceMethod yX12_timeOf, .selects RX12 yX12_timeOf yX12_timeOf, .fieldLink RX12 9 "IcicleClockModel" "world" "[I", .fieldLink RX12 37 "IcicleClockModel" "fell" "[I"] : List Cond) ++ (wsX120 ++ (vX12_isStreet ++ (vX12_isSeed ++ (vX12_in ++ (vX12_goDrawn ++ vX12_timeOf))))))
theorem iX12_drawn_12 : ∀ w ∈ wsX120, w ∈ vX12_drawn := fun _ h => List.mem_cons_of_mem _ (List.mem_append_right _ (List.mem_append_left _ h))
theorem gs_X12_drawn : Gd vX12_drawn := Gd.cons (by decide +kernel) (Gd.app (Gd.r (by decide +kernel)) (Gd.app gwX_12 (Gd.app gs_X12_isStreet (Gd.app gs_X12_isSeed (Gd.app gs_X12_in (Gd.app gs_X12_goDrawn gs_X12_timeOf))))))
theorem gg_X12_drawn_X12_isStreet : GoodIn vX12_drawn (wsV RX12 261 RX12 yX12_isStreet vX12_isStreet) := goodIn_app (goodIn_r _ [1, 2, 3, 4] (by decide +kernel) (by decide +kernel)) (fun w h => ⟨List.mem_cons_of_mem _ (List.mem_append_right _ (List.mem_append_right _ (List.mem_append_left _ h))), gs_X12_isStreet w h⟩)
theorem gg_X12_drawn_X12_isSeed : GoodIn vX12_drawn (wsS RX12 418 yX12_isSeed vX12_isSeed) := goodIn_app (goodIn_r _ [5, 6, 4] (by decide +kernel) (by decide +kernel)) (fun w h => ⟨List.mem_cons_of_mem _ (List.mem_append_right _ (List.mem_append_right _ (List.mem_append_right _ (List.mem_append_left _ h)))), gs_X12_isSeed w h⟩)
theorem gg_X12_drawn_X12_in : GoodIn vX12_drawn (wsS RX12 82 yX12_in vX12_in) := goodIn_app (goodIn_r _ [8, 9, 4] (by decide +kernel) (by decide +kernel)) (fun w h => ⟨List.mem_cons_of_mem _ (List.mem_append_right _ (List.mem_append_right _ (List.mem_append_right _ (List.mem_append_right _ (List.mem_append_left _ h))))), gs_X12_in w h⟩)
theorem gg_X12_drawn_X12_goDrawn : GoodIn vX12_drawn (wsV RX12 421 RX12 yX12_goDrawn vX12_goDrawn) := goodIn_app (goodIn_r _ [10, 11, 12, 4] (by decide +kernel) (by decide +kernel)) (fun w h => ⟨List.mem_cons_of_mem _ (List.mem_append_right _ (List.mem_append_right _ (List.mem_append_right _ (List.mem_append_right _ (List.mem_append_right _ (List.mem_append_left _ h)))))), gs_X12_goDrawn w h⟩)
theorem gg_X12_drawn_X12_timeOf : GoodIn vX12_drawn (wsV RX12 267 RX12 yX12_timeOf vX12_timeOf) := goodIn_app (goodIn_r _ [15, 16, 17, 4] (by decide +kernel) (by decide +kernel)) (fun w h => ⟨List.mem_cons_of_mem _ (List.mem_append_right _ (List.mem_append_right _ (List.mem_append_right _ (List.mem_append_right _ (List.mem_append_right _ (List.mem_append_right _ (h))))))), gs_X12_timeOf w h⟩)
set_option maxHeartbeats 4000000 in
set_option maxRecDepth 100000 in
theorem s_X12_drawn (l : Launch) (D : va_G) (cs : Nat → ClassId) (ad : Nat → Nat) (kS : kSt) (K : sK) (hKO : KO K) (hj : wJ ad 218) (g : Nat → va_E) (hW : WF (shp ad K) ad cs g) (sd : Int32) (wh : Int32) : sI l yX12_drawn vX12_drawn { frames := 3, cells := 0, slots := 0, locals := 70 } D cs ad kS [.ref (ad 197), .int sd, .int wh] g (fun r g2 => WF (shp ad K) ad cs g2 ∧ (∀ j, j ≠ 197 ∧ j ≠ 204 ∧ j ≠ 205 → g2 j = g j)) := by
  refine Met.startS (cc := cX12_drawn) (maxL := 5) (ret := (some .int)) RX12 rfl (by decide) rfl (Nat.le_of_ble_eq_true rfl) ?_
  intro p e s m below meth c ls X Z hP hl
  have hx := X.1
  have hb := X.2.1
  have hS : va_S (wA ad 218) s.heap s.heap [] := va_S.rf
  have hA : ∀ i, i < 218 → wA ad 218 (ad i) := fun i h => ⟨i, h, rfl⟩
  have hfr : ∀ j, j ≠ 197 ∧ j ≠ 204 ∧ j ≠ 205 → g j = g j := fun _ _ => rfl
  have hl : lv_has ls 5 [(0, .ref (ad 197)), (1, .int sd), (2, .int wh)] := hl
  refine lv_aload_n hx hb dX12_drawn_0 rfl (lv_at hl 0 rfl) ?_
  obtain ⟨fsc_4, hgc_4, hOc_4⟩ := hW.obj (i := 197) (by decide) (sh_197 ad K)
  refine s_calli (q := (RX12, TX12, 40)) (As := []) (rest := []) X Z (s_X12_isStreet l D cs ad kS K hKO hj g hW) (cwV 0 X.2.2.2.2.1 gg_X12_drawn_X12_isStreet rfl rfl rfl (by decide +kernel) ⟨Nat.le_of_ble_eq_true rfl, Nat.le_of_ble_eq_true rfl⟩) (by decide) hgc_4 rfl hP hA hS.2.1 hS rfl hl.1 rfl (Nat.le_of_ble_eq_true rfl) dX12_drawn_1 ⟨Nat.le_of_ble_eq_true rfl, Nat.le_of_ble_eq_true rfl⟩ (fun r_3 g_2 H locs hw_1 hP hS => ?_)
  obtain ⟨hw_1g, hw_1⟩ := hw_1
  rw [hw_1g] at hP
  have HJ26 : ∀ (G26 : Nat → va_E) (H : Heap) (locs : List Loc) (ls : Array Slot), WF (shp ad K) ad cs G26 → (∀ j, j ≠ 197 ∧ j ≠ 204 ∧ j ≠ 205 → G26 j = g j) → G26 197 = .inr (12, fsc_4) → va_P D vwCl (wL ad G26 218) H → va_S (wA ad 218) s.heap H locs → lv_has ls 5 [] → W p l e ({ frames := 3, cells := 0, slots := 0, locals := 70 } : Room) s m ([.ref (ad 197), .int sd, .int wh] : List Value).toArray below meth c H locs 0 0 (MQ below (qI D ad 218 (fun r g2 => WF (shp ad K) ad cs g2 ∧ (∀ j, j ≠ 197 ∧ j ≠ 204 ∧ j ≠ 205 → g2 j = g j))) ([.ref (ad 197), .int sd, .int wh] : List Value).toArray s 0 0 (wA ad 218)) (F0 m 26 ls []) := by
    intro G26 H locs ls hW26 hfr26 hg26_0 hP hS hl
    refine lv_bipush (v := (-2)) hx hb dX12_drawn_26 (by decide) ?_
    exact q_iret X hP hS ⟨hW26, hfr26⟩ dX12_drawn_28
  refine lv_if_eq (tgt := 26) hx hb dX12_drawn_4 (by decide) (fun hc_5 => ?_) (fun hc_5 => ?_)
  · have hhc_5 := n_eq (rfl : r_3.toInt = r_3.toInt) (by decide : (0 : Int32).toInt = 0) hc_5
    exact HJ26 g _ _ ls hW hfr hgc_4 hP hS (lv_sub hl [] rfl)
  · have hhc_5 := n_ne (rfl : r_3.toInt = r_3.toInt) (by decide : (0 : Int32).toInt = 0) hc_5
    refine lv_iload_n hx hb dX12_drawn_7 rfl (lv_at hl 1 rfl) ?_
    refine s_callSi (As := [.int sd]) (rest := []) X Z (s_X12_isSeed l D cs ad kS K hKO hj g hW sd) (cwS 1 X.2.2.2.2.1 gg_X12_drawn_X12_isSeed rfl rfl rfl (by decide +kernel) ⟨Nat.le_of_ble_eq_true rfl, Nat.le_of_ble_eq_true rfl⟩) hP hA hS.2.1 hS rfl hl.1 rfl (Nat.le_of_ble_eq_true rfl) dX12_drawn_8 ⟨Nat.le_of_ble_eq_true rfl, Nat.le_of_ble_eq_true rfl⟩ (fun r_8 g_7 H locs hw_6 hP hS => ?_)
    obtain ⟨hw_6g, hw_6⟩ := hw_6
    rw [hw_6g] at hP
    refine lv_if_eq (tgt := 26) hx hb dX12_drawn_11 (by decide) (fun hc_9 => ?_) (fun hc_9 => ?_)
    · have hhc_9 := n_eq (rfl : r_8.toInt = r_8.toInt) (by decide : (0 : Int32).toInt = 0) hc_9
      exact HJ26 g _ _ ls hW hfr hgc_4 hP hS (lv_sub hl [] rfl)
    · have hhc_9 := n_ne (rfl : r_8.toInt = r_8.toInt) (by decide : (0 : Int32).toInt = 0) hc_9
      refine lv_iload_n hx hb dX12_drawn_14 rfl (lv_at hl 2 rfl) ?_
      refine lv_i2l hx hb dX12_drawn_15 rfl ?_
      refine lv_topl (fun z_10 ez_10 => ?_)
      have hz_10 : z_10.toInt = wh.toInt := ez_10 ▸ j_of rfl
      have := n_hi wh
      have := n_lo wh
      refine lv_lconst (v := 0) hx hb dX12_drawn_16 (by decide) ?_
      refine lv_ldc2 (v := 2) hx hb X.2.2.2.2.2.1 (X.2.2.2.2.1 _ (List.mem_of_getElem? (i := 7) rfl)) dX12_drawn_17 ?_
      refine s_callSi (As := [.long z_10, .long 0, .long 2]) (rest := []) X Z (s_X12_in l D cs ad kS K hKO hj g hW z_10 0 2) (cwS 3 X.2.2.2.2.1 gg_X12_drawn_X12_in rfl rfl rfl (by decide +kernel) ⟨Nat.le_of_ble_eq_true rfl, Nat.le_of_ble_eq_true rfl⟩) hP hA hS.2.1 hS rfl hl.1 rfl (Nat.le_of_ble_eq_true rfl) dX12_drawn_20 ⟨Nat.le_of_ble_eq_true rfl, Nat.le_of_ble_eq_true rfl⟩ (fun r_13 g_12 H locs hw_11 hP hS => ?_)
      obtain ⟨hw_11g, hw_11⟩ := hw_11
      rw [hw_11g] at hP
      have hqk_14 : (0 : Int64).toInt = 0 := by decide
      have hqk_15 : (2 : Int64).toInt = 2 := by decide
      refine lv_if_ne (tgt := 29) hx hb dX12_drawn_23 (by decide) (fun hc_16 => ?_) (fun hc_16 => ?_)
      · have hhc_16 := n_ne (rfl : r_13.toInt = r_13.toInt) (by decide : (0 : Int32).toInt = 0) hc_16
        refine lv_aload_n hx hb dX12_drawn_29 rfl (lv_at hl 0 rfl) ?_
        refine lv_iload_n hx hb dX12_drawn_30 rfl (lv_at hl 1 rfl) ?_
        refine lv_i2l hx hb dX12_drawn_31 rfl ?_
        refine lv_topl (fun z_17 ez_17 => ?_)
        have hz_17 : z_17.toInt = sd.toInt := ez_17 ▸ j_of rfl
        refine s_callv (q := (RX12, TX12, 40)) (As := [.long z_17]) (rest := []) X Z (s_X12_goDrawn l D cs ad kS K hKO hj g hW z_17) (cwV 1 X.2.2.2.2.1 gg_X12_drawn_X12_goDrawn rfl rfl rfl (by decide +kernel) ⟨Nat.le_of_ble_eq_true rfl, Nat.le_of_ble_eq_true rfl⟩) (by decide) hgc_4 rfl hP hA hS.2.1 hS rfl hl.1 rfl (Nat.le_of_ble_eq_true rfl) dX12_drawn_32 ⟨Nat.le_of_ble_eq_true rfl, Nat.le_of_ble_eq_true rfl⟩ (fun g_19 H locs hw_18 hP hS => ?_)
        obtain ⟨hw_18W, hw_18f⟩ := hw_18
        have hfr_21 : ∀ j, j ≠ 197 ∧ j ≠ 204 ∧ j ≠ 205 → g_19 j = g j := fun j hj => (hw_18f j (by omega)).trans (hfr j hj)
        refine lv_iload_n hx hb dX12_drawn_35 rfl (lv_at hl 2 rfl) ?_
        refine lv_if_ne (tgt := 44) hx hb dX12_drawn_36 (by decide) (fun hc_22 => ?_) (fun hc_22 => ?_)
        · have hhc_22 := n_ne (rfl : wh.toInt = wh.toInt) (by decide : (0 : Int32).toInt = 0) hc_22
          refine lv_iload_n hx hb dX12_drawn_44 rfl (lv_at hl 2 rfl) ?_
          refine lv_iconst (v := 2) hx hb dX12_drawn_45 (by decide) ?_
          refine lv_icmp_ne (tgt := 72) hx hb dX12_drawn_46 (by decide) (fun hc_23 => ?_) (fun hc_23 => ?_)
          · have hhc_23 := n_ne (rfl : wh.toInt = wh.toInt) (by decide : (2 : Int32).toInt = 2) hc_23
            refine lv_iconst (v := 0) hx hb dX12_drawn_72 (by decide) ?_
            refine lv_istore_n (lv' := [(3, .int 0), (0, .ref (ad 197)), (1, .int sd), (2, .int wh)]) hx hb dX12_drawn_73 rfl hl (by decide) rfl (fun ls hl => ?_)
            refine lv_iconst (v := 0) hx hb dX12_drawn_74 (by decide) ?_
            refine lv_istore (lv' := [(4, .int 0), (3, .int 0), (0, .ref (ad 197)), (1, .int sd), (2, .int wh)]) hx hb dX12_drawn_75 hl (by decide) rfl (fun ls hl => ?_)
            have HL77 : ∀ (n77 : Nat) (v77_4 : Int32) (v77_3 : Int32) (G77 : Nat → va_E) (H : Heap) (locs : List Loc) (ls : Array Slot), (8 - v77_4.toInt).toNat < n77 → (0 ≤ v77_4.toInt ∧ v77_4.toInt ≤ 8) → WF (shp ad K) ad cs G77 → (∀ j, j ≠ 197 ∧ j ≠ 204 ∧ j ≠ 205 → G77 j = g j) → va_P D vwCl (wL ad G77 218) H → va_S (wA ad 218) s.heap H locs → lv_has ls 5 [(4, .int v77_4), (3, .int v77_3), (0, .ref (ad 197))] → W p l e ({ frames := 3, cells := 0, slots := 0, locals := 70 } : Room) s m ([.ref (ad 197), .int sd, .int wh] : List Value).toArray below meth c H locs 0 0 (MQ below (qI D ad 218 (fun r g2 => WF (shp ad K) ad cs g2 ∧ (∀ j, j ≠ 197 ∧ j ≠ 204 ∧ j ≠ 205 → g2 j = g j))) ([.ref (ad 197), .int sd, .int wh] : List Value).toArray s 0 0 (wA ad 218)) (F0 m 77 ls []) := by
              intro n77
              induction n77 with
              | zero =>
                intro v77_4 v77_3 G77 H locs ls hm77 hv77_0 hW77 hfr77 hP hS hl
                exact absurd hm77 (Nat.not_lt_zero _)
              | succ n77 ih77 =>
                intro v77_4 v77_3 G77 H locs ls hm77 hv77_0 hW77 hfr77 hP hS hl
                refine lv_iload hx hb dX12_drawn_77 (lv_at hl 0 rfl) ?_
                refine lv_aload_n hx hb dX12_drawn_79 rfl (lv_at hl 2 rfl) ?_
                obtain ⟨fsc_24, hgc_24, hOc_24⟩ := hW77.obj (i := 197) (by decide) (sh_197 ad K)
                have hk_25 := hOc_24.ref 1 rfl
                refine q_get X iX12_drawn_12 hP (by decide) hgc_24 rfl 1 (by decide) (List.mem_of_getElem? (i := 18) rfl) (v := .ref (ad 198)) hk_25 dX12_drawn_80 ?_
                refine lv_iconst (v := 5) hx hb dX12_drawn_83 (by decide) ?_
                obtain ⟨fc_26, hgc_26, hFc_26⟩ := hW77.arr (i := 198) (by decide) (sh_198 ad K)
                refine q_iald X hP (by decide) hgc_26 (by unfold vp_in; decide) dX12_drawn_84 ?_
                refine lv_topi (fun z_27 ez_27 => ?_)
                have hqz_27 : wq (5) z_27.toInt := ez_27 ▸ hFc_26 _
                have hz_27 : 0 ≤ z_27.toInt ∧ z_27.toInt ≤ 8 := by unfold wq at hqz_27; omega
                clear hqz_27
                refine lv_icmp_ge (tgt := 116) hx hb dX12_drawn_85 (by decide) (fun hc_28 => ?_) (fun hc_28 => ?_)
                · have hhc_28 := n_le (rfl : z_27.toInt = z_27.toInt) (rfl : v77_4.toInt = v77_4.toInt) hc_28
                  refine lv_iload_n hx hb dX12_drawn_116 rfl (lv_at hl 1 rfl) ?_
                  exact q_iret X hP hS ⟨hW77, hfr77⟩ dX12_drawn_117
                · have hhc_28 := n_nle (rfl : z_27.toInt = z_27.toInt) (rfl : v77_4.toInt = v77_4.toInt) hc_28
                  refine lv_iload_n hx hb dX12_drawn_88 rfl (lv_at hl 1 rfl) ?_
                  refine lv_aload_n hx hb dX12_drawn_89 rfl (lv_at hl 2 rfl) ?_
                  have hk_29 := hOc_24.ref 16 rfl
                  refine q_get X iX12_drawn_12 hP (by decide) hgc_24 rfl 16 (by decide) (List.mem_of_getElem? (i := 19) rfl) (v := .ref (ad 205)) hk_29 dX12_drawn_90 ?_
                  refine lv_iload hx hb dX12_drawn_93 (lv_at hl 0 rfl) ?_
                  obtain ⟨fc_30, hgc_30, hFc_30⟩ := hW77.arr (i := 205) (by decide) (sh_205 ad K)
                  refine q_iald X hP (by decide) hgc_30 (n_in (rfl : v77_4.toInt = v77_4.toInt) (by omega) (by omega)) dX12_drawn_95 ?_
                  refine lv_topi (fun z_31 ez_31 => ?_)
                  have hz_31 : (-1) ≤ z_31.toInt ∧ z_31.toInt ≤ 13 := ez_31 ▸ hFc_30 _
                  refine lv_iconst (v := (-1)) hx hb dX12_drawn_96 (by decide) ?_
                  refine lv_icmp_ne (tgt := 104) hx hb dX12_drawn_97 (by decide) (fun hc_32 => ?_) (fun hc_32 => ?_)
                  · have hhc_32 := n_ne (rfl : z_31.toInt = z_31.toInt) (by decide : (-1 : Int32).toInt = -1) hc_32
                    refine lv_iconst (v := 1) hx hb dX12_drawn_104 (by decide) ?_
                    refine lv_iload hx hb dX12_drawn_105 (lv_at hl 0 rfl) ?_
                    refine lv_ishl hx hb dX12_drawn_107 ?_
                    refine lv_topi (fun z_33 ez_33 => ?_)
                    refine lv_ior hx hb dX12_drawn_108 ?_
                    refine lv_topi (fun z_34 ez_34 => ?_)
                    refine lv_istore_n (lv' := [(3, .int z_34), (4, .int v77_4), (0, .ref (ad 197))]) hx hb dX12_drawn_109 rfl hl (by decide) rfl (fun ls hl => ?_)
                    obtain ⟨x_35, ex_35⟩ : ∃ y : Int32, y = v77_4 + 1 := ⟨_, rfl⟩
                    have hx_35 : x_35.toInt = v77_4.toInt + 1 := n_add rfl (by decide : (1 : Int32).toInt = 1) ex_35 (by omega) (by omega)
                    refine lv_iinc (v := x_35) (lv' := [(4, .int x_35), (3, .int z_34), (0, .ref (ad 197))]) hx hb dX12_drawn_110 hl (k := 1) rfl (by rw [ex_35]; rfl) (by decide) rfl (fun ls hl => ?_)
                    refine lv_goto (tgt := 77) hx hb dX12_drawn_113 (by decide) ?_
                    exact ih77 x_35 z_34 G77 _ _ ls (by omega) (by omega) hW77 hfr77 hP hS (lv_sub hl [0, 1, 2] rfl)
                  · have hhc_32 := n_eq (rfl : z_31.toInt = z_31.toInt) (by decide : (-1 : Int32).toInt = -1) hc_32
                    refine lv_iconst (v := 0) hx hb dX12_drawn_100 (by decide) ?_
                    refine lv_goto (tgt := 108) hx hb dX12_drawn_101 (by decide) ?_
                    refine lv_ior hx hb dX12_drawn_108 ?_
                    refine lv_topi (fun z_36 ez_36 => ?_)
                    refine lv_istore_n (lv' := [(3, .int z_36), (4, .int v77_4), (0, .ref (ad 197))]) hx hb dX12_drawn_109 rfl hl (by decide) rfl (fun ls hl => ?_)
                    obtain ⟨x_37, ex_37⟩ : ∃ y : Int32, y = v77_4 + 1 := ⟨_, rfl⟩
                    have hx_37 : x_37.toInt = v77_4.toInt + 1 := n_add rfl (by decide : (1 : Int32).toInt = 1) ex_37 (by omega) (by omega)
                    refine lv_iinc (v := x_37) (lv' := [(4, .int x_37), (3, .int z_36), (0, .ref (ad 197))]) hx hb dX12_drawn_110 hl (k := 1) rfl (by rw [ex_37]; rfl) (by decide) rfl (fun ls hl => ?_)
                    refine lv_goto (tgt := 77) hx hb dX12_drawn_113 (by decide) ?_
                    exact ih77 x_37 z_36 G77 _ _ ls (by omega) (by omega) hW77 hfr77 hP hS (lv_sub hl [0, 1, 2] rfl)
            have hiv77_4 : (0 : Int32).toInt = 0 := by decide
            have hiv77_3 : (0 : Int32).toInt = 0 := by decide
            exact HL77 _ 0 0 g_19 _ _ ls (Nat.lt_succ_self _) (by omega) hw_18W hfr_21 hP hS (lv_sub hl [0, 1, 2] rfl)
          · have hhc_23 := n_eq (rfl : wh.toInt = wh.toInt) (by decide : (2 : Int32).toInt = 2) hc_23
            refine lv_aload_n hx hb dX12_drawn_49 rfl (lv_at hl 0 rfl) ?_
            obtain ⟨fsc_38, hgc_38, hOc_38⟩ := hw_18W.obj (i := 197) (by decide) (sh_197 ad K)
            obtain ⟨x_40, hk_39, hlx_40, hhx_40⟩ := hOc_38.int 17 rfl
            refine q_get X iX12_drawn_12 hP (by decide) hgc_38 rfl 17 (by decide) (List.mem_of_getElem? (i := 14) rfl) (v := .int x_40) hk_39 dX12_drawn_50 ?_
            refine lv_if_ne (tgt := 60) hx hb dX12_drawn_53 (by decide) (fun hc_41 => ?_) (fun hc_41 => ?_)
            · have hhc_41 := n_ne (rfl : x_40.toInt = x_40.toInt) (by decide : (0 : Int32).toInt = 0) hc_41
              refine lv_aload_n hx hb dX12_drawn_60 rfl (lv_at hl 0 rfl) ?_
              refine lv_iconst (v := (-1)) hx hb dX12_drawn_61 (by decide) ?_
              refine lv_aload_n hx hb dX12_drawn_62 rfl (lv_at hl 0 rfl) ?_
              refine q_get X iX12_drawn_12 hP (by decide) hgc_38 rfl 17 (by decide) (List.mem_of_getElem? (i := 14) rfl) (v := .int x_40) hk_39 dX12_drawn_63 ?_
              refine lv_iconst (v := 1) hx hb dX12_drawn_66 (by decide) ?_
              refine lv_isub hx hb dX12_drawn_67 ?_
              refine lv_topi (fun z_42 ez_42 => ?_)
              have hz_42 : z_42.toInt = x_40.toInt - 1 := n_sub (rfl : x_40.toInt = x_40.toInt) (by decide : (1 : Int32).toInt = 1) ez_42 (by omega) (by omega)
              refine s_calli (q := (RX12, TX12, 40)) (As := [.int (-1), .int z_42]) (rest := []) X Z (s_X12_timeOf l D cs ad kS K hKO hj g_19 hw_18W (-1) z_42) (cwV 2 X.2.2.2.2.1 gg_X12_drawn_X12_timeOf rfl rfl rfl (by decide +kernel) ⟨Nat.le_of_ble_eq_true rfl, Nat.le_of_ble_eq_true rfl⟩) (by decide) hgc_38 rfl hP hA hS.2.1 hS rfl hl.1 rfl (Nat.le_of_ble_eq_true rfl) dX12_drawn_68 ⟨Nat.le_of_ble_eq_true rfl, Nat.le_of_ble_eq_true rfl⟩ (fun r_45 g_44 H locs hw_43 hP hS => ?_)
              rw [hw_43] at hP
              exact q_iret X hP hS ⟨hw_18W, hfr_21⟩ dX12_drawn_71
            · have hhc_41 := n_eq (rfl : x_40.toInt = x_40.toInt) (by decide : (0 : Int32).toInt = 0) hc_41
              refine lv_iconst (v := (-1)) hx hb dX12_drawn_56 (by decide) ?_
              refine lv_goto (tgt := 71) hx hb dX12_drawn_57 (by decide) ?_
              exact q_iret X hP hS ⟨hw_18W, hfr_21⟩ dX12_drawn_71
        · have hhc_22 := n_eq (rfl : wh.toInt = wh.toInt) (by decide : (0 : Int32).toInt = 0) hc_22
          refine lv_aload_n hx hb dX12_drawn_39 rfl (lv_at hl 0 rfl) ?_
          obtain ⟨fsc_46, hgc_46, hOc_46⟩ := hw_18W.obj (i := 197) (by decide) (sh_197 ad K)
          obtain ⟨x_48, hk_47, -⟩ := hOc_46.int 35 rfl
          refine q_get X iX12_drawn_12 hP (by decide) hgc_46 rfl 35 (by decide) (List.mem_of_getElem? (i := 13) rfl) (v := .int x_48) hk_47 dX12_drawn_40 ?_
          exact q_iret X hP hS ⟨hw_18W, hfr_21⟩ dX12_drawn_43
      · have hhc_16 := n_eq (rfl : r_13.toInt = r_13.toInt) (by decide : (0 : Int32).toInt = 0) hc_16
        exact HJ26 g _ _ ls hW hfr hgc_4 hP hS (lv_sub hl [] rfl)

theorem dX12_luck_0 : decode cX12_luck 0 = .ok (.iload_n 1, 1) := by decide +kernel
theorem dX12_luck_1 : decode cX12_luck 1 = .ok (.invokestatic 418, 3) := by decide +kernel
theorem dX12_luck_4 : decode cX12_luck 4 = .ok (.ifCond .eq 33, 3) := by decide +kernel
theorem dX12_luck_7 : decode cX12_luck 7 = .ok (.iload_n 2, 1) := by decide +kernel
theorem dX12_luck_8 : decode cX12_luck 8 = .ok (.i2l, 1) := by decide +kernel
theorem dX12_luck_9 : decode cX12_luck 9 = .ok (.lconst 1, 1) := by decide +kernel
theorem dX12_luck_10 : decode cX12_luck 10 = .ok (.ldc2_w 425, 3) := by decide +kernel
theorem dX12_luck_13 : decode cX12_luck 13 = .ok (.invokestatic 82, 3) := by decide +kernel
theorem dX12_luck_16 : decode cX12_luck 16 = .ok (.ifCond .eq 21, 3) := by decide +kernel
theorem dX12_luck_19 : decode cX12_luck 19 = .ok (.aload_n 0, 1) := by decide +kernel
theorem dX12_luck_20 : decode cX12_luck 20 = .ok (.iload_n 3, 1) := by decide +kernel
theorem dX12_luck_21 : decode cX12_luck 21 = .ok (.i2l, 1) := by decide +kernel
theorem dX12_luck_22 : decode cX12_luck 22 = .ok (.invokevirtual 221, 3) := by decide +kernel
theorem dX12_luck_25 : decode cX12_luck 25 = .ok (.ifCond .eq 12, 3) := by decide +kernel
theorem dX12_luck_28 : decode cX12_luck 28 = .ok (.aload_n 0, 1) := by decide +kernel
theorem dX12_luck_29 : decode cX12_luck 29 = .ok (.iload 4, 2) := by decide +kernel
theorem dX12_luck_31 : decode cX12_luck 31 = .ok (.invokevirtual 205, 3) := by decide +kernel
theorem dX12_luck_34 : decode cX12_luck 34 = .ok (.ifCond .ne 6, 3) := by decide +kernel
theorem dX12_luck_40 : decode cX12_luck 40 = .ok (.iconst 0, 1) := by decide +kernel
theorem dX12_luck_41 : decode cX12_luck 41 = .ok (.istore 5, 2) := by decide +kernel
theorem dX12_luck_43 : decode cX12_luck 43 = .ok (.iconst 0, 1) := by decide +kernel
theorem dX12_luck_44 : decode cX12_luck 44 = .ok (.istore 6, 2) := by decide +kernel
theorem dX12_luck_46 : decode cX12_luck 46 = .ok (.iload 6, 2) := by decide +kernel
theorem dX12_luck_48 : decode cX12_luck 48 = .ok (.iload_n 2, 1) := by decide +kernel
theorem dX12_luck_49 : decode cX12_luck 49 = .ok (.if_icmp .ge 39, 3) := by decide +kernel
theorem dX12_luck_52 : decode cX12_luck 52 = .ok (.aload_n 0, 1) := by decide +kernel
theorem dX12_luck_53 : decode cX12_luck 53 = .ok (.iload_n 1, 1) := by decide +kernel
theorem dX12_luck_54 : decode cX12_luck 54 = .ok (.i2l, 1) := by decide +kernel
theorem dX12_luck_55 : decode cX12_luck 55 = .ok (.iload 6, 2) := by decide +kernel
theorem dX12_luck_57 : decode cX12_luck 57 = .ok (.i2l, 1) := by decide +kernel
theorem dX12_luck_58 : decode cX12_luck 58 = .ok (.ladd, 1) := by decide +kernel
theorem dX12_luck_59 : decode cX12_luck 59 = .ok (.invokevirtual 421, 3) := by decide +kernel
theorem dX12_luck_62 : decode cX12_luck 62 = .ok (.iload 5, 2) := by decide +kernel
theorem dX12_luck_64 : decode cX12_luck 64 = .ok (.aload_n 0, 1) := by decide +kernel
theorem dX12_luck_65 : decode cX12_luck 65 = .ok (.iload_n 3, 1) := by decide +kernel
theorem dX12_luck_66 : decode cX12_luck 66 = .ok (.iload 4, 2) := by decide +kernel
theorem dX12_luck_68 : decode cX12_luck 68 = .ok (.invokevirtual 258, 3) := by decide +kernel
theorem dX12_luck_71 : decode cX12_luck 71 = .ok (.ifCond .eq 7, 3) := by decide +kernel
theorem dX12_luck_74 : decode cX12_luck 74 = .ok (.iconst 1, 1) := by decide +kernel
theorem dX12_luck_75 : decode cX12_luck 75 = .ok (.goto 4, 3) := by decide +kernel
theorem dX12_luck_78 : decode cX12_luck 78 = .ok (.iconst 0, 1) := by decide +kernel
theorem dX12_luck_79 : decode cX12_luck 79 = .ok (.iadd, 1) := by decide +kernel
theorem dX12_luck_80 : decode cX12_luck 80 = .ok (.istore 5, 2) := by decide +kernel
theorem dX12_luck_82 : decode cX12_luck 82 = .ok (.iinc 6 1, 3) := by decide +kernel
theorem dX12_luck_85 : decode cX12_luck 85 = .ok (.goto (-39), 3) := by decide +kernel
theorem dX12_luck_88 : decode cX12_luck 88 = .ok (.iload 5, 2) := by decide +kernel
theorem dX12_luck_90 : decode cX12_luck 90 = .ok (.ireturn, 1) := by decide +kernel
theorem dX12_luck_37 : decode cX12_luck 37 = .ok (.bipush (-2), 2) := by decide +kernel
theorem dX12_luck_39 : decode cX12_luck 39 = .ok (.ireturn, 1) := by decide +kernel
noncomputable def vX12_luck : List Cond := .code yX12_luck cX12_luck 7 (some .int) :: (([.methodLink RX12 418 yX12_isSeed, .static yX12_isSeed, .initialized RX12, .constantLong RX12 425 (20), .methodLink RX12 82 yX12_in, .static yX12_in, .methodLink RX12 221 yX12_isIcicle, .instanceMethod yX12_isIcicle, .selects RX12 yX12_isIcicle yX12_isIcicle, .methodLink RX12 205 yX12_isDay, .instanceMethod yX12_isDay, .selects RX12 yX12_isDay yX12_isDay, .methodLink RX12 421 yX12_goDrawn, .instanceMethod yX12_goDrawn, .selects RX12 yX12_goDrawn yX12_goDrawn, .methodLink RX12 258 yX12_fellBy, .instanceMethod yX12_fellBy, .selects RX12 yX12_fellBy yX12_fellBy] : List Cond) ++ (vX12_isSeed ++ (vX12_in ++ (vX12_isIcicle ++ (vX12_isDay ++ (vX12_goDrawn ++ vX12_fellBy))))))
theorem gs_X12_luck : Gd vX12_luck := Gd.cons (by decide +kernel) (Gd.app (Gd.r (by decide +kernel)) (Gd.app gs_X12_isSeed (Gd.app gs_X12_in (Gd.app gs_X12_isIcicle (Gd.app gs_X12_isDay (Gd.app gs_X12_goDrawn gs_X12_fellBy))))))
theorem gg_X12_luck_X12_isSeed : GoodIn vX12_luck (wsS RX12 418 yX12_isSeed vX12_isSeed) := goodIn_app (goodIn_r _ [1, 2, 3] (by decide +kernel) (by decide +kernel)) (fun w h => ⟨List.mem_cons_of_mem _ (List.mem_append_right _ (List.mem_append_left _ h)), gs_X12_isSeed w h⟩)
theorem gg_X12_luck_X12_in : GoodIn vX12_luck (wsS RX12 82 yX12_in vX12_in) := goodIn_app (goodIn_r _ [5, 6, 3] (by decide +kernel) (by decide +kernel)) (fun w h => ⟨List.mem_cons_of_mem _ (List.mem_append_right _ (List.mem_append_right _ (List.mem_append_left _ h))), gs_X12_in w h⟩)
theorem gg_X12_luck_X12_isIcicle : GoodIn vX12_luck (wsV RX12 221 RX12 yX12_isIcicle vX12_isIcicle) := goodIn_app (goodIn_r _ [7, 8, 9, 3] (by decide +kernel) (by decide +kernel)) (fun w h => ⟨List.mem_cons_of_mem _ (List.mem_append_right _ (List.mem_append_right _ (List.mem_append_right _ (List.mem_append_left _ h)))), gs_X12_isIcicle w h⟩)
theorem gg_X12_luck_X12_isDay : GoodIn vX12_luck (wsV RX12 205 RX12 yX12_isDay vX12_isDay) := goodIn_app (goodIn_r _ [10, 11, 12, 3] (by decide +kernel) (by decide +kernel)) (fun w h => ⟨List.mem_cons_of_mem _ (List.mem_append_right _ (List.mem_append_right _ (List.mem_append_right _ (List.mem_append_right _ (List.mem_append_left _ h))))), gs_X12_isDay w h⟩)
theorem gg_X12_luck_X12_goDrawn : GoodIn vX12_luck (wsV RX12 421 RX12 yX12_goDrawn vX12_goDrawn) := goodIn_app (goodIn_r _ [13, 14, 15, 3] (by decide +kernel) (by decide +kernel)) (fun w h => ⟨List.mem_cons_of_mem _ (List.mem_append_right _ (List.mem_append_right _ (List.mem_append_right _ (List.mem_append_right _ (List.mem_append_right _ (List.mem_append_left _ h)))))), gs_X12_goDrawn w h⟩)
theorem gg_X12_luck_X12_fellBy : GoodIn vX12_luck (wsV RX12 258 RX12 yX12_fellBy vX12_fellBy) := goodIn_app (goodIn_r _ [16, 17, 18, 3] (by decide +kernel) (by decide +kernel)) (fun w h => ⟨List.mem_cons_of_mem _ (List.mem_append_right _ (List.mem_append_right _ (List.mem_append_right _ (List.mem_append_right _ (List.mem_append_right _ (List.mem_append_right _ (h))))))), gs_X12_fellBy w h⟩)
set_option maxHeartbeats 4000000 in
set_option maxRecDepth 100000 in
theorem s_X12_luck (l : Launch) (D : va_G) (cs : Nat → ClassId) (ad : Nat → Nat) (kS : kSt) (K : sK) (hKO : KO K) (hj : wJ ad 218) (g : Nat → va_E) (hW : WF (shp ad K) ad cs g) (sd : Int32) (nn : Int32) (ic : Int32) (dy : Int32) : sI l yX12_luck vX12_luck { frames := 3, cells := 0, slots := 0, locals := 70 } D cs ad kS [.ref (ad 197), .int sd, .int nn, .int ic, .int dy] g (fun r g2 => WF (shp ad K) ad cs g2 ∧ (∀ j, j ≠ 197 ∧ j ≠ 204 ∧ j ≠ 205 → g2 j = g j)) := by
  refine Met.startS (cc := cX12_luck) (maxL := 7) (ret := (some .int)) RX12 rfl (by decide) rfl (Nat.le_of_ble_eq_true rfl) ?_
  intro p e s m below meth c ls X Z hP hl
  have hx := X.1
  have hb := X.2.1
  have hS : va_S (wA ad 218) s.heap s.heap [] := va_S.rf
  have hA : ∀ i, i < 218 → wA ad 218 (ad i) := fun i h => ⟨i, h, rfl⟩
  have hfr : ∀ j, j ≠ 197 ∧ j ≠ 204 ∧ j ≠ 205 → g j = g j := fun _ _ => rfl
  have hl : lv_has ls 7 [(0, .ref (ad 197)), (1, .int sd), (2, .int nn), (3, .int ic), (4, .int dy)] := hl
  refine lv_iload_n hx hb dX12_luck_0 rfl (lv_at hl 1 rfl) ?_
  refine s_callSi (As := [.int sd]) (rest := []) X Z (s_X12_isSeed l D cs ad kS K hKO hj g hW sd) (cwS 1 X.2.2.2.2.1 gg_X12_luck_X12_isSeed rfl rfl rfl (by decide +kernel) ⟨Nat.le_of_ble_eq_true rfl, Nat.le_of_ble_eq_true rfl⟩) hP hA hS.2.1 hS rfl hl.1 rfl (Nat.le_of_ble_eq_true rfl) dX12_luck_1 ⟨Nat.le_of_ble_eq_true rfl, Nat.le_of_ble_eq_true rfl⟩ (fun r_3 g_2 H locs hw_1 hP hS => ?_)
  obtain ⟨hw_1g, hw_1⟩ := hw_1
  rw [hw_1g] at hP
  have HJ37 : ∀ (G37 : Nat → va_E) (H : Heap) (locs : List Loc) (ls : Array Slot), WF (shp ad K) ad cs G37 → (∀ j, j ≠ 197 ∧ j ≠ 204 ∧ j ≠ 205 → G37 j = g j) → va_P D vwCl (wL ad G37 218) H → va_S (wA ad 218) s.heap H locs → lv_has ls 7 [] → W p l e ({ frames := 3, cells := 0, slots := 0, locals := 70 } : Room) s m ([.ref (ad 197), .int sd, .int nn, .int ic, .int dy] : List Value).toArray below meth c H locs 0 0 (MQ below (qI D ad 218 (fun r g2 => WF (shp ad K) ad cs g2 ∧ (∀ j, j ≠ 197 ∧ j ≠ 204 ∧ j ≠ 205 → g2 j = g j))) ([.ref (ad 197), .int sd, .int nn, .int ic, .int dy] : List Value).toArray s 0 0 (wA ad 218)) (F0 m 37 ls []) := by
    intro G37 H locs ls hW37 hfr37 hP hS hl
    refine lv_bipush (v := (-2)) hx hb dX12_luck_37 (by decide) ?_
    exact q_iret X hP hS ⟨hW37, hfr37⟩ dX12_luck_39
  refine lv_if_eq (tgt := 37) hx hb dX12_luck_4 (by decide) (fun hc_4 => ?_) (fun hc_4 => ?_)
  · have hhc_4 := n_eq (rfl : r_3.toInt = r_3.toInt) (by decide : (0 : Int32).toInt = 0) hc_4
    exact HJ37 g _ _ ls hW hfr hP hS (lv_sub hl [] rfl)
  · have hhc_4 := n_ne (rfl : r_3.toInt = r_3.toInt) (by decide : (0 : Int32).toInt = 0) hc_4
    refine lv_iload_n hx hb dX12_luck_7 rfl (lv_at hl 2 rfl) ?_
    refine lv_i2l hx hb dX12_luck_8 rfl ?_
    refine lv_topl (fun z_5 ez_5 => ?_)
    have hz_5 : z_5.toInt = nn.toInt := ez_5 ▸ j_of rfl
    have := n_hi nn
    have := n_lo nn
    refine lv_lconst (v := 1) hx hb dX12_luck_9 (by decide) ?_
    refine lv_ldc2 (v := 20) hx hb X.2.2.2.2.2.1 (X.2.2.2.2.1 _ (List.mem_of_getElem? (i := 4) rfl)) dX12_luck_10 ?_
    refine s_callSi (As := [.long z_5, .long 1, .long 20]) (rest := []) X Z (s_X12_in l D cs ad kS K hKO hj g hW z_5 1 20) (cwS 3 X.2.2.2.2.1 gg_X12_luck_X12_in rfl rfl rfl (by decide +kernel) ⟨Nat.le_of_ble_eq_true rfl, Nat.le_of_ble_eq_true rfl⟩) hP hA hS.2.1 hS rfl hl.1 rfl (Nat.le_of_ble_eq_true rfl) dX12_luck_13 ⟨Nat.le_of_ble_eq_true rfl, Nat.le_of_ble_eq_true rfl⟩ (fun r_8 g_7 H locs hw_6 hP hS => ?_)
    obtain ⟨hw_6g, hw_6⟩ := hw_6
    rw [hw_6g] at hP
    have hqk_9 : (1 : Int64).toInt = 1 := by decide
    have hqk_10 : (20 : Int64).toInt = 20 := by decide
    refine lv_if_eq (tgt := 37) hx hb dX12_luck_16 (by decide) (fun hc_11 => ?_) (fun hc_11 => ?_)
    · have hhc_11 := n_eq (rfl : r_8.toInt = r_8.toInt) (by decide : (0 : Int32).toInt = 0) hc_11
      exact HJ37 g _ _ ls hW hfr hP hS (lv_sub hl [] rfl)
    · have hhc_11 := n_ne (rfl : r_8.toInt = r_8.toInt) (by decide : (0 : Int32).toInt = 0) hc_11
      refine lv_aload_n hx hb dX12_luck_19 rfl (lv_at hl 0 rfl) ?_
      refine lv_iload_n hx hb dX12_luck_20 rfl (lv_at hl 3 rfl) ?_
      refine lv_i2l hx hb dX12_luck_21 rfl ?_
      refine lv_topl (fun z_12 ez_12 => ?_)
      have hz_12 : z_12.toInt = ic.toInt := ez_12 ▸ j_of rfl
      have := n_hi ic
      have := n_lo ic
      obtain ⟨fsc_16, hgc_16, hOc_16⟩ := hW.obj (i := 197) (by decide) (sh_197 ad K)
      refine s_calli (q := (RX12, TX12, 40)) (As := [.long z_12]) (rest := []) X Z (s_X12_isIcicle l D cs ad kS K hKO hj g hW z_12) (cwV 1 X.2.2.2.2.1 gg_X12_luck_X12_isIcicle rfl rfl rfl (by decide +kernel) ⟨Nat.le_of_ble_eq_true rfl, Nat.le_of_ble_eq_true rfl⟩) (by decide) hgc_16 rfl hP hA hS.2.1 hS rfl hl.1 rfl (Nat.le_of_ble_eq_true rfl) dX12_luck_22 ⟨Nat.le_of_ble_eq_true rfl, Nat.le_of_ble_eq_true rfl⟩ (fun r_15 g_14 H locs hw_13 hP hS => ?_)
      obtain ⟨hw_13g, hw_13⟩ := hw_13
      rw [hw_13g] at hP
      refine lv_if_eq (tgt := 37) hx hb dX12_luck_25 (by decide) (fun hc_17 => ?_) (fun hc_17 => ?_)
      · have hhc_17 := n_eq (rfl : r_15.toInt = r_15.toInt) (by decide : (0 : Int32).toInt = 0) hc_17
        exact HJ37 g _ _ ls hW hfr hP hS (lv_sub hl [] rfl)
      · have hhc_17 := n_ne (rfl : r_15.toInt = r_15.toInt) (by decide : (0 : Int32).toInt = 0) hc_17
        refine lv_aload_n hx hb dX12_luck_28 rfl (lv_at hl 0 rfl) ?_
        refine lv_iload hx hb dX12_luck_29 (lv_at hl 4 rfl) ?_
        refine s_calli (q := (RX12, TX12, 40)) (As := [.int dy]) (rest := []) X Z (s_X12_isDay l D cs ad kS K hKO hj g hW dy) (cwV 1 X.2.2.2.2.1 gg_X12_luck_X12_isDay rfl rfl rfl (by decide +kernel) ⟨Nat.le_of_ble_eq_true rfl, Nat.le_of_ble_eq_true rfl⟩) (by decide) hgc_16 rfl hP hA hS.2.1 hS rfl hl.1 rfl (Nat.le_of_ble_eq_true rfl) dX12_luck_31 ⟨Nat.le_of_ble_eq_true rfl, Nat.le_of_ble_eq_true rfl⟩ (fun r_20 g_19 H locs hw_18 hP hS => ?_)
        obtain ⟨hw_18g, hw_18⟩ := hw_18
        rw [hw_18g] at hP
        refine lv_if_ne (tgt := 40) hx hb dX12_luck_34 (by decide) (fun hc_21 => ?_) (fun hc_21 => ?_)
        · have hhc_21 := n_ne (rfl : r_20.toInt = r_20.toInt) (by decide : (0 : Int32).toInt = 0) hc_21
          refine lv_iconst (v := 0) hx hb dX12_luck_40 (by decide) ?_
          refine lv_istore (lv' := [(5, .int 0), (0, .ref (ad 197)), (1, .int sd), (2, .int nn), (3, .int ic), (4, .int dy)]) hx hb dX12_luck_41 hl (by decide) rfl (fun ls hl => ?_)
          refine lv_iconst (v := 0) hx hb dX12_luck_43 (by decide) ?_
          refine lv_istore (lv' := [(6, .int 0), (5, .int 0), (0, .ref (ad 197)), (1, .int sd), (2, .int nn), (3, .int ic), (4, .int dy)]) hx hb dX12_luck_44 hl (by decide) rfl (fun ls hl => ?_)
          have HL46 : ∀ (n46 : Nat) (v46_6 : Int32) (v46_5 : Int32) (G46 : Nat → va_E) (H : Heap) (locs : List Loc) (ls : Array Slot), (20 - v46_6.toInt).toNat < n46 → (0 ≤ v46_6.toInt ∧ v46_6.toInt ≤ 20) → WF (shp ad K) ad cs G46 → (∀ j, j ≠ 197 ∧ j ≠ 204 ∧ j ≠ 205 → G46 j = g j) → va_P D vwCl (wL ad G46 218) H → va_S (wA ad 218) s.heap H locs → lv_has ls 7 [(6, .int v46_6), (5, .int v46_5), (0, .ref (ad 197)), (1, .int sd), (2, .int nn), (3, .int ic), (4, .int dy)] → W p l e ({ frames := 3, cells := 0, slots := 0, locals := 70 } : Room) s m ([.ref (ad 197), .int sd, .int nn, .int ic, .int dy] : List Value).toArray below meth c H locs 0 0 (MQ below (qI D ad 218 (fun r g2 => WF (shp ad K) ad cs g2 ∧ (∀ j, j ≠ 197 ∧ j ≠ 204 ∧ j ≠ 205 → g2 j = g j))) ([.ref (ad 197), .int sd, .int nn, .int ic, .int dy] : List Value).toArray s 0 0 (wA ad 218)) (F0 m 46 ls []) := by
            intro n46
            induction n46 with
            | zero =>
              intro v46_6 v46_5 G46 H locs ls hm46 hv46_0 hW46 hfr46 hP hS hl
              exact absurd hm46 (Nat.not_lt_zero _)
            | succ n46 ih46 =>
              intro v46_6 v46_5 G46 H locs ls hm46 hv46_0 hW46 hfr46 hP hS hl
              refine lv_iload hx hb dX12_luck_46 (lv_at hl 0 rfl) ?_
              refine lv_iload_n hx hb dX12_luck_48 rfl (lv_at hl 4 rfl) ?_
              refine lv_icmp_ge (tgt := 88) hx hb dX12_luck_49 (by decide) (fun hc_22 => ?_) (fun hc_22 => ?_)
              · have hhc_22 := n_le (rfl : nn.toInt = nn.toInt) (rfl : v46_6.toInt = v46_6.toInt) hc_22
                refine lv_iload hx hb dX12_luck_88 (lv_at hl 1 rfl) ?_
                exact q_iret X hP hS ⟨hW46, hfr46⟩ dX12_luck_90
              · have hhc_22 := n_nle (rfl : nn.toInt = nn.toInt) (rfl : v46_6.toInt = v46_6.toInt) hc_22
                refine lv_aload_n hx hb dX12_luck_52 rfl (lv_at hl 2 rfl) ?_
                refine lv_iload_n hx hb dX12_luck_53 rfl (lv_at hl 3 rfl) ?_
                refine lv_i2l hx hb dX12_luck_54 rfl ?_
                refine lv_topl (fun z_23 ez_23 => ?_)
                have hz_23 : z_23.toInt = sd.toInt := ez_23 ▸ j_of rfl
                refine lv_iload hx hb dX12_luck_55 (lv_at hl 0 rfl) ?_
                refine lv_i2l hx hb dX12_luck_57 rfl ?_
                refine lv_topl (fun z_24 ez_24 => ?_)
                have hz_24 : z_24.toInt = v46_6.toInt := ez_24 ▸ j_of rfl
                refine lv_ladd hx hb dX12_luck_58 ?_
                refine lv_topl (fun z_25 ez_25 => ?_)
                have hz_25 : z_25.toInt = z_23.toInt + z_24.toInt := j_add (rfl : z_23.toInt = z_23.toInt) (rfl : z_24.toInt = z_24.toInt) ez_25 (by omega) (by omega)
                obtain ⟨fsc_29, hgc_29, hOc_29⟩ := hW46.obj (i := 197) (by decide) (sh_197 ad K)
                refine s_callv (q := (RX12, TX12, 40)) (As := [.long z_25]) (rest := []) X Z (s_X12_goDrawn l D cs ad kS K hKO hj G46 hW46 z_25) (cwV 1 X.2.2.2.2.1 gg_X12_luck_X12_goDrawn rfl rfl rfl (by decide +kernel) ⟨Nat.le_of_ble_eq_true rfl, Nat.le_of_ble_eq_true rfl⟩) (by decide) hgc_29 rfl hP hA hS.2.1 hS rfl hl.1 rfl (Nat.le_of_ble_eq_true rfl) dX12_luck_59 ⟨Nat.le_of_ble_eq_true rfl, Nat.le_of_ble_eq_true rfl⟩ (fun g_27 H locs hw_26 hP hS => ?_)
                obtain ⟨hw_26W, hw_26f⟩ := hw_26
                have hfr_30 : ∀ j, j ≠ 197 ∧ j ≠ 204 ∧ j ≠ 205 → g_27 j = g j := fun j hj => (hw_26f j (by omega)).trans (hfr46 j hj)
                refine lv_iload hx hb dX12_luck_62 (lv_at hl 1 rfl) ?_
                refine lv_aload_n hx hb dX12_luck_64 rfl (lv_at hl 2 rfl) ?_
                refine lv_iload_n hx hb dX12_luck_65 rfl (lv_at hl 5 rfl) ?_
                refine lv_iload hx hb dX12_luck_66 (lv_at hl 6 rfl) ?_
                obtain ⟨fsc_34, hgc_34, hOc_34⟩ := hw_26W.obj (i := 197) (by decide) (sh_197 ad K)
                refine s_calli (q := (RX12, TX12, 40)) (As := [.int ic, .int dy]) (rest := [.int v46_5]) X Z (s_X12_fellBy l D cs ad kS K hKO hj g_27 hw_26W ic dy (by omega)) (cwV 2 X.2.2.2.2.1 gg_X12_luck_X12_fellBy rfl rfl rfl (by decide +kernel) ⟨Nat.le_of_ble_eq_true rfl, Nat.le_of_ble_eq_true rfl⟩) (by decide) hgc_34 rfl hP hA hS.2.1 hS rfl hl.1 rfl (Nat.le_of_ble_eq_true rfl) dX12_luck_68 ⟨Nat.le_of_ble_eq_true rfl, Nat.le_of_ble_eq_true rfl⟩ (fun r_33 g_32 H locs hw_31 hP hS => ?_)
                obtain ⟨hw_31g, hw_31⟩ := hw_31
                rw [hw_31g] at hP
                refine lv_if_eq (tgt := 78) hx hb dX12_luck_71 (by decide) (fun hc_35 => ?_) (fun hc_35 => ?_)
                · have hhc_35 := n_eq (rfl : r_33.toInt = r_33.toInt) (by decide : (0 : Int32).toInt = 0) hc_35
                  refine lv_iconst (v := 0) hx hb dX12_luck_78 (by decide) ?_
                  refine lv_iadd hx hb dX12_luck_79 ?_
                  refine lv_topi (fun z_36 ez_36 => ?_)
                  have := n_hi v46_5
                  have := n_lo v46_5
                  have hz_36 : z_36.toInt = v46_5.toInt + 0 := n_add (rfl : v46_5.toInt = v46_5.toInt) (by decide : (0 : Int32).toInt = 0) ez_36 (by omega) (by omega)
                  refine lv_istore (lv' := [(5, .int z_36), (6, .int v46_6), (0, .ref (ad 197)), (1, .int sd), (2, .int nn), (3, .int ic), (4, .int dy)]) hx hb dX12_luck_80 hl (by decide) rfl (fun ls hl => ?_)
                  obtain ⟨x_37, ex_37⟩ : ∃ y : Int32, y = v46_6 + 1 := ⟨_, rfl⟩
                  have hx_37 : x_37.toInt = v46_6.toInt + 1 := n_add rfl (by decide : (1 : Int32).toInt = 1) ex_37 (by omega) (by omega)
                  refine lv_iinc (v := x_37) (lv' := [(6, .int x_37), (5, .int z_36), (0, .ref (ad 197)), (1, .int sd), (2, .int nn), (3, .int ic), (4, .int dy)]) hx hb dX12_luck_82 hl (k := 1) rfl (by rw [ex_37]; rfl) (by decide) rfl (fun ls hl => ?_)
                  refine lv_goto (tgt := 46) hx hb dX12_luck_85 (by decide) ?_
                  exact ih46 x_37 z_36 g_27 _ _ ls (by omega) (by omega) hw_26W hfr_30 hP hS (lv_sub hl [0, 1, 2, 3, 4, 5, 6] rfl)
                · have hhc_35 := n_ne (rfl : r_33.toInt = r_33.toInt) (by decide : (0 : Int32).toInt = 0) hc_35
                  refine lv_iconst (v := 1) hx hb dX12_luck_74 (by decide) ?_
                  refine lv_goto (tgt := 79) hx hb dX12_luck_75 (by decide) ?_
                  refine lv_iadd hx hb dX12_luck_79 ?_
                  refine lv_topi (fun z_38 ez_38 => ?_)
                  refine lv_istore (lv' := [(5, .int z_38), (6, .int v46_6), (0, .ref (ad 197)), (1, .int sd), (2, .int nn), (3, .int ic), (4, .int dy)]) hx hb dX12_luck_80 hl (by decide) rfl (fun ls hl => ?_)
                  obtain ⟨x_39, ex_39⟩ : ∃ y : Int32, y = v46_6 + 1 := ⟨_, rfl⟩
                  have hx_39 : x_39.toInt = v46_6.toInt + 1 := n_add rfl (by decide : (1 : Int32).toInt = 1) ex_39 (by omega) (by omega)
                  refine lv_iinc (v := x_39) (lv' := [(6, .int x_39), (5, .int z_38), (0, .ref (ad 197)), (1, .int sd), (2, .int nn), (3, .int ic), (4, .int dy)]) hx hb dX12_luck_82 hl (k := 1) rfl (by rw [ex_39]; rfl) (by decide) rfl (fun ls hl => ?_)
                  refine lv_goto (tgt := 46) hx hb dX12_luck_85 (by decide) ?_
                  exact ih46 x_39 z_38 g_27 _ _ ls (by omega) (by omega) hw_26W hfr_30 hP hS (lv_sub hl [0, 1, 2, 3, 4, 5, 6] rfl)
          have hiv46_6 : (0 : Int32).toInt = 0 := by decide
          have hiv46_5 : (0 : Int32).toInt = 0 := by decide
          exact HL46 _ 0 0 g _ _ ls (Nat.lt_succ_self _) (by omega) hW hfr hP hS (lv_sub hl [0, 1, 2, 3, 4, 5, 6] rfl)
        · have hhc_21 := n_eq (rfl : r_20.toInt = r_20.toInt) (by decide : (0 : Int32).toInt = 0) hc_21
          exact HJ37 g _ _ ls hW hfr hP hS (lv_sub hl [] rfl)

theorem dX12_count_0 : decode cX12_count 0 = .ok (.iload_n 1, 1) := by decide +kernel
theorem dX12_count_1 : decode cX12_count 1 = .ok (.i2l, 1) := by decide +kernel
theorem dX12_count_2 : decode cX12_count 2 = .ok (.lconst 0, 1) := by decide +kernel
theorem dX12_count_3 : decode cX12_count 3 = .ok (.ldc2_w 429, 3) := by decide +kernel
theorem dX12_count_6 : decode cX12_count 6 = .ok (.invokestatic 82, 3) := by decide +kernel
theorem dX12_count_9 : decode cX12_count 9 = .ok (.ifCond .eq 10, 3) := by decide +kernel
theorem dX12_count_12 : decode cX12_count 12 = .ok (.aload_n 0, 1) := by decide +kernel
theorem dX12_count_13 : decode cX12_count 13 = .ok (.getfield 9, 3) := by decide +kernel
theorem dX12_count_16 : decode cX12_count 16 = .ok (.iload_n 1, 1) := by decide +kernel
theorem dX12_count_17 : decode cX12_count 17 = .ok (.iaload, 1) := by decide +kernel
theorem dX12_count_18 : decode cX12_count 18 = .ok (.ireturn, 1) := by decide +kernel
theorem dX12_count_19 : decode cX12_count 19 = .ok (.iload_n 1, 1) := by decide +kernel
theorem dX12_count_20 : decode cX12_count 20 = .ok (.bipush 9, 2) := by decide +kernel
theorem dX12_count_22 : decode cX12_count 22 = .ok (.if_icmp .ne 8, 3) := by decide +kernel
theorem dX12_count_25 : decode cX12_count 25 = .ok (.aload_n 0, 1) := by decide +kernel
theorem dX12_count_26 : decode cX12_count 26 = .ok (.getfield 86, 3) := by decide +kernel
theorem dX12_count_29 : decode cX12_count 29 = .ok (.ireturn, 1) := by decide +kernel
theorem dX12_count_30 : decode cX12_count 30 = .ok (.iload_n 1, 1) := by decide +kernel
theorem dX12_count_31 : decode cX12_count 31 = .ok (.bipush 10, 2) := by decide +kernel
theorem dX12_count_33 : decode cX12_count 33 = .ok (.if_icmp .eq 5, 3) := by decide +kernel
theorem dX12_count_36 : decode cX12_count 36 = .ok (.iconst (-1), 1) := by decide +kernel
theorem dX12_count_37 : decode cX12_count 37 = .ok (.ireturn, 1) := by decide +kernel
theorem dX12_count_38 : decode cX12_count 38 = .ok (.iconst 0, 1) := by decide +kernel
theorem dX12_count_39 : decode cX12_count 39 = .ok (.istore_n 2, 1) := by decide +kernel
theorem dX12_count_40 : decode cX12_count 40 = .ok (.iconst 0, 1) := by decide +kernel
theorem dX12_count_41 : decode cX12_count 41 = .ok (.istore_n 3, 1) := by decide +kernel
theorem dX12_count_42 : decode cX12_count 42 = .ok (.iload_n 3, 1) := by decide +kernel
theorem dX12_count_43 : decode cX12_count 43 = .ok (.iconst 4, 1) := by decide +kernel
theorem dX12_count_44 : decode cX12_count 44 = .ok (.if_icmp .ge 27, 3) := by decide +kernel
theorem dX12_count_47 : decode cX12_count 47 = .ok (.iload_n 2, 1) := by decide +kernel
theorem dX12_count_48 : decode cX12_count 48 = .ok (.aload_n 0, 1) := by decide +kernel
theorem dX12_count_49 : decode cX12_count 49 = .ok (.getfield 65, 3) := by decide +kernel
theorem dX12_count_52 : decode cX12_count 52 = .ok (.iload_n 3, 1) := by decide +kernel
theorem dX12_count_53 : decode cX12_count 53 = .ok (.iaload, 1) := by decide +kernel
theorem dX12_count_54 : decode cX12_count 54 = .ok (.iconst (-1), 1) := by decide +kernel
theorem dX12_count_55 : decode cX12_count 55 = .ok (.if_icmp .ne 7, 3) := by decide +kernel
theorem dX12_count_58 : decode cX12_count 58 = .ok (.iconst 0, 1) := by decide +kernel
theorem dX12_count_59 : decode cX12_count 59 = .ok (.goto 4, 3) := by decide +kernel
theorem dX12_count_62 : decode cX12_count 62 = .ok (.iconst 1, 1) := by decide +kernel
theorem dX12_count_63 : decode cX12_count 63 = .ok (.iadd, 1) := by decide +kernel
theorem dX12_count_64 : decode cX12_count 64 = .ok (.istore_n 2, 1) := by decide +kernel
theorem dX12_count_65 : decode cX12_count 65 = .ok (.iinc 3 1, 3) := by decide +kernel
theorem dX12_count_68 : decode cX12_count 68 = .ok (.goto (-26), 3) := by decide +kernel
theorem dX12_count_71 : decode cX12_count 71 = .ok (.iload_n 2, 1) := by decide +kernel
theorem dX12_count_72 : decode cX12_count 72 = .ok (.ireturn, 1) := by decide +kernel
noncomputable def vX12_count : List Cond := .code yX12_count cX12_count 4 (some .int) :: (([.constantLong RX12 429 (8), .methodLink RX12 82 yX12_in, .static yX12_in, .initialized RX12, .fieldLink RX12 9 "IcicleClockModel" "world" "[I", .fieldLink RX12 86 "IcicleClockModel" "taped" "I", .fieldLink RX12 65 "IcicleClockModel" "many" "[I"] : List Cond) ++ (wsX120 ++ vX12_in))
theorem iX12_count_12 : ∀ w ∈ wsX120, w ∈ vX12_count := fun _ h => List.mem_cons_of_mem _ (List.mem_append_right _ (List.mem_append_left _ h))
theorem gs_X12_count : Gd vX12_count := Gd.cons (by decide +kernel) (Gd.app (Gd.r (by decide +kernel)) (Gd.app gwX_12 gs_X12_in))
theorem gg_X12_count_X12_in : GoodIn vX12_count (wsS RX12 82 yX12_in vX12_in) := goodIn_app (goodIn_r _ [2, 3, 4] (by decide +kernel) (by decide +kernel)) (fun w h => ⟨List.mem_cons_of_mem _ (List.mem_append_right _ (List.mem_append_right _ (h))), gs_X12_in w h⟩)
set_option maxHeartbeats 4000000 in
set_option maxRecDepth 100000 in
theorem s_X12_count (l : Launch) (D : va_G) (cs : Nat → ClassId) (ad : Nat → Nat) (kS : kSt) (K : sK) (hKO : KO K) (hj : wJ ad 218) (g : Nat → va_E) (hW : WF (shp ad K) ad cs g) (wh : Int32) : sI l yX12_count vX12_count { frames := 1, cells := 0, slots := 0, locals := 25 } D cs ad kS [.ref (ad 197), .int wh] g (fun r g2 => g2 = g) := by
  refine Met.startS (cc := cX12_count) (maxL := 4) (ret := (some .int)) RX12 rfl (by decide) rfl (Nat.le_of_ble_eq_true rfl) ?_
  intro p e s m below meth c ls X Z hP hl
  have hx := X.1
  have hb := X.2.1
  have hS : va_S (wA ad 218) s.heap s.heap [] := va_S.rf
  have hA : ∀ i, i < 218 → wA ad 218 (ad i) := fun i h => ⟨i, h, rfl⟩
  have hl : lv_has ls 4 [(0, .ref (ad 197)), (1, .int wh)] := hl
  refine lv_iload_n hx hb dX12_count_0 rfl (lv_at hl 1 rfl) ?_
  refine lv_i2l hx hb dX12_count_1 rfl ?_
  refine lv_topl (fun z_1 ez_1 => ?_)
  have hz_1 : z_1.toInt = wh.toInt := ez_1 ▸ j_of rfl
  have := n_hi wh
  have := n_lo wh
  refine lv_lconst (v := 0) hx hb dX12_count_2 (by decide) ?_
  refine lv_ldc2 (v := 8) hx hb X.2.2.2.2.2.1 (X.2.2.2.2.1 _ (List.mem_of_getElem? (i := 1) rfl)) dX12_count_3 ?_
  refine s_callSi (As := [.long z_1, .long 0, .long 8]) (rest := []) X Z (s_X12_in l D cs ad kS K hKO hj g hW z_1 0 8) (cwS 3 X.2.2.2.2.1 gg_X12_count_X12_in rfl rfl rfl (by decide +kernel) ⟨Nat.le_of_ble_eq_true rfl, Nat.le_of_ble_eq_true rfl⟩) hP hA hS.2.1 hS rfl hl.1 rfl (Nat.le_of_ble_eq_true rfl) dX12_count_6 ⟨Nat.le_of_ble_eq_true rfl, Nat.le_of_ble_eq_true rfl⟩ (fun r_4 g_3 H locs hw_2 hP hS => ?_)
  obtain ⟨hw_2g, hw_2⟩ := hw_2
  rw [hw_2g] at hP
  have hqk_5 : (0 : Int64).toInt = 0 := by decide
  have hqk_6 : (8 : Int64).toInt = 8 := by decide
  refine lv_if_eq (tgt := 19) hx hb dX12_count_9 (by decide) (fun hc_7 => ?_) (fun hc_7 => ?_)
  · have hhc_7 := n_eq (rfl : r_4.toInt = r_4.toInt) (by decide : (0 : Int32).toInt = 0) hc_7
    refine lv_iload_n hx hb dX12_count_19 rfl (lv_at hl 1 rfl) ?_
    refine lv_bipush (v := 9) hx hb dX12_count_20 (by decide) ?_
    refine lv_icmp_ne (tgt := 30) hx hb dX12_count_22 (by decide) (fun hc_8 => ?_) (fun hc_8 => ?_)
    · have hhc_8 := n_ne (rfl : wh.toInt = wh.toInt) (by decide : (9 : Int32).toInt = 9) hc_8
      refine lv_iload_n hx hb dX12_count_30 rfl (lv_at hl 1 rfl) ?_
      refine lv_bipush (v := 10) hx hb dX12_count_31 (by decide) ?_
      refine lv_icmp_eq (tgt := 38) hx hb dX12_count_33 (by decide) (fun hc_9 => ?_) (fun hc_9 => ?_)
      · have hhc_9 := n_eq (rfl : wh.toInt = wh.toInt) (by decide : (10 : Int32).toInt = 10) hc_9
        refine lv_iconst (v := 0) hx hb dX12_count_38 (by decide) ?_
        refine lv_istore_n (lv' := [(2, .int 0), (0, .ref (ad 197)), (1, .int wh)]) hx hb dX12_count_39 rfl hl (by decide) rfl (fun ls hl => ?_)
        refine lv_iconst (v := 0) hx hb dX12_count_40 (by decide) ?_
        refine lv_istore_n (lv' := [(3, .int 0), (2, .int 0), (0, .ref (ad 197)), (1, .int wh)]) hx hb dX12_count_41 rfl hl (by decide) rfl (fun ls hl => ?_)
        have HL42 : ∀ (n42 : Nat) (v42_3 : Int32) (v42_2 : Int32) (H : Heap) (locs : List Loc) (ls : Array Slot), (4 - v42_3.toInt).toNat < n42 → (0 ≤ v42_3.toInt ∧ v42_3.toInt ≤ 4) → va_P D vwCl (wL ad g 218) H → va_S (wA ad 218) s.heap H locs → lv_has ls 4 [(3, .int v42_3), (2, .int v42_2), (0, .ref (ad 197))] → W p l e ({ frames := 1, cells := 0, slots := 0, locals := 25 } : Room) s m ([.ref (ad 197), .int wh] : List Value).toArray below meth c H locs 0 0 (MQ below (qI D ad 218 (fun r g2 => g2 = g)) ([.ref (ad 197), .int wh] : List Value).toArray s 0 0 (wA ad 218)) (F0 m 42 ls []) := by
          intro n42
          induction n42 with
          | zero =>
            intro v42_3 v42_2 H locs ls hm42 hv42_0 hP hS hl
            exact absurd hm42 (Nat.not_lt_zero _)
          | succ n42 ih42 =>
            intro v42_3 v42_2 H locs ls hm42 hv42_0 hP hS hl
            refine lv_iload_n hx hb dX12_count_42 rfl (lv_at hl 0 rfl) ?_
            refine lv_iconst (v := 4) hx hb dX12_count_43 (by decide) ?_
            refine lv_icmp_ge (tgt := 71) hx hb dX12_count_44 (by decide) (fun hc_10 => ?_) (fun hc_10 => ?_)
            · have hhc_10 := n_le (by decide : (4 : Int32).toInt = 4) (rfl : v42_3.toInt = v42_3.toInt) hc_10
              refine lv_iload_n hx hb dX12_count_71 rfl (lv_at hl 1 rfl) ?_
              exact q_iret X hP hS rfl dX12_count_72
            · have hhc_10 := n_nle (by decide : (4 : Int32).toInt = 4) (rfl : v42_3.toInt = v42_3.toInt) hc_10
              refine lv_iload_n hx hb dX12_count_47 rfl (lv_at hl 1 rfl) ?_
              refine lv_aload_n hx hb dX12_count_48 rfl (lv_at hl 2 rfl) ?_
              obtain ⟨fsc_11, hgc_11, hOc_11⟩ := hW.obj (i := 197) (by decide) (sh_197 ad K)
              have hk_12 := hOc_11.ref 36 rfl
              refine q_get X iX12_count_12 hP (by decide) hgc_11 rfl 36 (by decide) (List.mem_of_getElem? (i := 7) rfl) (v := .ref (ad 214)) hk_12 dX12_count_49 ?_
              refine lv_iload_n hx hb dX12_count_52 rfl (lv_at hl 0 rfl) ?_
              obtain ⟨fc_13, hgc_13, hFc_13⟩ := hW.arr (i := 214) (by decide) (sh_214 ad K)
              refine q_iald X hP (by decide) hgc_13 (n_in (rfl : v42_3.toInt = v42_3.toInt) (by omega) (by omega)) dX12_count_53 ?_
              refine lv_topi (fun z_14 ez_14 => ?_)
              have hqz_14 : z_14.toInt = (K.2.2.2.2.1 (v42_3.toNatClampNeg)).toInt := ez_14 ▸ hFc_13 _
              have hcz_14 := n_cl (rfl : v42_3.toInt = v42_3.toInt) (by omega)
              have hKOz_14 := hKO (v42_3.toNatClampNeg)
              have hz_14 : -1 ≤ z_14.toInt ∧ z_14.toInt ≤ 60 := by omega
              refine lv_iconst (v := (-1)) hx hb dX12_count_54 (by decide) ?_
              refine lv_icmp_ne (tgt := 62) hx hb dX12_count_55 (by decide) (fun hc_15 => ?_) (fun hc_15 => ?_)
              · have hhc_15 := n_ne (rfl : z_14.toInt = z_14.toInt) (by decide : (-1 : Int32).toInt = -1) hc_15
                refine lv_iconst (v := 1) hx hb dX12_count_62 (by decide) ?_
                refine lv_iadd hx hb dX12_count_63 ?_
                refine lv_topi (fun z_16 ez_16 => ?_)
                refine lv_istore_n (lv' := [(2, .int z_16), (3, .int v42_3), (0, .ref (ad 197))]) hx hb dX12_count_64 rfl hl (by decide) rfl (fun ls hl => ?_)
                obtain ⟨x_17, ex_17⟩ : ∃ y : Int32, y = v42_3 + 1 := ⟨_, rfl⟩
                have hx_17 : x_17.toInt = v42_3.toInt + 1 := n_add rfl (by decide : (1 : Int32).toInt = 1) ex_17 (by omega) (by omega)
                refine lv_iinc (v := x_17) (lv' := [(3, .int x_17), (2, .int z_16), (0, .ref (ad 197))]) hx hb dX12_count_65 hl (k := 1) rfl (by rw [ex_17]; rfl) (by decide) rfl (fun ls hl => ?_)
                refine lv_goto (tgt := 42) hx hb dX12_count_68 (by decide) ?_
                exact ih42 x_17 z_16 _ _ ls (by omega) (by omega) hP hS (lv_sub hl [0, 1, 2] rfl)
              · have hhc_15 := n_eq (rfl : z_14.toInt = z_14.toInt) (by decide : (-1 : Int32).toInt = -1) hc_15
                refine lv_iconst (v := 0) hx hb dX12_count_58 (by decide) ?_
                refine lv_goto (tgt := 63) hx hb dX12_count_59 (by decide) ?_
                refine lv_iadd hx hb dX12_count_63 ?_
                refine lv_topi (fun z_18 ez_18 => ?_)
                have := n_hi v42_2
                have := n_lo v42_2
                have hz_18 : z_18.toInt = v42_2.toInt + 0 := n_add (rfl : v42_2.toInt = v42_2.toInt) (by decide : (0 : Int32).toInt = 0) ez_18 (by omega) (by omega)
                refine lv_istore_n (lv' := [(2, .int z_18), (3, .int v42_3), (0, .ref (ad 197))]) hx hb dX12_count_64 rfl hl (by decide) rfl (fun ls hl => ?_)
                obtain ⟨x_19, ex_19⟩ : ∃ y : Int32, y = v42_3 + 1 := ⟨_, rfl⟩
                have hx_19 : x_19.toInt = v42_3.toInt + 1 := n_add rfl (by decide : (1 : Int32).toInt = 1) ex_19 (by omega) (by omega)
                refine lv_iinc (v := x_19) (lv' := [(3, .int x_19), (2, .int z_18), (0, .ref (ad 197))]) hx hb dX12_count_65 hl (k := 1) rfl (by rw [ex_19]; rfl) (by decide) rfl (fun ls hl => ?_)
                refine lv_goto (tgt := 42) hx hb dX12_count_68 (by decide) ?_
                exact ih42 x_19 z_18 _ _ ls (by omega) (by omega) hP hS (lv_sub hl [0, 1, 2] rfl)
        have hiv42_3 : (0 : Int32).toInt = 0 := by decide
        have hiv42_2 : (0 : Int32).toInt = 0 := by decide
        exact HL42 _ 0 0 _ _ ls (Nat.lt_succ_self _) (by omega) hP hS (lv_sub hl [0, 1, 2] rfl)
      · have hhc_9 := n_ne (rfl : wh.toInt = wh.toInt) (by decide : (10 : Int32).toInt = 10) hc_9
        refine lv_iconst (v := (-1)) hx hb dX12_count_36 (by decide) ?_
        exact q_iret X hP hS rfl dX12_count_37
    · have hhc_8 := n_eq (rfl : wh.toInt = wh.toInt) (by decide : (9 : Int32).toInt = 9) hc_8
      refine lv_aload_n hx hb dX12_count_25 rfl (lv_at hl 0 rfl) ?_
      obtain ⟨fsc_20, hgc_20, hOc_20⟩ := hW.obj (i := 197) (by decide) (sh_197 ad K)
      obtain ⟨x_22, hk_21, hlx_22, hhx_22⟩ := hOc_20.int 5 rfl
      refine q_get X iX12_count_12 hP (by decide) hgc_20 rfl 5 (by decide) (List.mem_of_getElem? (i := 6) rfl) (v := .int x_22) hk_21 dX12_count_26 ?_
      exact q_iret X hP hS rfl dX12_count_29
  · have hhc_7 := n_ne (rfl : r_4.toInt = r_4.toInt) (by decide : (0 : Int32).toInt = 0) hc_7
    refine lv_aload_n hx hb dX12_count_12 rfl (lv_at hl 0 rfl) ?_
    obtain ⟨fsc_23, hgc_23, hOc_23⟩ := hW.obj (i := 197) (by decide) (sh_197 ad K)
    have hk_24 := hOc_23.ref 1 rfl
    refine q_get X iX12_count_12 hP (by decide) hgc_23 rfl 1 (by decide) (List.mem_of_getElem? (i := 5) rfl) (v := .ref (ad 198)) hk_24 dX12_count_13 ?_
    refine lv_iload_n hx hb dX12_count_16 rfl (lv_at hl 1 rfl) ?_
    obtain ⟨fc_25, hgc_25, hFc_25⟩ := hW.arr (i := 198) (by decide) (sh_198 ad K)
    refine q_iald X hP (by decide) hgc_25 (n_in (rfl : wh.toInt = wh.toInt) (by omega) (by omega)) dX12_count_17 ?_
    refine lv_topi (fun z_26 ez_26 => ?_)
    exact q_iret X hP hS rfl dX12_count_18

theorem dX12_feed_0 : decode cX12_feed 0 = .ok (.aload_n 0, 1) := by decide +kernel
theorem dX12_feed_1 : decode cX12_feed 1 = .ok (.getfield 86, 3) := by decide +kernel
theorem dX12_feed_4 : decode cX12_feed 4 = .ok (.bipush 20, 2) := by decide +kernel
theorem dX12_feed_6 : decode cX12_feed 6 = .ok (.iadd, 1) := by decide +kernel
theorem dX12_feed_7 : decode cX12_feed 7 = .ok (.sipush 1000, 3) := by decide +kernel
theorem dX12_feed_10 : decode cX12_feed 10 = .ok (.if_icmp .le 5, 3) := by decide +kernel
theorem dX12_feed_13 : decode cX12_feed 13 = .ok (.iconst (-1), 1) := by decide +kernel
theorem dX12_feed_14 : decode cX12_feed 14 = .ok (.ireturn, 1) := by decide +kernel
theorem dX12_feed_15 : decode cX12_feed 15 = .ok (.aload_n 0, 1) := by decide +kernel
theorem dX12_feed_16 : decode cX12_feed 16 = .ok (.getfield 24, 3) := by decide +kernel
theorem dX12_feed_19 : decode cX12_feed 19 = .ok (.iconst 0, 1) := by decide +kernel
theorem dX12_feed_20 : decode cX12_feed 20 = .ok (.iload_n 1, 1) := by decide +kernel
theorem dX12_feed_21 : decode cX12_feed 21 = .ok (.iastore, 1) := by decide +kernel
theorem dX12_feed_22 : decode cX12_feed 22 = .ok (.aload_n 0, 1) := by decide +kernel
theorem dX12_feed_23 : decode cX12_feed 23 = .ok (.getfield 24, 3) := by decide +kernel
theorem dX12_feed_26 : decode cX12_feed 26 = .ok (.iconst 1, 1) := by decide +kernel
theorem dX12_feed_27 : decode cX12_feed 27 = .ok (.iload_n 2, 1) := by decide +kernel
theorem dX12_feed_28 : decode cX12_feed 28 = .ok (.iastore, 1) := by decide +kernel
theorem dX12_feed_29 : decode cX12_feed 29 = .ok (.aload_n 0, 1) := by decide +kernel
theorem dX12_feed_30 : decode cX12_feed 30 = .ok (.getfield 24, 3) := by decide +kernel
theorem dX12_feed_33 : decode cX12_feed 33 = .ok (.iconst 2, 1) := by decide +kernel
theorem dX12_feed_34 : decode cX12_feed 34 = .ok (.iload_n 3, 1) := by decide +kernel
theorem dX12_feed_35 : decode cX12_feed 35 = .ok (.iastore, 1) := by decide +kernel
theorem dX12_feed_36 : decode cX12_feed 36 = .ok (.aload_n 0, 1) := by decide +kernel
theorem dX12_feed_37 : decode cX12_feed 37 = .ok (.getfield 24, 3) := by decide +kernel
theorem dX12_feed_40 : decode cX12_feed 40 = .ok (.iconst 3, 1) := by decide +kernel
theorem dX12_feed_41 : decode cX12_feed 41 = .ok (.iload 4, 2) := by decide +kernel
theorem dX12_feed_43 : decode cX12_feed 43 = .ok (.iastore, 1) := by decide +kernel
theorem dX12_feed_44 : decode cX12_feed 44 = .ok (.aload_n 0, 1) := by decide +kernel
theorem dX12_feed_45 : decode cX12_feed 45 = .ok (.getfield 24, 3) := by decide +kernel
theorem dX12_feed_48 : decode cX12_feed 48 = .ok (.iconst 4, 1) := by decide +kernel
theorem dX12_feed_49 : decode cX12_feed 49 = .ok (.iload 5, 2) := by decide +kernel
theorem dX12_feed_51 : decode cX12_feed 51 = .ok (.iastore, 1) := by decide +kernel
theorem dX12_feed_52 : decode cX12_feed 52 = .ok (.iconst 0, 1) := by decide +kernel
theorem dX12_feed_53 : decode cX12_feed 53 = .ok (.istore 6, 2) := by decide +kernel
theorem dX12_feed_55 : decode cX12_feed 55 = .ok (.iload 6, 2) := by decide +kernel
theorem dX12_feed_57 : decode cX12_feed 57 = .ok (.bipush 20, 2) := by decide +kernel
theorem dX12_feed_59 : decode cX12_feed 59 = .ok (.if_icmp .ge 42, 3) := by decide +kernel
theorem dX12_feed_62 : decode cX12_feed 62 = .ok (.aload_n 0, 1) := by decide +kernel
theorem dX12_feed_63 : decode cX12_feed 63 = .ok (.getfield 20, 3) := by decide +kernel
theorem dX12_feed_66 : decode cX12_feed 66 = .ok (.aload_n 0, 1) := by decide +kernel
theorem dX12_feed_67 : decode cX12_feed 67 = .ok (.getfield 86, 3) := by decide +kernel
theorem dX12_feed_70 : decode cX12_feed 70 = .ok (.iload 6, 2) := by decide +kernel
theorem dX12_feed_72 : decode cX12_feed 72 = .ok (.iadd, 1) := by decide +kernel
theorem dX12_feed_73 : decode cX12_feed 73 = .ok (.aload_n 0, 1) := by decide +kernel
theorem dX12_feed_74 : decode cX12_feed 74 = .ok (.getfield 24, 3) := by decide +kernel
theorem dX12_feed_77 : decode cX12_feed 77 = .ok (.iload 6, 2) := by decide +kernel
theorem dX12_feed_79 : decode cX12_feed 79 = .ok (.iconst 4, 1) := by decide +kernel
theorem dX12_feed_80 : decode cX12_feed 80 = .ok (.idiv, 1) := by decide +kernel
theorem dX12_feed_81 : decode cX12_feed 81 = .ok (.iaload, 1) := by decide +kernel
theorem dX12_feed_82 : decode cX12_feed 82 = .ok (.bipush 24, 2) := by decide +kernel
theorem dX12_feed_84 : decode cX12_feed 84 = .ok (.bipush 8, 2) := by decide +kernel
theorem dX12_feed_86 : decode cX12_feed 86 = .ok (.iload 6, 2) := by decide +kernel
theorem dX12_feed_88 : decode cX12_feed 88 = .ok (.iconst 4, 1) := by decide +kernel
theorem dX12_feed_89 : decode cX12_feed 89 = .ok (.irem, 1) := by decide +kernel
theorem dX12_feed_90 : decode cX12_feed 90 = .ok (.imul, 1) := by decide +kernel
theorem dX12_feed_91 : decode cX12_feed 91 = .ok (.isub, 1) := by decide +kernel
theorem dX12_feed_92 : decode cX12_feed 92 = .ok (.ishr, 1) := by decide +kernel
theorem dX12_feed_93 : decode cX12_feed 93 = .ok (.i2b, 1) := by decide +kernel
theorem dX12_feed_94 : decode cX12_feed 94 = .ok (.bastore, 1) := by decide +kernel
theorem dX12_feed_95 : decode cX12_feed 95 = .ok (.iinc 6 1, 3) := by decide +kernel
theorem dX12_feed_98 : decode cX12_feed 98 = .ok (.goto (-43), 3) := by decide +kernel
theorem dX12_feed_101 : decode cX12_feed 101 = .ok (.aload_n 0, 1) := by decide +kernel
theorem dX12_feed_102 : decode cX12_feed 102 = .ok (.dup, 1) := by decide +kernel
theorem dX12_feed_103 : decode cX12_feed 103 = .ok (.getfield 86, 3) := by decide +kernel
theorem dX12_feed_106 : decode cX12_feed 106 = .ok (.bipush 20, 2) := by decide +kernel
theorem dX12_feed_108 : decode cX12_feed 108 = .ok (.iadd, 1) := by decide +kernel
theorem dX12_feed_109 : decode cX12_feed 109 = .ok (.putfield 86, 3) := by decide +kernel
theorem dX12_feed_112 : decode cX12_feed 112 = .ok (.aload_n 0, 1) := by decide +kernel
theorem dX12_feed_113 : decode cX12_feed 113 = .ok (.getfield 86, 3) := by decide +kernel
theorem dX12_feed_116 : decode cX12_feed 116 = .ok (.ireturn, 1) := by decide +kernel
noncomputable def vX12_feed : List Cond := .code yX12_feed cX12_feed 7 (some .int) :: (([.fieldLink RX12 86 "IcicleClockModel" "taped" "I", .fieldLink RX12 24 "IcicleClockModel" "five" "[I", .fieldLink RX12 20 "IcicleClockModel" "tape" "[B"] : List Cond) ++ wsX120)
theorem iX12_feed_12 : ∀ w ∈ wsX120, w ∈ vX12_feed := fun _ h => List.mem_cons_of_mem _ (List.mem_append_right _ (h))
theorem gs_X12_feed : Gd vX12_feed := Gd.cons (by decide +kernel) (Gd.app (Gd.r (by decide +kernel)) gwX_12)
set_option maxHeartbeats 4000000 in
set_option maxRecDepth 100000 in
theorem s_X12_feed (l : Launch) (D : va_G) (cs : Nat → ClassId) (ad : Nat → Nat) (kS : kSt) (K : sK) (hKO : KO K) (hj : wJ ad 218) (g : Nat → va_E) (hW : WF (shp ad K) ad cs g) (a1 : Int32) (a2 : Int32) (a3 : Int32) (a4 : Int32) (a5 : Int32) : sI l yX12_feed vX12_feed { frames := 0, cells := 0, slots := 0, locals := 0 } D cs ad kS [.ref (ad 197), .int a1, .int a2, .int a3, .int a4, .int a5] g (fun r g2 => WF (shp ad K) ad cs g2 ∧ (∀ j, j ≠ 197 ∧ j ≠ 201 ∧ j ≠ 202 → g2 j = g j)) := by
  refine Met.startS (cc := cX12_feed) (maxL := 7) (ret := (some .int)) RX12 rfl (by decide) rfl (Nat.le_of_ble_eq_true rfl) ?_
  intro p e s m below meth c ls X Z hP hl
  have hx := X.1
  have hb := X.2.1
  have hS : va_S (wA ad 218) s.heap s.heap [] := va_S.rf
  have hA : ∀ i, i < 218 → wA ad 218 (ad i) := fun i h => ⟨i, h, rfl⟩
  have hfr : ∀ j, j ≠ 197 ∧ j ≠ 201 ∧ j ≠ 202 → g j = g j := fun _ _ => rfl
  have hl : lv_has ls 7 [(0, .ref (ad 197)), (1, .int a1), (2, .int a2), (3, .int a3), (4, .int a4), (5, .int a5)] := hl
  obtain ⟨fsc_1, hgc_1, hOc_1⟩ := hW.obj (i := 197) (by decide) (sh_197 ad K)
  obtain ⟨x_3, hk_2, hlx_3, hhx_3⟩ := hOc_1.int 5 rfl
  have hgix_3 := gI_of hgc_1 hk_2
  refine lv_aload_n hx hb dX12_feed_0 rfl (lv_at hl 0 rfl) ?_
  refine q_get X iX12_feed_12 hP (by decide) hgc_1 rfl 5 (by decide) (List.mem_of_getElem? (i := 1) rfl) (v := .int x_3) hk_2 dX12_feed_1 ?_
  refine lv_bipush (v := 20) hx hb dX12_feed_4 (by decide) ?_
  refine lv_iadd hx hb dX12_feed_6 ?_
  refine lv_topi (fun z_4 ez_4 => ?_)
  have hz_4 : z_4.toInt = x_3.toInt + 20 := n_add (rfl : x_3.toInt = x_3.toInt) (by decide : (20 : Int32).toInt = 20) ez_4 (by omega) (by omega)
  refine lv_sipush (v := 1000) hx hb dX12_feed_7 (by decide) ?_
  refine lv_icmp_le (tgt := 15) hx hb dX12_feed_10 (by decide) (fun hc_5 => ?_) (fun hc_5 => ?_)
  · have hhc_5 := n_le (rfl : z_4.toInt = z_4.toInt) (by decide : (1000 : Int32).toInt = 1000) hc_5
    refine lv_aload_n hx hb dX12_feed_15 rfl (lv_at hl 0 rfl) ?_
    have hk_6 := hOc_1.ref 6 rfl
    refine q_get X iX12_feed_12 hP (by decide) hgc_1 rfl 6 (by decide) (List.mem_of_getElem? (i := 2) rfl) (v := .ref (ad 202)) hk_6 dX12_feed_16 ?_
    refine lv_iconst (v := 0) hx hb dX12_feed_19 (by decide) ?_
    refine lv_iload_n hx hb dX12_feed_20 rfl (lv_at hl 1 rfl) ?_
    obtain ⟨fc_7, hgc_7, hFc_7⟩ := hW.arr (i := 202) (by decide) (sh_202 ad K)
    refine s_iast X hP hj hA hS (by decide) hgc_7 (by unfold vp_in; decide) dX12_feed_21 hW (sh_202 ad K) (hFc_7.put trivial) (fun fc_8 gc_8 H locs ec_8 hFc_8 hgc_8 hfc_8 hWc_8 hP hS => ?_)
    have hg_10 := (hfc_8 197 (by decide)).trans hgc_1
    have hfr_9 : ∀ j, j ≠ 197 ∧ j ≠ 201 ∧ j ≠ 202 → gc_8 j = g j := fun j hj => (hfc_8 j (by omega)).trans (hfr j hj)
    refine lv_aload_n hx hb dX12_feed_22 rfl (lv_at hl 0 rfl) ?_
    refine q_get X iX12_feed_12 hP (by decide) hg_10 rfl 6 (by decide) (List.mem_of_getElem? (i := 2) rfl) (v := .ref (ad 202)) hk_6 dX12_feed_23 ?_
    refine lv_iconst (v := 1) hx hb dX12_feed_26 (by decide) ?_
    refine lv_iload_n hx hb dX12_feed_27 rfl (lv_at hl 2 rfl) ?_
    refine s_iast X hP hj hA hS (by decide) hgc_8 (by unfold vp_in; decide) dX12_feed_28 hWc_8 (sh_202 ad K) (hFc_8.put trivial) (fun fc_11 gc_11 H locs ec_11 hFc_11 hgc_11 hfc_11 hWc_11 hP hS => ?_)
    have hg_13 := (hfc_11 197 (by decide)).trans hg_10
    have hfr_12 : ∀ j, j ≠ 197 ∧ j ≠ 201 ∧ j ≠ 202 → gc_11 j = g j := fun j hj => (hfc_11 j (by omega)).trans (hfr_9 j hj)
    refine lv_aload_n hx hb dX12_feed_29 rfl (lv_at hl 0 rfl) ?_
    refine q_get X iX12_feed_12 hP (by decide) hg_13 rfl 6 (by decide) (List.mem_of_getElem? (i := 2) rfl) (v := .ref (ad 202)) hk_6 dX12_feed_30 ?_
    refine lv_iconst (v := 2) hx hb dX12_feed_33 (by decide) ?_
    refine lv_iload_n hx hb dX12_feed_34 rfl (lv_at hl 3 rfl) ?_
    refine s_iast X hP hj hA hS (by decide) hgc_11 (by unfold vp_in; decide) dX12_feed_35 hWc_11 (sh_202 ad K) (hFc_11.put trivial) (fun fc_14 gc_14 H locs ec_14 hFc_14 hgc_14 hfc_14 hWc_14 hP hS => ?_)
    have hg_16 := (hfc_14 197 (by decide)).trans hg_13
    have hfr_15 : ∀ j, j ≠ 197 ∧ j ≠ 201 ∧ j ≠ 202 → gc_14 j = g j := fun j hj => (hfc_14 j (by omega)).trans (hfr_12 j hj)
    refine lv_aload_n hx hb dX12_feed_36 rfl (lv_at hl 0 rfl) ?_
    refine q_get X iX12_feed_12 hP (by decide) hg_16 rfl 6 (by decide) (List.mem_of_getElem? (i := 2) rfl) (v := .ref (ad 202)) hk_6 dX12_feed_37 ?_
    refine lv_iconst (v := 3) hx hb dX12_feed_40 (by decide) ?_
    refine lv_iload hx hb dX12_feed_41 (lv_at hl 4 rfl) ?_
    refine s_iast X hP hj hA hS (by decide) hgc_14 (by unfold vp_in; decide) dX12_feed_43 hWc_14 (sh_202 ad K) (hFc_14.put trivial) (fun fc_17 gc_17 H locs ec_17 hFc_17 hgc_17 hfc_17 hWc_17 hP hS => ?_)
    have hg_19 := (hfc_17 197 (by decide)).trans hg_16
    have hfr_18 : ∀ j, j ≠ 197 ∧ j ≠ 201 ∧ j ≠ 202 → gc_17 j = g j := fun j hj => (hfc_17 j (by omega)).trans (hfr_15 j hj)
    refine lv_aload_n hx hb dX12_feed_44 rfl (lv_at hl 0 rfl) ?_
    refine q_get X iX12_feed_12 hP (by decide) hg_19 rfl 6 (by decide) (List.mem_of_getElem? (i := 2) rfl) (v := .ref (ad 202)) hk_6 dX12_feed_45 ?_
    refine lv_iconst (v := 4) hx hb dX12_feed_48 (by decide) ?_
    refine lv_iload hx hb dX12_feed_49 (lv_at hl 5 rfl) ?_
    refine s_iast X hP hj hA hS (by decide) hgc_17 (by unfold vp_in; decide) dX12_feed_51 hWc_17 (sh_202 ad K) (hFc_17.put trivial) (fun fc_20 gc_20 H locs ec_20 hFc_20 hgc_20 hfc_20 hWc_20 hP hS => ?_)
    have hg_22 := (hfc_20 197 (by decide)).trans hg_19
    have hfr_21 : ∀ j, j ≠ 197 ∧ j ≠ 201 ∧ j ≠ 202 → gc_20 j = g j := fun j hj => (hfc_20 j (by omega)).trans (hfr_18 j hj)
    refine lv_iconst (v := 0) hx hb dX12_feed_52 (by decide) ?_
    refine lv_istore (lv' := [(6, .int 0), (0, .ref (ad 197)), (1, .int a1), (2, .int a2), (3, .int a3), (4, .int a4), (5, .int a5)]) hx hb dX12_feed_53 hl (by decide) rfl (fun ls hl => ?_)
    have HL55 : ∀ (n55 : Nat) (v55_6 : Int32) (G55 : Nat → va_E) (H : Heap) (locs : List Loc) (ls : Array Slot), (20 - v55_6.toInt).toNat < n55 → (0 ≤ v55_6.toInt ∧ v55_6.toInt ≤ 20) → gI G55 197 5 ≤ 980 → WF (shp ad K) ad cs G55 → (∀ j, j ≠ 197 ∧ j ≠ 201 ∧ j ≠ 202 → G55 j = g j) → va_P D vwCl (wL ad G55 218) H → va_S (wA ad 218) s.heap H locs → lv_has ls 7 [(6, .int v55_6), (0, .ref (ad 197))] → W p l e ({ frames := 0, cells := 0, slots := 0, locals := 0 } : Room) s m ([.ref (ad 197), .int a1, .int a2, .int a3, .int a4, .int a5] : List Value).toArray below meth c H locs 0 0 (MQ below (qI D ad 218 (fun r g2 => WF (shp ad K) ad cs g2 ∧ (∀ j, j ≠ 197 ∧ j ≠ 201 ∧ j ≠ 202 → g2 j = g j))) ([.ref (ad 197), .int a1, .int a2, .int a3, .int a4, .int a5] : List Value).toArray s 0 0 (wA ad 218)) (F0 m 55 ls []) := by
      intro n55
      induction n55 with
      | zero =>
        intro v55_6 G55 H locs ls hm55 hv55_0 he55_0 hW55 hfr55 hP hS hl
        exact absurd hm55 (Nat.not_lt_zero _)
      | succ n55 ih55 =>
        intro v55_6 G55 H locs ls hm55 hv55_0 he55_0 hW55 hfr55 hP hS hl
        refine lv_iload hx hb dX12_feed_55 (lv_at hl 0 rfl) ?_
        refine lv_bipush (v := 20) hx hb dX12_feed_57 (by decide) ?_
        refine lv_icmp_ge (tgt := 101) hx hb dX12_feed_59 (by decide) (fun hc_23 => ?_) (fun hc_23 => ?_)
        · have hhc_23 := n_le (by decide : (20 : Int32).toInt = 20) (rfl : v55_6.toInt = v55_6.toInt) hc_23
          refine lv_aload_n hx hb dX12_feed_101 rfl (lv_at hl 1 rfl) ?_
          refine lv_dup hx hb dX12_feed_102 rfl ?_
          obtain ⟨fsc_24, hgc_24, hOc_24⟩ := hW55.obj (i := 197) (by decide) (sh_197 ad K)
          obtain ⟨x_26, hk_25, hlx_26, hhx_26⟩ := hOc_24.int 5 rfl
          have hgix_26 := gI_of hgc_24 hk_25
          refine q_get X iX12_feed_12 hP (by decide) hgc_24 rfl 5 (by decide) (List.mem_of_getElem? (i := 1) rfl) (v := .int x_26) hk_25 dX12_feed_103 ?_
          refine lv_bipush (v := 20) hx hb dX12_feed_106 (by decide) ?_
          refine lv_iadd hx hb dX12_feed_108 ?_
          refine lv_topi (fun z_27 ez_27 => ?_)
          have hz_27 : z_27.toInt = x_26.toInt + 20 := n_add (rfl : x_26.toInt = x_26.toInt) (by decide : (20 : Int32).toInt = 20) ez_27 (by omega) (by omega)
          refine s_put X iX12_feed_12 tyX12 tyX12_ok nmX12 hP hj hA hS (by decide) hgc_24 rfl 5 (by decide) (List.mem_of_getElem? (i := 1) rfl) rfl (ty := .int) (v := .int z_27) (by decide +kernel) rfl rfl dX12_feed_109 hW55 (sh_197 ad K) hOc_24 rfl ⟨z_27, rfl, by omega, by omega⟩ (fun fsc_28 gc_28 H locs hOc_28 hkc_28 hnc_28 hgc_28 hfc_28 hWc_28 hP hS => ?_)
          have hfr_29 : ∀ j, j ≠ 197 ∧ j ≠ 201 ∧ j ≠ 202 → gc_28 j = g j := fun j hj => (hfc_28 j (by omega)).trans (hfr55 j hj)
          have hgi_30 := gI_of hgc_28 hkc_28
          refine lv_aload_n hx hb dX12_feed_112 rfl (lv_at hl 1 rfl) ?_
          refine q_get X iX12_feed_12 hP (by decide) hgc_28 rfl 5 (by decide) (List.mem_of_getElem? (i := 1) rfl) (v := .int z_27) hkc_28 dX12_feed_113 ?_
          exact q_iret X hP hS ⟨hWc_28, hfr_29⟩ dX12_feed_116
        · have hhc_23 := n_nle (by decide : (20 : Int32).toInt = 20) (rfl : v55_6.toInt = v55_6.toInt) hc_23
          refine lv_aload_n hx hb dX12_feed_62 rfl (lv_at hl 1 rfl) ?_
          obtain ⟨fsc_31, hgc_31, hOc_31⟩ := hW55.obj (i := 197) (by decide) (sh_197 ad K)
          have hk_32 := hOc_31.ref 4 rfl
          refine q_get X iX12_feed_12 hP (by decide) hgc_31 rfl 4 (by decide) (List.mem_of_getElem? (i := 3) rfl) (v := .ref (ad 201)) hk_32 dX12_feed_63 ?_
          refine lv_aload_n hx hb dX12_feed_66 rfl (lv_at hl 1 rfl) ?_
          obtain ⟨x_34, hk_33, hlx_34, hhx_34⟩ := hOc_31.int 5 rfl
          have hgix_34 := gI_of hgc_31 hk_33
          refine q_get X iX12_feed_12 hP (by decide) hgc_31 rfl 5 (by decide) (List.mem_of_getElem? (i := 1) rfl) (v := .int x_34) hk_33 dX12_feed_67 ?_
          refine lv_iload hx hb dX12_feed_70 (lv_at hl 0 rfl) ?_
          refine lv_iadd hx hb dX12_feed_72 ?_
          refine lv_topi (fun z_35 ez_35 => ?_)
          have hz_35 : z_35.toInt = x_34.toInt + v55_6.toInt := n_add (rfl : x_34.toInt = x_34.toInt) (rfl : v55_6.toInt = v55_6.toInt) ez_35 (by omega) (by omega)
          refine lv_aload_n hx hb dX12_feed_73 rfl (lv_at hl 1 rfl) ?_
          have hk_36 := hOc_31.ref 6 rfl
          refine q_get X iX12_feed_12 hP (by decide) hgc_31 rfl 6 (by decide) (List.mem_of_getElem? (i := 2) rfl) (v := .ref (ad 202)) hk_36 dX12_feed_74 ?_
          refine lv_iload hx hb dX12_feed_77 (lv_at hl 0 rfl) ?_
          refine lv_iconst (v := 4) hx hb dX12_feed_79 (by decide) ?_
          refine lv_idiv hx hb dX12_feed_80 (by decide) ?_
          refine lv_topi (fun z_37 ez_37 => ?_)
          have hz_37 : z_37.toInt = v55_6.toInt / 4 := n_div (rfl : v55_6.toInt = v55_6.toInt) (by decide : (4 : Int32).toInt = 4) ez_37 (by omega) (by decide)
          obtain ⟨fc_38, hgc_38, hFc_38⟩ := hW55.arr (i := 202) (by decide) (sh_202 ad K)
          refine q_iald X hP (by decide) hgc_38 (n_in (rfl : z_37.toInt = z_37.toInt) (by omega) (by omega)) dX12_feed_81 ?_
          refine lv_topi (fun z_39 ez_39 => ?_)
          refine lv_bipush (v := 24) hx hb dX12_feed_82 (by decide) ?_
          refine lv_bipush (v := 8) hx hb dX12_feed_84 (by decide) ?_
          refine lv_iload hx hb dX12_feed_86 (lv_at hl 0 rfl) ?_
          refine lv_iconst (v := 4) hx hb dX12_feed_88 (by decide) ?_
          refine lv_irem hx hb dX12_feed_89 (by decide) ?_
          refine lv_topi (fun z_40 ez_40 => ?_)
          have hz_40 : z_40.toInt = v55_6.toInt % 4 := n_rem (rfl : v55_6.toInt = v55_6.toInt) (by decide : (4 : Int32).toInt = 4) ez_40 (by omega) (by decide)
          refine lv_imul hx hb dX12_feed_90 ?_
          refine lv_topi (fun z_41 ez_41 => ?_)
          have hz_41 : z_41.toInt = 8 * z_40.toInt := n_mul (by decide : (8 : Int32).toInt = 8) (rfl : z_40.toInt = z_40.toInt) ez_41 (by omega) (by omega)
          refine lv_isub hx hb dX12_feed_91 ?_
          refine lv_topi (fun z_42 ez_42 => ?_)
          have hz_42 : z_42.toInt = 24 - z_41.toInt := n_sub (by decide : (24 : Int32).toInt = 24) (rfl : z_41.toInt = z_41.toInt) ez_42 (by omega) (by omega)
          refine lv_ishr hx hb dX12_feed_92 ?_
          refine lv_topi (fun z_43 ez_43 => ?_)
          refine lv_i2b hx hb dX12_feed_93 rfl ?_
          refine lv_topi (fun z_44 ez_44 => ?_)
          obtain ⟨fc_45, hgc_45, hFc_45⟩ := hW55.arr (i := 201) (by decide) (sh_201 ad K)
          refine s_bast X hP hj hA hS (by decide) hgc_45 (n_in (rfl : z_35.toInt = z_35.toInt) (by omega) (by omega)) dX12_feed_94 hW55 (sh_201 ad K) (hFc_45.put trivial) (fun fc_46 gc_46 H locs ec_46 hFc_46 hgc_46 hfc_46 hWc_46 hP hS => ?_)
          have hg_48 := (hfc_46 197 (by decide)).trans hgc_31
          have hg_49 := (hfc_46 202 (by decide)).trans hgc_38
          have hfr_47 : ∀ j, j ≠ 197 ∧ j ≠ 201 ∧ j ≠ 202 → gc_46 j = g j := fun j hj => (hfc_46 j (by omega)).trans (hfr55 j hj)
          obtain ⟨x_50, ex_50⟩ : ∃ y : Int32, y = v55_6 + 1 := ⟨_, rfl⟩
          have hx_50 : x_50.toInt = v55_6.toInt + 1 := n_add rfl (by decide : (1 : Int32).toInt = 1) ex_50 (by omega) (by omega)
          refine lv_iinc (v := x_50) (lv' := [(6, .int x_50), (0, .ref (ad 197))]) hx hb dX12_feed_95 hl (k := 0) rfl (by rw [ex_50]; rfl) (by decide) rfl (fun ls hl => ?_)
          refine lv_goto (tgt := 55) hx hb dX12_feed_98 (by decide) ?_
          have hgi_51 := gI_of hg_48 hk_33
          exact ih55 x_50 gc_46 _ _ ls (by omega) (by omega) (by omega) hWc_46 hfr_47 hP hS (lv_sub hl [0, 1] rfl)
    have hgi_52 := gI_of hg_22 hk_2
    have hiv55_6 : (0 : Int32).toInt = 0 := by decide
    exact HL55 _ 0 gc_20 _ _ ls (Nat.lt_succ_self _) (by omega) (by omega) hWc_20 hfr_21 hP hS (lv_sub hl [0, 1] rfl)
  · have hhc_5 := n_nle (rfl : z_4.toInt = z_4.toInt) (by decide : (1000 : Int32).toInt = 1000) hc_5
    refine lv_iconst (v := (-1)) hx hb dX12_feed_13 (by decide) ?_
    exact q_iret X hP hS ⟨hW, hfr⟩ dX12_feed_14

theorem dX12_end_0 : decode cX12_end 0 = .ok (.iload_n 1, 1) := by decide +kernel
theorem dX12_end_1 : decode cX12_end 1 = .ok (.i2l, 1) := by decide +kernel
theorem dX12_end_2 : decode cX12_end 2 = .ok (.lconst 0, 1) := by decide +kernel
theorem dX12_end_3 : decode cX12_end 3 = .ok (.aload_n 0, 1) := by decide +kernel
theorem dX12_end_4 : decode cX12_end 4 = .ok (.getfield 86, 3) := by decide +kernel
theorem dX12_end_7 : decode cX12_end 7 = .ok (.i2l, 1) := by decide +kernel
theorem dX12_end_8 : decode cX12_end 8 = .ok (.invokestatic 82, 3) := by decide +kernel
theorem dX12_end_11 : decode cX12_end 11 = .ok (.ifCond .ne 5, 3) := by decide +kernel
theorem dX12_end_14 : decode cX12_end 14 = .ok (.iconst (-1), 1) := by decide +kernel
theorem dX12_end_15 : decode cX12_end 15 = .ok (.ireturn, 1) := by decide +kernel
theorem dX12_end_16 : decode cX12_end 16 = .ok (.aload_n 0, 1) := by decide +kernel
theorem dX12_end_17 : decode cX12_end 17 = .ok (.iload_n 1, 1) := by decide +kernel
theorem dX12_end_18 : decode cX12_end 18 = .ok (.putfield 86, 3) := by decide +kernel
theorem dX12_end_21 : decode cX12_end 21 = .ok (.iload_n 1, 1) := by decide +kernel
theorem dX12_end_22 : decode cX12_end 22 = .ok (.ireturn, 1) := by decide +kernel
noncomputable def vX12_end : List Cond := .code yX12_end cX12_end 2 (some .int) :: (([.fieldLink RX12 86 "IcicleClockModel" "taped" "I", .methodLink RX12 82 yX12_in, .static yX12_in, .initialized RX12] : List Cond) ++ (wsX120 ++ vX12_in))
theorem iX12_end_12 : ∀ w ∈ wsX120, w ∈ vX12_end := fun _ h => List.mem_cons_of_mem _ (List.mem_append_right _ (List.mem_append_left _ h))
theorem gs_X12_end : Gd vX12_end := Gd.cons (by decide +kernel) (Gd.app (Gd.r (by decide +kernel)) (Gd.app gwX_12 gs_X12_in))
theorem gg_X12_end_X12_in : GoodIn vX12_end (wsS RX12 82 yX12_in vX12_in) := goodIn_app (goodIn_r _ [2, 3, 4] (by decide +kernel) (by decide +kernel)) (fun w h => ⟨List.mem_cons_of_mem _ (List.mem_append_right _ (List.mem_append_right _ (h))), gs_X12_in w h⟩)
set_option maxHeartbeats 4000000 in
set_option maxRecDepth 100000 in
theorem s_X12_end (l : Launch) (D : va_G) (cs : Nat → ClassId) (ad : Nat → Nat) (kS : kSt) (K : sK) (hKO : KO K) (hj : wJ ad 218) (g : Nat → va_E) (hW : WF (shp ad K) ad cs g) (nn : Int32) : sI l yX12_end vX12_end { frames := 1, cells := 0, slots := 0, locals := 25 } D cs ad kS [.ref (ad 197), .int nn] g (fun r g2 => WF (shp ad K) ad cs g2 ∧ (∀ j, j ≠ 197 → g2 j = g j)) := by
  refine Met.startS (cc := cX12_end) (maxL := 2) (ret := (some .int)) RX12 rfl (by decide) rfl (Nat.le_of_ble_eq_true rfl) ?_
  intro p e s m below meth c ls X Z hP hl
  have hx := X.1
  have hb := X.2.1
  have hS : va_S (wA ad 218) s.heap s.heap [] := va_S.rf
  have hA : ∀ i, i < 218 → wA ad 218 (ad i) := fun i h => ⟨i, h, rfl⟩
  have hfr : ∀ j, j ≠ 197 → g j = g j := fun _ _ => rfl
  have hl : lv_has ls 2 [(0, .ref (ad 197)), (1, .int nn)] := hl
  refine lv_iload_n hx hb dX12_end_0 rfl (lv_at hl 1 rfl) ?_
  refine lv_i2l hx hb dX12_end_1 rfl ?_
  refine lv_topl (fun z_1 ez_1 => ?_)
  have hz_1 : z_1.toInt = nn.toInt := ez_1 ▸ j_of rfl
  have := n_hi nn
  have := n_lo nn
  refine lv_lconst (v := 0) hx hb dX12_end_2 (by decide) ?_
  refine lv_aload_n hx hb dX12_end_3 rfl (lv_at hl 0 rfl) ?_
  obtain ⟨fsc_2, hgc_2, hOc_2⟩ := hW.obj (i := 197) (by decide) (sh_197 ad K)
  obtain ⟨x_4, hk_3, hlx_4, hhx_4⟩ := hOc_2.int 5 rfl
  refine q_get X iX12_end_12 hP (by decide) hgc_2 rfl 5 (by decide) (List.mem_of_getElem? (i := 1) rfl) (v := .int x_4) hk_3 dX12_end_4 ?_
  refine lv_i2l hx hb dX12_end_7 rfl ?_
  refine lv_topl (fun z_5 ez_5 => ?_)
  have hz_5 : z_5.toInt = x_4.toInt := ez_5 ▸ j_of rfl
  refine s_callSi (As := [.long z_1, .long 0, .long z_5]) (rest := []) X Z (s_X12_in l D cs ad kS K hKO hj g hW z_1 0 z_5) (cwS 3 X.2.2.2.2.1 gg_X12_end_X12_in rfl rfl rfl (by decide +kernel) ⟨Nat.le_of_ble_eq_true rfl, Nat.le_of_ble_eq_true rfl⟩) hP hA hS.2.1 hS rfl hl.1 rfl (Nat.le_of_ble_eq_true rfl) dX12_end_8 ⟨Nat.le_of_ble_eq_true rfl, Nat.le_of_ble_eq_true rfl⟩ (fun r_8 g_7 H locs hw_6 hP hS => ?_)
  obtain ⟨hw_6g, hw_6⟩ := hw_6
  rw [hw_6g] at hP
  have hqk_9 : (0 : Int64).toInt = 0 := by decide
  refine lv_if_ne (tgt := 16) hx hb dX12_end_11 (by decide) (fun hc_10 => ?_) (fun hc_10 => ?_)
  · have hhc_10 := n_ne (rfl : r_8.toInt = r_8.toInt) (by decide : (0 : Int32).toInt = 0) hc_10
    refine lv_aload_n hx hb dX12_end_16 rfl (lv_at hl 0 rfl) ?_
    refine lv_iload_n hx hb dX12_end_17 rfl (lv_at hl 1 rfl) ?_
    refine s_put X iX12_end_12 tyX12 tyX12_ok nmX12 hP hj hA hS (by decide) hgc_2 rfl 5 (by decide) (List.mem_of_getElem? (i := 1) rfl) rfl (ty := .int) (v := .int nn) (by decide +kernel) rfl rfl dX12_end_18 hW (sh_197 ad K) hOc_2 rfl ⟨nn, rfl, by omega, by omega⟩ (fun fsc_11 gc_11 H locs hOc_11 hkc_11 hnc_11 hgc_11 hfc_11 hWc_11 hP hS => ?_)
    have hfr_12 : ∀ j, j ≠ 197 → gc_11 j = g j := fun j hj => (hfc_11 j (by omega)).trans (hfr j hj)
    refine lv_iload_n hx hb dX12_end_21 rfl (lv_at hl 1 rfl) ?_
    exact q_iret X hP hS ⟨hWc_11, hfr_12⟩ dX12_end_22
  · have hhc_10 := n_eq (rfl : r_8.toInt = r_8.toInt) (by decide : (0 : Int32).toInt = 0) hc_10
    refine lv_iconst (v := (-1)) hx hb dX12_end_14 (by decide) ?_
    exact q_iret X hP hS ⟨hW, hfr⟩ dX12_end_15

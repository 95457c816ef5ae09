theorem dX7_readFirst_0 : decode cX7_readFirst 0 = .ok (.aload_n 0, 1) := by decide +kernel
theorem dX7_readFirst_1 : decode cX7_readFirst 1 = .ok (.aload_n 0, 1) := by decide +kernel
theorem dX7_readFirst_2 : decode cX7_readFirst 2 = .ok (.ldc 78, 2) := by decide +kernel
theorem dX7_readFirst_4 : decode cX7_readFirst 4 = .ok (.invokevirtual 45, 3) := by decide +kernel
theorem dX7_readFirst_7 : decode cX7_readFirst 7 = .ok (.invokevirtual 71, 3) := by decide +kernel
theorem dX7_readFirst_10 : decode cX7_readFirst 10 = .ok (.aload_n 1, 1) := by decide +kernel
theorem dX7_readFirst_11 : decode cX7_readFirst 11 = .ok (.aload_n 0, 1) := by decide +kernel
theorem dX7_readFirst_12 : decode cX7_readFirst 12 = .ok (.ldc 80, 2) := by decide +kernel
theorem dX7_readFirst_14 : decode cX7_readFirst 14 = .ok (.bipush 20, 2) := by decide +kernel
theorem dX7_readFirst_16 : decode cX7_readFirst 16 = .ok (.invokevirtual 82, 3) := by decide +kernel
theorem dX7_readFirst_19 : decode cX7_readFirst 19 = .ok (.putfield 86, 3) := by decide +kernel
theorem dX7_readFirst_22 : decode cX7_readFirst 22 = .ok (.aload_n 1, 1) := by decide +kernel
theorem dX7_readFirst_23 : decode cX7_readFirst 23 = .ok (.aload_n 0, 1) := by decide +kernel
theorem dX7_readFirst_24 : decode cX7_readFirst 24 = .ok (.ldc 89, 2) := by decide +kernel
theorem dX7_readFirst_26 : decode cX7_readFirst 26 = .ok (.bipush 20, 2) := by decide +kernel
theorem dX7_readFirst_28 : decode cX7_readFirst 28 = .ok (.invokevirtual 82, 3) := by decide +kernel
theorem dX7_readFirst_31 : decode cX7_readFirst 31 = .ok (.putfield 91, 3) := by decide +kernel
theorem dX7_readFirst_34 : decode cX7_readFirst 34 = .ok (.aload_n 1, 1) := by decide +kernel
theorem dX7_readFirst_35 : decode cX7_readFirst 35 = .ok (.aload_n 0, 1) := by decide +kernel
theorem dX7_readFirst_36 : decode cX7_readFirst 36 = .ok (.ldc 94, 2) := by decide +kernel
theorem dX7_readFirst_38 : decode cX7_readFirst 38 = .ok (.bipush 10, 2) := by decide +kernel
theorem dX7_readFirst_40 : decode cX7_readFirst 40 = .ok (.invokevirtual 82, 3) := by decide +kernel
theorem dX7_readFirst_43 : decode cX7_readFirst 43 = .ok (.putfield 96, 3) := by decide +kernel
theorem dX7_readFirst_46 : decode cX7_readFirst 46 = .ok (.return_, 1) := by decide +kernel
noncomputable def vX7_readFirst : List Cond := .code yX7_readFirst cX7_readFirst 2 none :: (([.methodLink RX7 45 yX7_isWord, .instanceMethod yX7_isWord, .selects RX7 yX7_isWord yX7_isWord, .initialized RX7, .methodLink RX7 71 yX7_pass, .instanceMethod yX7_pass, .selects RX7 yX7_pass yX7_pass, .methodLink RX7 82 yX7_numberBehind, .instanceMethod yX7_numberBehind, .selects RX7 yX7_numberBehind yX7_numberBehind, .fieldLink RX7 86 "IcicleClock$Street" "slamTakes" "I", .fieldLink RX7 91 "IcicleClock$Street" "bellTakes" "I", .fieldLink RX7 96 "IcicleClock$Street" "odds" "I"] : List Cond) ++ (wsX60 ++ (vX7_isWord ++ (vX7_pass ++ vX7_numberBehind))))
theorem iX7_readFirst_6 : ∀ w ∈ wsX60, w ∈ vX7_readFirst := fun _ h => List.mem_cons_of_mem _ (List.mem_append_right _ (List.mem_append_left _ h))
theorem gs_X7_readFirst : Gd vX7_readFirst := Gd.cons (by decide +kernel) (Gd.app (Gd.r (by decide +kernel)) (Gd.app gwX_6 (Gd.app gs_X7_isWord (Gd.app gs_X7_pass gs_X7_numberBehind))))
theorem gg_X7_readFirst_X7_isWord : GoodIn vX7_readFirst (wsV RX7 45 RX7 yX7_isWord vX7_isWord) := goodIn_app (goodIn_r _ [1, 2, 3, 4] (by decide +kernel) (by decide +kernel)) (fun w h => ⟨List.mem_cons_of_mem _ (List.mem_append_right _ (List.mem_append_right _ (List.mem_append_left _ h))), gs_X7_isWord w h⟩)
theorem gg_X7_readFirst_X7_pass : GoodIn vX7_readFirst (wsV RX7 71 RX7 yX7_pass vX7_pass) := goodIn_app (goodIn_r _ [5, 6, 7, 4] (by decide +kernel) (by decide +kernel)) (fun w h => ⟨List.mem_cons_of_mem _ (List.mem_append_right _ (List.mem_append_right _ (List.mem_append_right _ (List.mem_append_left _ h)))), gs_X7_pass w h⟩)
theorem gg_X7_readFirst_X7_numberBehind : GoodIn vX7_readFirst (wsV RX7 82 RX7 yX7_numberBehind vX7_numberBehind) := goodIn_app (goodIn_r _ [8, 9, 10, 4] (by decide +kernel) (by decide +kernel)) (fun w h => ⟨List.mem_cons_of_mem _ (List.mem_append_right _ (List.mem_append_right _ (List.mem_append_right _ (List.mem_append_right _ (h))))), gs_X7_numberBehind w h⟩)
set_option maxHeartbeats 4000000 in
set_option maxRecDepth 100000 in
theorem s_X7_readFirst (l : Launch) (D : va_G) (cs : Nat → ClassId) (ad : Nat → Nat) (kS : kSt) (K : sK) (hKO : KO K) (hj : wJ ad 218) (g : Nat → va_E) (hW : WF (shp ad K) ad cs g) : sV l yX7_readFirst vX7_readFirst { frames := 6, cells := 0, slots := 0, locals := 129 } D cs ad kS [.ref (ad 1), .ref (ad 23)] g (fun g2 => WF (shp ad K) ad cs g2 ∧ (∀ j, j ≠ 1 ∧ j ≠ 23 → g2 j = g j)) := by
  refine Met.startS (cc := cX7_readFirst) (maxL := 2) (ret := none) RX7 rfl (by decide) rfl (Nat.le_of_ble_eq_true rfl) ?_
  intro p e s m below meth c ls X Z hP hl
  have hx := X.1
  have hb := X.2.1
  have hS : va_S (wA ad 218) s.heap s.heap [] := va_S.rf
  have hA : ∀ i, i < 218 → wA ad 218 (ad i) := fun i h => ⟨i, h, rfl⟩
  have hfr : ∀ j, j ≠ 1 ∧ j ≠ 23 → g j = g j := fun _ _ => rfl
  have hl : lv_has ls 2 [(0, .ref (ad 1)), (1, .ref (ad 23))] := hl
  refine lv_aload_n hx hb dX7_readFirst_0 rfl (lv_at hl 0 rfl) ?_
  refine lv_aload_n hx hb dX7_readFirst_1 rfl (lv_at hl 0 rfl) ?_
  refine va_ldcS hx hb X.2.2.2.2.2.1 (sq_7_78 Z) dX7_readFirst_2 ?_
  obtain ⟨fsc_4, hgc_4, hOc_4⟩ := hW.obj (i := 1) (by decide) (sh_1 ad K)
  refine s_calli (q := (RX7, TX7, 7)) (As := [.ref (kS.1 0)]) (rest := [.ref (ad 1)]) X Z (s_X7_isWord l D cs ad kS K hKO hj g hW 0 (by omega)) (cwV 1 X.2.2.2.2.1 gg_X7_readFirst_X7_isWord rfl rfl rfl (by decide +kernel) ⟨Nat.le_of_ble_eq_true rfl, Nat.le_of_ble_eq_true rfl⟩) (by decide) hgc_4 rfl hP hA hS.2.1 hS rfl hl.1 rfl (Nat.le_of_ble_eq_true rfl) dX7_readFirst_4 ⟨Nat.le_of_ble_eq_true rfl, Nat.le_of_ble_eq_true rfl⟩ (fun r_3 g_2 H locs hw_1 hP hS => ?_)
  obtain ⟨hw_1g, hw_1⟩ := hw_1
  rw [hw_1g] at hP
  refine s_callv (q := (RX7, TX7, 7)) (As := [.int r_3]) (rest := []) X Z (s_X7_pass l D cs ad kS K hKO hj g hW r_3) (cwV 1 X.2.2.2.2.1 gg_X7_readFirst_X7_pass rfl rfl rfl (by decide +kernel) ⟨Nat.le_of_ble_eq_true rfl, Nat.le_of_ble_eq_true rfl⟩) (by decide) hgc_4 rfl hP hA hS.2.1 hS rfl hl.1 rfl (Nat.le_of_ble_eq_true rfl) dX7_readFirst_7 ⟨Nat.le_of_ble_eq_true rfl, Nat.le_of_ble_eq_true rfl⟩ (fun g_6 H locs hw_5 hP hS => ?_)
  obtain ⟨hw_5W, hw_5f⟩ := hw_5
  have hfr_8 : ∀ j, j ≠ 1 ∧ j ≠ 23 → g_6 j = g j := fun j hj => (hw_5f j (by omega)).trans (hfr j hj)
  refine lv_aload_n hx hb dX7_readFirst_10 rfl (lv_at hl 1 rfl) ?_
  refine lv_aload_n hx hb dX7_readFirst_11 rfl (lv_at hl 0 rfl) ?_
  refine va_ldcS hx hb X.2.2.2.2.2.1 (sq_7_80 Z) dX7_readFirst_12 ?_
  refine lv_bipush (v := 20) hx hb dX7_readFirst_14 (by decide) ?_
  obtain ⟨fsc_12, hgc_12, hOc_12⟩ := hw_5W.obj (i := 1) (by decide) (sh_1 ad K)
  refine s_calli (q := (RX7, TX7, 7)) (As := [.ref (kS.1 1), .int 20]) (rest := [.ref (ad 23)]) X Z (s_X7_numberBehind l D cs ad kS K hKO hj g_6 hw_5W 1 20 (by omega)) (cwV 2 X.2.2.2.2.1 gg_X7_readFirst_X7_numberBehind rfl rfl rfl (by decide +kernel) ⟨Nat.le_of_ble_eq_true rfl, Nat.le_of_ble_eq_true rfl⟩) (by decide) hgc_12 rfl hP hA hS.2.1 hS rfl hl.1 rfl (Nat.le_of_ble_eq_true rfl) dX7_readFirst_16 ⟨Nat.le_of_ble_eq_true rfl, Nat.le_of_ble_eq_true rfl⟩ (fun r_11 g_10 H locs hw_9 hP hS => ?_)
  obtain ⟨hw_9W, hw_9f, hw_9⟩ := hw_9
  have hfr_13 : ∀ j, j ≠ 1 ∧ j ≠ 23 → g_10 j = g j := fun j hj => (hw_9f j (by omega)).trans (hfr_8 j hj)
  have hqk_14 : (20 : Int32).toInt = 20 := by decide
  obtain ⟨fsc_15, hgc_15, hOc_15⟩ := hw_9W.obj (i := 23) (by decide) (sh_23 ad K)
  refine s_put X iX7_readFirst_6 tyX6 tyX6_ok nmX6 hP hj hA hS (by decide) hgc_15 rfl 0 (by decide) (List.mem_of_getElem? (i := 11) rfl) rfl (ty := .int) (v := .int r_11) (by decide +kernel) rfl rfl dX7_readFirst_19 hw_9W (sh_23 ad K) hOc_15 rfl ⟨r_11, rfl, n_lo _, n_hi _⟩ (fun fsc_16 gc_16 H locs hOc_16 hkc_16 hnc_16 hgc_16 hfc_16 hWc_16 hP hS => ?_)
  have hfr_17 : ∀ j, j ≠ 1 ∧ j ≠ 23 → gc_16 j = g j := fun j hj => (hfc_16 j (by omega)).trans (hfr_13 j hj)
  refine lv_aload_n hx hb dX7_readFirst_22 rfl (lv_at hl 1 rfl) ?_
  refine lv_aload_n hx hb dX7_readFirst_23 rfl (lv_at hl 0 rfl) ?_
  refine va_ldcS hx hb X.2.2.2.2.2.1 (sq_7_89 Z) dX7_readFirst_24 ?_
  refine lv_bipush (v := 20) hx hb dX7_readFirst_26 (by decide) ?_
  obtain ⟨fsc_21, hgc_21, hOc_21⟩ := hWc_16.obj (i := 1) (by decide) (sh_1 ad K)
  refine s_calli (q := (RX7, TX7, 7)) (As := [.ref (kS.1 2), .int 20]) (rest := [.ref (ad 23)]) X Z (s_X7_numberBehind l D cs ad kS K hKO hj gc_16 hWc_16 2 20 (by omega)) (cwV 2 X.2.2.2.2.1 gg_X7_readFirst_X7_numberBehind rfl rfl rfl (by decide +kernel) ⟨Nat.le_of_ble_eq_true rfl, Nat.le_of_ble_eq_true rfl⟩) (by decide) hgc_21 rfl hP hA hS.2.1 hS rfl hl.1 rfl (Nat.le_of_ble_eq_true rfl) dX7_readFirst_28 ⟨Nat.le_of_ble_eq_true rfl, Nat.le_of_ble_eq_true rfl⟩ (fun r_20 g_19 H locs hw_18 hP hS => ?_)
  obtain ⟨hw_18W, hw_18f, hw_18⟩ := hw_18
  have hfr_22 : ∀ j, j ≠ 1 ∧ j ≠ 23 → g_19 j = g j := fun j hj => (hw_18f j (by omega)).trans (hfr_17 j hj)
  have hg_23 := (hw_18f 23 (by omega)).trans hgc_16
  have hqk_24 : (20 : Int32).toInt = 20 := by decide
  refine s_put X iX7_readFirst_6 tyX6 tyX6_ok nmX6 hP hj hA hS (by decide) hg_23 rfl 1 (by decide) (List.mem_of_getElem? (i := 12) rfl) rfl (ty := .int) (v := .int r_20) (by decide +kernel) rfl rfl dX7_readFirst_31 hw_18W (sh_23 ad K) hOc_16 rfl ⟨r_20, rfl, n_lo _, n_hi _⟩ (fun fsc_25 gc_25 H locs hOc_25 hkc_25 hnc_25 hgc_25 hfc_25 hWc_25 hP hS => ?_)
  have hk_26 := (hnc_25 0 (by decide)).trans hkc_16
  have hfr_27 : ∀ j, j ≠ 1 ∧ j ≠ 23 → gc_25 j = g j := fun j hj => (hfc_25 j (by omega)).trans (hfr_22 j hj)
  refine lv_aload_n hx hb dX7_readFirst_34 rfl (lv_at hl 1 rfl) ?_
  refine lv_aload_n hx hb dX7_readFirst_35 rfl (lv_at hl 0 rfl) ?_
  refine va_ldcS hx hb X.2.2.2.2.2.1 (sq_7_94 Z) dX7_readFirst_36 ?_
  refine lv_bipush (v := 10) hx hb dX7_readFirst_38 (by decide) ?_
  obtain ⟨fsc_31, hgc_31, hOc_31⟩ := hWc_25.obj (i := 1) (by decide) (sh_1 ad K)
  refine s_calli (q := (RX7, TX7, 7)) (As := [.ref (kS.1 3), .int 10]) (rest := [.ref (ad 23)]) X Z (s_X7_numberBehind l D cs ad kS K hKO hj gc_25 hWc_25 3 10 (by omega)) (cwV 2 X.2.2.2.2.1 gg_X7_readFirst_X7_numberBehind rfl rfl rfl (by decide +kernel) ⟨Nat.le_of_ble_eq_true rfl, Nat.le_of_ble_eq_true rfl⟩) (by decide) hgc_31 rfl hP hA hS.2.1 hS rfl hl.1 rfl (Nat.le_of_ble_eq_true rfl) dX7_readFirst_40 ⟨Nat.le_of_ble_eq_true rfl, Nat.le_of_ble_eq_true rfl⟩ (fun r_30 g_29 H locs hw_28 hP hS => ?_)
  obtain ⟨hw_28W, hw_28f, hw_28⟩ := hw_28
  have hfr_32 : ∀ j, j ≠ 1 ∧ j ≠ 23 → g_29 j = g j := fun j hj => (hw_28f j (by omega)).trans (hfr_27 j hj)
  have hg_33 := (hw_28f 23 (by omega)).trans hgc_25
  have hqk_34 : (10 : Int32).toInt = 10 := by decide
  refine s_put X iX7_readFirst_6 tyX6 tyX6_ok nmX6 hP hj hA hS (by decide) hg_33 rfl 2 (by decide) (List.mem_of_getElem? (i := 13) rfl) rfl (ty := .int) (v := .int r_30) (by decide +kernel) rfl rfl dX7_readFirst_43 hw_28W (sh_23 ad K) hOc_25 rfl ⟨r_30, rfl, n_lo _, n_hi _⟩ (fun fsc_35 gc_35 H locs hOc_35 hkc_35 hnc_35 hgc_35 hfc_35 hWc_35 hP hS => ?_)
  have hk_36 := (hnc_35 1 (by decide)).trans hkc_25
  have hk_37 := (hnc_35 0 (by decide)).trans hk_26
  have hfr_38 : ∀ j, j ≠ 1 ∧ j ≠ 23 → gc_35 j = g j := fun j hj => (hfc_35 j (by omega)).trans (hfr_32 j hj)
  exact q_vret X hP hS ⟨hWc_35, hfr_38⟩ dX7_readFirst_46

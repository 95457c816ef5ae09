theorem dX7_readDue_0 : decode cX7_readDue 0 = .ok (.aload_n 1, 1) := by decide +kernel
theorem dX7_readDue_1 : decode cX7_readDue 1 = .ok (.getfield 144, 3) := by decide +kernel
theorem dX7_readDue_4 : decode cX7_readDue 4 = .ok (.bipush 6, 2) := by decide +kernel
theorem dX7_readDue_6 : decode cX7_readDue 6 = .ok (.if_icmp .lt 9, 3) := by decide +kernel
theorem dX7_readDue_9 : decode cX7_readDue 9 = .ok (.aload_n 0, 1) := by decide +kernel
theorem dX7_readDue_10 : decode cX7_readDue 10 = .ok (.iconst 3, 1) := by decide +kernel
theorem dX7_readDue_11 : decode cX7_readDue 11 = .ok (.invokevirtual 67, 3) := by decide +kernel
theorem dX7_readDue_14 : decode cX7_readDue 14 = .ok (.return_, 1) := by decide +kernel
theorem dX7_readDue_15 : decode cX7_readDue 15 = .ok (.aload_n 0, 1) := by decide +kernel
theorem dX7_readDue_16 : decode cX7_readDue 16 = .ok (.aload_n 0, 1) := by decide +kernel
theorem dX7_readDue_17 : decode cX7_readDue 17 = .ok (.ldc 62, 2) := by decide +kernel
theorem dX7_readDue_19 : decode cX7_readDue 19 = .ok (.invokevirtual 45, 3) := by decide +kernel
theorem dX7_readDue_22 : decode cX7_readDue 22 = .ok (.invokevirtual 71, 3) := by decide +kernel
theorem dX7_readDue_25 : decode cX7_readDue 25 = .ok (.aload_n 1, 1) := by decide +kernel
theorem dX7_readDue_26 : decode cX7_readDue 26 = .ok (.getfield 147, 3) := by decide +kernel
theorem dX7_readDue_29 : decode cX7_readDue 29 = .ok (.aload_n 1, 1) := by decide +kernel
theorem dX7_readDue_30 : decode cX7_readDue 30 = .ok (.getfield 144, 3) := by decide +kernel
theorem dX7_readDue_33 : decode cX7_readDue 33 = .ok (.aload_n 0, 1) := by decide +kernel
theorem dX7_readDue_34 : decode cX7_readDue 34 = .ok (.ldc 142, 2) := by decide +kernel
theorem dX7_readDue_36 : decode cX7_readDue 36 = .ok (.bipush 23, 2) := by decide +kernel
theorem dX7_readDue_38 : decode cX7_readDue 38 = .ok (.invokevirtual 82, 3) := by decide +kernel
theorem dX7_readDue_41 : decode cX7_readDue 41 = .ok (.iastore, 1) := by decide +kernel
theorem dX7_readDue_42 : decode cX7_readDue 42 = .ok (.aload_n 1, 1) := by decide +kernel
theorem dX7_readDue_43 : decode cX7_readDue 43 = .ok (.getfield 150, 3) := by decide +kernel
theorem dX7_readDue_46 : decode cX7_readDue 46 = .ok (.aload_n 1, 1) := by decide +kernel
theorem dX7_readDue_47 : decode cX7_readDue 47 = .ok (.getfield 144, 3) := by decide +kernel
theorem dX7_readDue_50 : decode cX7_readDue 50 = .ok (.aload_n 0, 1) := by decide +kernel
theorem dX7_readDue_51 : decode cX7_readDue 51 = .ok (.ldc 153, 2) := by decide +kernel
theorem dX7_readDue_53 : decode cX7_readDue 53 = .ok (.aload_n 1, 1) := by decide +kernel
theorem dX7_readDue_54 : decode cX7_readDue 54 = .ok (.getfield 98, 3) := by decide +kernel
theorem dX7_readDue_57 : decode cX7_readDue 57 = .ok (.iconst 1, 1) := by decide +kernel
theorem dX7_readDue_58 : decode cX7_readDue 58 = .ok (.isub, 1) := by decide +kernel
theorem dX7_readDue_59 : decode cX7_readDue 59 = .ok (.invokevirtual 82, 3) := by decide +kernel
theorem dX7_readDue_62 : decode cX7_readDue 62 = .ok (.iastore, 1) := by decide +kernel
theorem dX7_readDue_63 : decode cX7_readDue 63 = .ok (.aload_n 1, 1) := by decide +kernel
theorem dX7_readDue_64 : decode cX7_readDue 64 = .ok (.dup, 1) := by decide +kernel
theorem dX7_readDue_65 : decode cX7_readDue 65 = .ok (.getfield 144, 3) := by decide +kernel
theorem dX7_readDue_68 : decode cX7_readDue 68 = .ok (.iconst 1, 1) := by decide +kernel
theorem dX7_readDue_69 : decode cX7_readDue 69 = .ok (.iadd, 1) := by decide +kernel
theorem dX7_readDue_70 : decode cX7_readDue 70 = .ok (.putfield 144, 3) := by decide +kernel
theorem dX7_readDue_73 : decode cX7_readDue 73 = .ok (.return_, 1) := by decide +kernel
noncomputable def vX7_readDue : List Cond := .code yX7_readDue cX7_readDue 2 none :: (([.fieldLink RX7 144 "IcicleClock$Street" "works" "I", .methodLink RX7 67 yX7_blame, .instanceMethod yX7_blame, .selects RX7 yX7_blame yX7_blame, .initialized RX7, .methodLink RX7 45 yX7_isWord, .instanceMethod yX7_isWord, .selects RX7 yX7_isWord yX7_isWord, .methodLink RX7 71 yX7_pass, .instanceMethod yX7_pass, .selects RX7 yX7_pass yX7_pass, .fieldLink RX7 147 "IcicleClock$Street" "dueHour" "[I", .methodLink RX7 82 yX7_numberBehind, .instanceMethod yX7_numberBehind, .selects RX7 yX7_numberBehind yX7_numberBehind, .fieldLink RX7 150 "IcicleClock$Street" "dueDay" "[I", .fieldLink RX7 98 "IcicleClock$Street" "days" "I"] : List Cond) ++ (wsX60 ++ (vX7_blame ++ (vX7_isWord ++ (vX7_pass ++ vX7_numberBehind)))))
theorem iX7_readDue_6 : ∀ w ∈ wsX60, w ∈ vX7_readDue := fun _ h => List.mem_cons_of_mem _ (List.mem_append_right _ (List.mem_append_left _ h))
theorem gs_X7_readDue : Gd vX7_readDue := Gd.cons (by decide +kernel) (Gd.app (Gd.r (by decide +kernel)) (Gd.app gwX_6 (Gd.app gs_X7_blame (Gd.app gs_X7_isWord (Gd.app gs_X7_pass gs_X7_numberBehind)))))
theorem gg_X7_readDue_X7_blame : GoodIn vX7_readDue (wsV RX7 67 RX7 yX7_blame vX7_blame) := goodIn_app (goodIn_r _ [2, 3, 4, 5] (by decide +kernel) (by decide +kernel)) (fun w h => ⟨List.mem_cons_of_mem _ (List.mem_append_right _ (List.mem_append_right _ (List.mem_append_left _ h))), gs_X7_blame w h⟩)
theorem gg_X7_readDue_X7_isWord : GoodIn vX7_readDue (wsV RX7 45 RX7 yX7_isWord vX7_isWord) := goodIn_app (goodIn_r _ [6, 7, 8, 5] (by decide +kernel) (by decide +kernel)) (fun w h => ⟨List.mem_cons_of_mem _ (List.mem_append_right _ (List.mem_append_right _ (List.mem_append_right _ (List.mem_append_left _ h)))), gs_X7_isWord w h⟩)
theorem gg_X7_readDue_X7_pass : GoodIn vX7_readDue (wsV RX7 71 RX7 yX7_pass vX7_pass) := goodIn_app (goodIn_r _ [9, 10, 11, 5] (by decide +kernel) (by decide +kernel)) (fun w h => ⟨List.mem_cons_of_mem _ (List.mem_append_right _ (List.mem_append_right _ (List.mem_append_right _ (List.mem_append_right _ (List.mem_append_left _ h))))), gs_X7_pass w h⟩)
theorem gg_X7_readDue_X7_numberBehind : GoodIn vX7_readDue (wsV RX7 82 RX7 yX7_numberBehind vX7_numberBehind) := goodIn_app (goodIn_r _ [13, 14, 15, 5] (by decide +kernel) (by decide +kernel)) (fun w h => ⟨List.mem_cons_of_mem _ (List.mem_append_right _ (List.mem_append_right _ (List.mem_append_right _ (List.mem_append_right _ (List.mem_append_right _ (h)))))), gs_X7_numberBehind w h⟩)
set_option maxHeartbeats 4000000 in
set_option maxRecDepth 100000 in
theorem s_X7_readDue (l : Launch) (D : va_G) (cs : Nat → ClassId) (ad : Nat → Nat) (kS : kSt) (K : sK) (hKO : KO K) (hj : wJ ad 218) (g : Nat → va_E) (hW : WF (shp ad K) ad cs g) : sV l yX7_readDue vX7_readDue { frames := 6, cells := 0, slots := 0, locals := 129 } D cs ad kS [.ref (ad 1), .ref (ad 23)] g (fun g2 => WF (shp ad K) ad cs g2 ∧ (∀ j, j ≠ 1 ∧ j ≠ 23 ∧ j ≠ 31 ∧ j ≠ 32 → g2 j = g j)) := by
  refine Met.startS (cc := cX7_readDue) (maxL := 2) (ret := none) RX7 rfl (by decide) rfl (Nat.le_of_ble_eq_true rfl) ?_
  intro p e s m below meth c ls X Z hP hl
  have hx := X.1
  have hb := X.2.1
  have hS : va_S (wA ad 218) s.heap s.heap [] := va_S.rf
  have hA : ∀ i, i < 218 → wA ad 218 (ad i) := fun i h => ⟨i, h, rfl⟩
  have hfr : ∀ j, j ≠ 1 ∧ j ≠ 23 ∧ j ≠ 31 ∧ j ≠ 32 → g j = g j := fun _ _ => rfl
  have hl : lv_has ls 2 [(0, .ref (ad 1)), (1, .ref (ad 23))] := hl
  refine lv_aload_n hx hb dX7_readDue_0 rfl (lv_at hl 1 rfl) ?_
  obtain ⟨fsc_1, hgc_1, hOc_1⟩ := hW.obj (i := 23) (by decide) (sh_23 ad K)
  obtain ⟨x_3, hk_2, hlx_3, hhx_3⟩ := hOc_1.int 6 rfl
  refine q_get X iX7_readDue_6 hP (by decide) hgc_1 rfl 6 (by decide) (List.mem_of_getElem? (i := 1) rfl) (v := .int x_3) hk_2 dX7_readDue_1 ?_
  refine lv_bipush (v := 6) hx hb dX7_readDue_4 (by decide) ?_
  refine lv_icmp_lt (tgt := 15) hx hb dX7_readDue_6 (by decide) (fun hc_4 => ?_) (fun hc_4 => ?_)
  · have hhc_4 := n_lt (rfl : x_3.toInt = x_3.toInt) (by decide : (6 : Int32).toInt = 6) hc_4
    refine lv_aload_n hx hb dX7_readDue_15 rfl (lv_at hl 0 rfl) ?_
    refine lv_aload_n hx hb dX7_readDue_16 rfl (lv_at hl 0 rfl) ?_
    refine va_ldcS hx hb X.2.2.2.2.2.1 (sq_7_62 Z) dX7_readDue_17 ?_
    obtain ⟨fsc_8, hgc_8, hOc_8⟩ := hW.obj (i := 1) (by decide) (sh_1 ad K)
    refine s_calli (q := (RX7, TX7, 7)) (As := [.ref (kS.1 13)]) (rest := [.ref (ad 1)]) X Z (s_X7_isWord l D cs ad kS K hKO hj g hW 13 (by omega)) (cwV 1 X.2.2.2.2.1 gg_X7_readDue_X7_isWord rfl rfl rfl (by decide +kernel) ⟨Nat.le_of_ble_eq_true rfl, Nat.le_of_ble_eq_true rfl⟩) (by decide) hgc_8 rfl hP hA hS.2.1 hS rfl hl.1 rfl (Nat.le_of_ble_eq_true rfl) dX7_readDue_19 ⟨Nat.le_of_ble_eq_true rfl, Nat.le_of_ble_eq_true rfl⟩ (fun r_7 g_6 H locs hw_5 hP hS => ?_)
    obtain ⟨hw_5g, hw_5⟩ := hw_5
    rw [hw_5g] at hP
    refine s_callv (q := (RX7, TX7, 7)) (As := [.int r_7]) (rest := []) X Z (s_X7_pass l D cs ad kS K hKO hj g hW r_7) (cwV 1 X.2.2.2.2.1 gg_X7_readDue_X7_pass rfl rfl rfl (by decide +kernel) ⟨Nat.le_of_ble_eq_true rfl, Nat.le_of_ble_eq_true rfl⟩) (by decide) hgc_8 rfl hP hA hS.2.1 hS rfl hl.1 rfl (Nat.le_of_ble_eq_true rfl) dX7_readDue_22 ⟨Nat.le_of_ble_eq_true rfl, Nat.le_of_ble_eq_true rfl⟩ (fun g_10 H locs hw_9 hP hS => ?_)
    obtain ⟨hw_9W, hw_9f⟩ := hw_9
    have hfr_12 : ∀ j, j ≠ 1 ∧ j ≠ 23 ∧ j ≠ 31 ∧ j ≠ 32 → g_10 j = g j := fun j hj => (hw_9f j (by omega)).trans (hfr j hj)
    have hg_13 := (hw_9f 23 (by omega)).trans hgc_1
    refine lv_aload_n hx hb dX7_readDue_25 rfl (lv_at hl 1 rfl) ?_
    have hk_14 := hOc_1.ref 15 rfl
    refine q_get X iX7_readDue_6 hP (by decide) hg_13 rfl 15 (by decide) (List.mem_of_getElem? (i := 12) rfl) (v := .ref (ad 31)) hk_14 dX7_readDue_26 ?_
    refine lv_aload_n hx hb dX7_readDue_29 rfl (lv_at hl 1 rfl) ?_
    refine q_get X iX7_readDue_6 hP (by decide) hg_13 rfl 6 (by decide) (List.mem_of_getElem? (i := 1) rfl) (v := .int x_3) hk_2 dX7_readDue_30 ?_
    refine lv_aload_n hx hb dX7_readDue_33 rfl (lv_at hl 0 rfl) ?_
    refine va_ldcS hx hb X.2.2.2.2.2.1 (sq_7_142 Z) dX7_readDue_34 ?_
    refine lv_bipush (v := 23) hx hb dX7_readDue_36 (by decide) ?_
    obtain ⟨fsc_18, hgc_18, hOc_18⟩ := hw_9W.obj (i := 1) (by decide) (sh_1 ad K)
    refine s_calli (q := (RX7, TX7, 7)) (As := [.ref (kS.1 12), .int 23]) (rest := [.int x_3, .ref (ad 31)]) X Z (s_X7_numberBehind l D cs ad kS K hKO hj g_10 hw_9W 12 23 (by omega)) (cwV 2 X.2.2.2.2.1 gg_X7_readDue_X7_numberBehind rfl rfl rfl (by decide +kernel) ⟨Nat.le_of_ble_eq_true rfl, Nat.le_of_ble_eq_true rfl⟩) (by decide) hgc_18 rfl hP hA hS.2.1 hS rfl hl.1 rfl (Nat.le_of_ble_eq_true rfl) dX7_readDue_38 ⟨Nat.le_of_ble_eq_true rfl, Nat.le_of_ble_eq_true rfl⟩ (fun r_17 g_16 H locs hw_15 hP hS => ?_)
    obtain ⟨hw_15W, hw_15f, hw_15⟩ := hw_15
    have hfr_19 : ∀ j, j ≠ 1 ∧ j ≠ 23 ∧ j ≠ 31 ∧ j ≠ 32 → g_16 j = g j := fun j hj => (hw_15f j (by omega)).trans (hfr_12 j hj)
    have hg_20 := (hw_15f 23 (by omega)).trans hg_13
    have hqk_21 : (23 : Int32).toInt = 23 := by decide
    obtain ⟨fc_22, hgc_22, hFc_22⟩ := hw_15W.arr (i := 31) (by decide) (sh_31 ad K)
    refine s_iast X hP hj hA hS (by decide) hgc_22 (n_in (rfl : x_3.toInt = x_3.toInt) (by omega) (by omega)) dX7_readDue_41 hw_15W (sh_31 ad K) (hFc_22.put trivial) (fun fc_23 gc_23 H locs ec_23 hFc_23 hgc_23 hfc_23 hWc_23 hP hS => ?_)
    have hg_25 := (hfc_23 23 (by decide)).trans hg_20
    have hfr_24 : ∀ j, j ≠ 1 ∧ j ≠ 23 ∧ j ≠ 31 ∧ j ≠ 32 → gc_23 j = g j := fun j hj => (hfc_23 j (by omega)).trans (hfr_19 j hj)
    refine lv_aload_n hx hb dX7_readDue_42 rfl (lv_at hl 1 rfl) ?_
    have hk_26 := hOc_1.ref 16 rfl
    refine q_get X iX7_readDue_6 hP (by decide) hg_25 rfl 16 (by decide) (List.mem_of_getElem? (i := 16) rfl) (v := .ref (ad 32)) hk_26 dX7_readDue_43 ?_
    refine lv_aload_n hx hb dX7_readDue_46 rfl (lv_at hl 1 rfl) ?_
    refine q_get X iX7_readDue_6 hP (by decide) hg_25 rfl 6 (by decide) (List.mem_of_getElem? (i := 1) rfl) (v := .int x_3) hk_2 dX7_readDue_47 ?_
    refine lv_aload_n hx hb dX7_readDue_50 rfl (lv_at hl 0 rfl) ?_
    refine va_ldcS hx hb X.2.2.2.2.2.1 (sq_7_153 Z) dX7_readDue_51 ?_
    refine lv_aload_n hx hb dX7_readDue_53 rfl (lv_at hl 1 rfl) ?_
    obtain ⟨x_28, hk_27, hlx_28, hhx_28⟩ := hOc_1.int 3 rfl
    refine q_get X iX7_readDue_6 hP (by decide) hg_25 rfl 3 (by decide) (List.mem_of_getElem? (i := 17) rfl) (v := .int x_28) hk_27 dX7_readDue_54 ?_
    refine lv_iconst (v := 1) hx hb dX7_readDue_57 (by decide) ?_
    refine lv_isub hx hb dX7_readDue_58 ?_
    refine lv_topi (fun z_29 ez_29 => ?_)
    have hz_29 : z_29.toInt = x_28.toInt - 1 := n_sub (rfl : x_28.toInt = x_28.toInt) (by decide : (1 : Int32).toInt = 1) ez_29 (by omega) (by omega)
    obtain ⟨fsc_33, hgc_33, hOc_33⟩ := hWc_23.obj (i := 1) (by decide) (sh_1 ad K)
    refine s_calli (q := (RX7, TX7, 7)) (As := [.ref (kS.1 14), .int z_29]) (rest := [.int x_3, .ref (ad 32)]) X Z (s_X7_numberBehind l D cs ad kS K hKO hj gc_23 hWc_23 14 z_29 (by omega)) (cwV 2 X.2.2.2.2.1 gg_X7_readDue_X7_numberBehind rfl rfl rfl (by decide +kernel) ⟨Nat.le_of_ble_eq_true rfl, Nat.le_of_ble_eq_true rfl⟩) (by decide) hgc_33 rfl hP hA hS.2.1 hS rfl hl.1 rfl (Nat.le_of_ble_eq_true rfl) dX7_readDue_59 ⟨Nat.le_of_ble_eq_true rfl, Nat.le_of_ble_eq_true rfl⟩ (fun r_32 g_31 H locs hw_30 hP hS => ?_)
    obtain ⟨hw_30W, hw_30f, hw_30⟩ := hw_30
    have hfr_34 : ∀ j, j ≠ 1 ∧ j ≠ 23 ∧ j ≠ 31 ∧ j ≠ 32 → g_31 j = g j := fun j hj => (hw_30f j (by omega)).trans (hfr_24 j hj)
    have hg_35 := (hw_30f 23 (by omega)).trans hg_25
    have hg_36 := (hw_30f 31 (by omega)).trans hgc_23
    obtain ⟨fc_37, hgc_37, hFc_37⟩ := hw_30W.arr (i := 32) (by decide) (sh_32 ad K)
    refine s_iast X hP hj hA hS (by decide) hgc_37 (n_in (rfl : x_3.toInt = x_3.toInt) (by omega) (by omega)) dX7_readDue_62 hw_30W (sh_32 ad K) (hFc_37.put trivial) (fun fc_38 gc_38 H locs ec_38 hFc_38 hgc_38 hfc_38 hWc_38 hP hS => ?_)
    have hg_40 := (hfc_38 23 (by decide)).trans hg_35
    have hg_41 := (hfc_38 31 (by decide)).trans hg_36
    have hfr_39 : ∀ j, j ≠ 1 ∧ j ≠ 23 ∧ j ≠ 31 ∧ j ≠ 32 → gc_38 j = g j := fun j hj => (hfc_38 j (by omega)).trans (hfr_34 j hj)
    refine lv_aload_n hx hb dX7_readDue_63 rfl (lv_at hl 1 rfl) ?_
    refine lv_dup hx hb dX7_readDue_64 rfl ?_
    refine q_get X iX7_readDue_6 hP (by decide) hg_40 rfl 6 (by decide) (List.mem_of_getElem? (i := 1) rfl) (v := .int x_3) hk_2 dX7_readDue_65 ?_
    refine lv_iconst (v := 1) hx hb dX7_readDue_68 (by decide) ?_
    refine lv_iadd hx hb dX7_readDue_69 ?_
    refine lv_topi (fun z_42 ez_42 => ?_)
    have hz_42 : z_42.toInt = x_3.toInt + 1 := n_add (rfl : x_3.toInt = x_3.toInt) (by decide : (1 : Int32).toInt = 1) ez_42 (by omega) (by omega)
    refine s_put X iX7_readDue_6 tyX6 tyX6_ok nmX6 hP hj hA hS (by decide) hg_40 rfl 6 (by decide) (List.mem_of_getElem? (i := 1) rfl) rfl (ty := .int) (v := .int z_42) (by decide +kernel) rfl rfl dX7_readDue_70 hWc_38 (sh_23 ad K) hOc_1 rfl ⟨z_42, rfl, by omega, by omega⟩ (fun fsc_43 gc_43 H locs hOc_43 hkc_43 hnc_43 hgc_43 hfc_43 hWc_43 hP hS => ?_)
    have hk_44 := (hnc_43 15 (by decide)).trans hk_14
    have hk_45 := (hnc_43 16 (by decide)).trans hk_26
    have hk_46 := (hnc_43 3 (by decide)).trans hk_27
    have hg_48 := (hfc_43 31 (by decide)).trans hg_41
    have hg_49 := (hfc_43 32 (by decide)).trans hgc_38
    have hfr_47 : ∀ j, j ≠ 1 ∧ j ≠ 23 ∧ j ≠ 31 ∧ j ≠ 32 → gc_43 j = g j := fun j hj => (hfc_43 j (by omega)).trans (hfr_39 j hj)
    exact q_vret X hP hS ⟨hWc_43, hfr_47⟩ dX7_readDue_73
  · have hhc_4 := n_nlt (rfl : x_3.toInt = x_3.toInt) (by decide : (6 : Int32).toInt = 6) hc_4
    refine lv_aload_n hx hb dX7_readDue_9 rfl (lv_at hl 0 rfl) ?_
    refine lv_iconst (v := 3) hx hb dX7_readDue_10 (by decide) ?_
    obtain ⟨fsc_53, hgc_53, hOc_53⟩ := hW.obj (i := 1) (by decide) (sh_1 ad K)
    refine s_callv (q := (RX7, TX7, 7)) (As := [.int 3]) (rest := []) X Z (s_X7_blame l D cs ad kS K hKO hj g hW 3) (cwV 1 X.2.2.2.2.1 gg_X7_readDue_X7_blame rfl rfl rfl (by decide +kernel) ⟨Nat.le_of_ble_eq_true rfl, Nat.le_of_ble_eq_true rfl⟩) (by decide) hgc_53 rfl hP hA hS.2.1 hS rfl hl.1 rfl (Nat.le_of_ble_eq_true rfl) dX7_readDue_11 ⟨Nat.le_of_ble_eq_true rfl, Nat.le_of_ble_eq_true rfl⟩ (fun g_51 H locs hw_50 hP hS => ?_)
    obtain ⟨hw_50W, hw_50f⟩ := hw_50
    have hfr_54 : ∀ j, j ≠ 1 ∧ j ≠ 23 ∧ j ≠ 31 ∧ j ≠ 32 → g_51 j = g j := fun j hj => (hw_50f j (by omega)).trans (hfr j hj)
    have hg_55 := (hw_50f 23 (by omega)).trans hgc_1
    exact q_vret X hP hS ⟨hw_50W, hfr_54⟩ dX7_readDue_14

theorem dX7_readIcicle_0 : decode cX7_readIcicle 0 = .ok (.aload_n 1, 1) := by decide +kernel
theorem dX7_readIcicle_1 : decode cX7_readIcicle 1 = .ok (.getfield 119, 3) := by decide +kernel
theorem dX7_readIcicle_4 : decode cX7_readIcicle 4 = .ok (.bipush 8, 2) := by decide +kernel
theorem dX7_readIcicle_6 : decode cX7_readIcicle 6 = .ok (.if_icmp .lt 9, 3) := by decide +kernel
theorem dX7_readIcicle_9 : decode cX7_readIcicle 9 = .ok (.aload_n 0, 1) := by decide +kernel
theorem dX7_readIcicle_10 : decode cX7_readIcicle 10 = .ok (.iconst 3, 1) := by decide +kernel
theorem dX7_readIcicle_11 : decode cX7_readIcicle 11 = .ok (.invokevirtual 67, 3) := by decide +kernel
theorem dX7_readIcicle_14 : decode cX7_readIcicle 14 = .ok (.return_, 1) := by decide +kernel
theorem dX7_readIcicle_15 : decode cX7_readIcicle 15 = .ok (.aload_n 1, 1) := by decide +kernel
theorem dX7_readIcicle_16 : decode cX7_readIcicle 16 = .ok (.getfield 119, 3) := by decide +kernel
theorem dX7_readIcicle_19 : decode cX7_readIcicle 19 = .ok (.istore_n 2, 1) := by decide +kernel
theorem dX7_readIcicle_20 : decode cX7_readIcicle 20 = .ok (.aload_n 0, 1) := by decide +kernel
theorem dX7_readIcicle_21 : decode cX7_readIcicle 21 = .ok (.aload_n 0, 1) := by decide +kernel
theorem dX7_readIcicle_22 : decode cX7_readIcicle 22 = .ok (.ldc 57, 2) := by decide +kernel
theorem dX7_readIcicle_24 : decode cX7_readIcicle 24 = .ok (.invokevirtual 45, 3) := by decide +kernel
theorem dX7_readIcicle_27 : decode cX7_readIcicle 27 = .ok (.invokevirtual 71, 3) := by decide +kernel
theorem dX7_readIcicle_30 : decode cX7_readIcicle 30 = .ok (.aload_n 1, 1) := by decide +kernel
theorem dX7_readIcicle_31 : decode cX7_readIcicle 31 = .ok (.getfield 122, 3) := by decide +kernel
theorem dX7_readIcicle_34 : decode cX7_readIcicle 34 = .ok (.iload_n 2, 1) := by decide +kernel
theorem dX7_readIcicle_35 : decode cX7_readIcicle 35 = .ok (.aload_n 0, 1) := by decide +kernel
theorem dX7_readIcicle_36 : decode cX7_readIcicle 36 = .ok (.ldc 125, 2) := by decide +kernel
theorem dX7_readIcicle_38 : decode cX7_readIcicle 38 = .ok (.aload_n 1, 1) := by decide +kernel
theorem dX7_readIcicle_39 : decode cX7_readIcicle 39 = .ok (.getfield 112, 3) := by decide +kernel
theorem dX7_readIcicle_42 : decode cX7_readIcicle 42 = .ok (.iconst 1, 1) := by decide +kernel
theorem dX7_readIcicle_43 : decode cX7_readIcicle 43 = .ok (.isub, 1) := by decide +kernel
theorem dX7_readIcicle_44 : decode cX7_readIcicle 44 = .ok (.invokevirtual 82, 3) := by decide +kernel
theorem dX7_readIcicle_47 : decode cX7_readIcicle 47 = .ok (.iastore, 1) := by decide +kernel
theorem dX7_readIcicle_48 : decode cX7_readIcicle 48 = .ok (.aload_n 0, 1) := by decide +kernel
theorem dX7_readIcicle_49 : decode cX7_readIcicle 49 = .ok (.aload_n 0, 1) := by decide +kernel
theorem dX7_readIcicle_50 : decode cX7_readIcicle 50 = .ok (.ldc 127, 2) := by decide +kernel
theorem dX7_readIcicle_52 : decode cX7_readIcicle 52 = .ok (.invokevirtual 45, 3) := by decide +kernel
theorem dX7_readIcicle_55 : decode cX7_readIcicle 55 = .ok (.invokevirtual 71, 3) := by decide +kernel
theorem dX7_readIcicle_58 : decode cX7_readIcicle 58 = .ok (.aload_n 1, 1) := by decide +kernel
theorem dX7_readIcicle_59 : decode cX7_readIcicle 59 = .ok (.getfield 129, 3) := by decide +kernel
theorem dX7_readIcicle_62 : decode cX7_readIcicle 62 = .ok (.iload_n 2, 1) := by decide +kernel
theorem dX7_readIcicle_63 : decode cX7_readIcicle 63 = .ok (.aload_n 0, 1) := by decide +kernel
theorem dX7_readIcicle_64 : decode cX7_readIcicle 64 = .ok (.iconst 1, 1) := by decide +kernel
theorem dX7_readIcicle_65 : decode cX7_readIcicle 65 = .ok (.bipush 99, 2) := by decide +kernel
theorem dX7_readIcicle_67 : decode cX7_readIcicle 67 = .ok (.invokevirtual 132, 3) := by decide +kernel
theorem dX7_readIcicle_70 : decode cX7_readIcicle 70 = .ok (.iastore, 1) := by decide +kernel
theorem dX7_readIcicle_71 : decode cX7_readIcicle 71 = .ok (.aload_n 1, 1) := by decide +kernel
theorem dX7_readIcicle_72 : decode cX7_readIcicle 72 = .ok (.getfield 136, 3) := by decide +kernel
theorem dX7_readIcicle_75 : decode cX7_readIcicle 75 = .ok (.iload_n 2, 1) := by decide +kernel
theorem dX7_readIcicle_76 : decode cX7_readIcicle 76 = .ok (.aload_n 1, 1) := by decide +kernel
theorem dX7_readIcicle_77 : decode cX7_readIcicle 77 = .ok (.getfield 129, 3) := by decide +kernel
theorem dX7_readIcicle_80 : decode cX7_readIcicle 80 = .ok (.iload_n 2, 1) := by decide +kernel
theorem dX7_readIcicle_81 : decode cX7_readIcicle 81 = .ok (.iaload, 1) := by decide +kernel
theorem dX7_readIcicle_82 : decode cX7_readIcicle 82 = .ok (.iastore, 1) := by decide +kernel
theorem dX7_readIcicle_83 : decode cX7_readIcicle 83 = .ok (.aload_n 1, 1) := by decide +kernel
theorem dX7_readIcicle_84 : decode cX7_readIcicle 84 = .ok (.getfield 139, 3) := by decide +kernel
theorem dX7_readIcicle_87 : decode cX7_readIcicle 87 = .ok (.iload_n 2, 1) := by decide +kernel
theorem dX7_readIcicle_88 : decode cX7_readIcicle 88 = .ok (.aload_n 0, 1) := by decide +kernel
theorem dX7_readIcicle_89 : decode cX7_readIcicle 89 = .ok (.ldc 142, 2) := by decide +kernel
theorem dX7_readIcicle_91 : decode cX7_readIcicle 91 = .ok (.bipush 23, 2) := by decide +kernel
theorem dX7_readIcicle_93 : decode cX7_readIcicle 93 = .ok (.invokevirtual 82, 3) := by decide +kernel
theorem dX7_readIcicle_96 : decode cX7_readIcicle 96 = .ok (.iastore, 1) := by decide +kernel
theorem dX7_readIcicle_97 : decode cX7_readIcicle 97 = .ok (.aload_n 1, 1) := by decide +kernel
theorem dX7_readIcicle_98 : decode cX7_readIcicle 98 = .ok (.dup, 1) := by decide +kernel
theorem dX7_readIcicle_99 : decode cX7_readIcicle 99 = .ok (.getfield 119, 3) := by decide +kernel
theorem dX7_readIcicle_102 : decode cX7_readIcicle 102 = .ok (.iconst 1, 1) := by decide +kernel
theorem dX7_readIcicle_103 : decode cX7_readIcicle 103 = .ok (.iadd, 1) := by decide +kernel
theorem dX7_readIcicle_104 : decode cX7_readIcicle 104 = .ok (.putfield 119, 3) := by decide +kernel
theorem dX7_readIcicle_107 : decode cX7_readIcicle 107 = .ok (.return_, 1) := by decide +kernel
noncomputable def vX7_readIcicle : List Cond := .code yX7_readIcicle cX7_readIcicle 3 none :: (([.fieldLink RX7 119 "IcicleClock$Street" "icicles" "I", .methodLink RX7 67 yX7_blame, .instanceMethod yX7_blame, .selects RX7 yX7_blame yX7_blame, .initialized RX7, .methodLink RX7 45 yX7_isWord, .instanceMethod yX7_isWord, .selects RX7 yX7_isWord yX7_isWord, .methodLink RX7 71 yX7_pass, .instanceMethod yX7_pass, .selects RX7 yX7_pass yX7_pass, .fieldLink RX7 122 "IcicleClock$Street" "eaveOf" "[I", .fieldLink RX7 112 "IcicleClock$Street" "eaves" "I", .methodLink RX7 82 yX7_numberBehind, .instanceMethod yX7_numberBehind, .selects RX7 yX7_numberBehind yX7_numberBehind, .fieldLink RX7 129 "IcicleClock$Street" "lengthTold" "[I", .methodLink RX7 132 yX7_passNumber, .instanceMethod yX7_passNumber, .selects RX7 yX7_passNumber yX7_passNumber, .fieldLink RX7 136 "IcicleClock$Street" "lengthHung" "[I", .fieldLink RX7 139 "IcicleClock$Street" "hourOf" "[I"] : List Cond) ++ (wsX60 ++ (vX7_blame ++ (vX7_isWord ++ (vX7_pass ++ (vX7_numberBehind ++ vX7_passNumber))))))
theorem iX7_readIcicle_6 : ∀ w ∈ wsX60, w ∈ vX7_readIcicle := fun _ h => List.mem_cons_of_mem _ (List.mem_append_right _ (List.mem_append_left _ h))
theorem gs_X7_readIcicle : Gd vX7_readIcicle := Gd.cons (by decide +kernel) (Gd.app (Gd.r (by decide +kernel)) (Gd.app gwX_6 (Gd.app gs_X7_blame (Gd.app gs_X7_isWord (Gd.app gs_X7_pass (Gd.app gs_X7_numberBehind gs_X7_passNumber))))))
theorem gg_X7_readIcicle_X7_blame : GoodIn vX7_readIcicle (wsV RX7 67 RX7 yX7_blame vX7_blame) := goodIn_app (goodIn_r _ [2, 3, 4, 5] (by decide +kernel) (by decide +kernel)) (fun w h => ⟨List.mem_cons_of_mem _ (List.mem_append_right _ (List.mem_append_right _ (List.mem_append_left _ h))), gs_X7_blame w h⟩)
theorem gg_X7_readIcicle_X7_isWord : GoodIn vX7_readIcicle (wsV RX7 45 RX7 yX7_isWord vX7_isWord) := goodIn_app (goodIn_r _ [6, 7, 8, 5] (by decide +kernel) (by decide +kernel)) (fun w h => ⟨List.mem_cons_of_mem _ (List.mem_append_right _ (List.mem_append_right _ (List.mem_append_right _ (List.mem_append_left _ h)))), gs_X7_isWord w h⟩)
theorem gg_X7_readIcicle_X7_pass : GoodIn vX7_readIcicle (wsV RX7 71 RX7 yX7_pass vX7_pass) := goodIn_app (goodIn_r _ [9, 10, 11, 5] (by decide +kernel) (by decide +kernel)) (fun w h => ⟨List.mem_cons_of_mem _ (List.mem_append_right _ (List.mem_append_right _ (List.mem_append_right _ (List.mem_append_right _ (List.mem_append_left _ h))))), gs_X7_pass w h⟩)
theorem gg_X7_readIcicle_X7_numberBehind : GoodIn vX7_readIcicle (wsV RX7 82 RX7 yX7_numberBehind vX7_numberBehind) := goodIn_app (goodIn_r _ [14, 15, 16, 5] (by decide +kernel) (by decide +kernel)) (fun w h => ⟨List.mem_cons_of_mem _ (List.mem_append_right _ (List.mem_append_right _ (List.mem_append_right _ (List.mem_append_right _ (List.mem_append_right _ (List.mem_append_left _ h)))))), gs_X7_numberBehind w h⟩)
theorem gg_X7_readIcicle_X7_passNumber : GoodIn vX7_readIcicle (wsV RX7 132 RX7 yX7_passNumber vX7_passNumber) := goodIn_app (goodIn_r _ [18, 19, 20, 5] (by decide +kernel) (by decide +kernel)) (fun w h => ⟨List.mem_cons_of_mem _ (List.mem_append_right _ (List.mem_append_right _ (List.mem_append_right _ (List.mem_append_right _ (List.mem_append_right _ (List.mem_append_right _ (h))))))), gs_X7_passNumber w h⟩)
set_option maxHeartbeats 4000000 in
set_option maxRecDepth 100000 in
theorem s_X7_readIcicle (l : Launch) (D : va_G) (cs : Nat → ClassId) (ad : Nat → Nat) (kS : kSt) (K : sK) (hKO : KO K) (hj : wJ ad 218) (g : Nat → va_E) (hW : WF (shp ad K) ad cs g) : sV l yX7_readIcicle vX7_readIcicle { frames := 6, cells := 0, slots := 0, locals := 129 } D cs ad kS [.ref (ad 1), .ref (ad 23)] g (fun g2 => WF (shp ad K) ad cs g2 ∧ (∀ j, j ≠ 1 ∧ j ≠ 23 ∧ j ≠ 27 ∧ j ≠ 28 ∧ j ≠ 29 ∧ j ≠ 30 → g2 j = g j)) := by
  refine Met.startS (cc := cX7_readIcicle) (maxL := 3) (ret := none) RX7 rfl (by decide) rfl (Nat.le_of_ble_eq_true rfl) ?_
  intro p e s m below meth c ls X Z hP hl
  have hx := X.1
  have hb := X.2.1
  have hS : va_S (wA ad 218) s.heap s.heap [] := va_S.rf
  have hA : ∀ i, i < 218 → wA ad 218 (ad i) := fun i h => ⟨i, h, rfl⟩
  have hfr : ∀ j, j ≠ 1 ∧ j ≠ 23 ∧ j ≠ 27 ∧ j ≠ 28 ∧ j ≠ 29 ∧ j ≠ 30 → g j = g j := fun _ _ => rfl
  have hl : lv_has ls 3 [(0, .ref (ad 1)), (1, .ref (ad 23))] := hl
  refine lv_aload_n hx hb dX7_readIcicle_0 rfl (lv_at hl 1 rfl) ?_
  obtain ⟨fsc_1, hgc_1, hOc_1⟩ := hW.obj (i := 23) (by decide) (sh_23 ad K)
  obtain ⟨x_3, hk_2, hlx_3, hhx_3⟩ := hOc_1.int 5 rfl
  refine q_get X iX7_readIcicle_6 hP (by decide) hgc_1 rfl 5 (by decide) (List.mem_of_getElem? (i := 1) rfl) (v := .int x_3) hk_2 dX7_readIcicle_1 ?_
  refine lv_bipush (v := 8) hx hb dX7_readIcicle_4 (by decide) ?_
  refine lv_icmp_lt (tgt := 15) hx hb dX7_readIcicle_6 (by decide) (fun hc_4 => ?_) (fun hc_4 => ?_)
  · have hhc_4 := n_lt (rfl : x_3.toInt = x_3.toInt) (by decide : (8 : Int32).toInt = 8) hc_4
    refine lv_aload_n hx hb dX7_readIcicle_15 rfl (lv_at hl 1 rfl) ?_
    refine q_get X iX7_readIcicle_6 hP (by decide) hgc_1 rfl 5 (by decide) (List.mem_of_getElem? (i := 1) rfl) (v := .int x_3) hk_2 dX7_readIcicle_16 ?_
    refine lv_istore_n (lv' := [(2, .int x_3), (0, .ref (ad 1)), (1, .ref (ad 23))]) hx hb dX7_readIcicle_19 rfl hl (by decide) rfl (fun ls hl => ?_)
    refine lv_aload_n hx hb dX7_readIcicle_20 rfl (lv_at hl 1 rfl) ?_
    refine lv_aload_n hx hb dX7_readIcicle_21 rfl (lv_at hl 1 rfl) ?_
    refine va_ldcS hx hb X.2.2.2.2.2.1 (sq_7_57 Z) dX7_readIcicle_22 ?_
    obtain ⟨fsc_8, hgc_8, hOc_8⟩ := hW.obj (i := 1) (by decide) (sh_1 ad K)
    refine s_calli (q := (RX7, TX7, 7)) (As := [.ref (kS.1 9)]) (rest := [.ref (ad 1)]) X Z (s_X7_isWord l D cs ad kS K hKO hj g hW 9 (by omega)) (cwV 1 X.2.2.2.2.1 gg_X7_readIcicle_X7_isWord rfl rfl rfl (by decide +kernel) ⟨Nat.le_of_ble_eq_true rfl, Nat.le_of_ble_eq_true rfl⟩) (by decide) hgc_8 rfl hP hA hS.2.1 hS rfl hl.1 rfl (Nat.le_of_ble_eq_true rfl) dX7_readIcicle_24 ⟨Nat.le_of_ble_eq_true rfl, Nat.le_of_ble_eq_true rfl⟩ (fun r_7 g_6 H locs hw_5 hP hS => ?_)
    obtain ⟨hw_5g, hw_5⟩ := hw_5
    rw [hw_5g] at hP
    refine s_callv (q := (RX7, TX7, 7)) (As := [.int r_7]) (rest := []) X Z (s_X7_pass l D cs ad kS K hKO hj g hW r_7) (cwV 1 X.2.2.2.2.1 gg_X7_readIcicle_X7_pass rfl rfl rfl (by decide +kernel) ⟨Nat.le_of_ble_eq_true rfl, Nat.le_of_ble_eq_true rfl⟩) (by decide) hgc_8 rfl hP hA hS.2.1 hS rfl hl.1 rfl (Nat.le_of_ble_eq_true rfl) dX7_readIcicle_27 ⟨Nat.le_of_ble_eq_true rfl, Nat.le_of_ble_eq_true rfl⟩ (fun g_10 H locs hw_9 hP hS => ?_)
    obtain ⟨hw_9W, hw_9f⟩ := hw_9
    have hfr_12 : ∀ j, j ≠ 1 ∧ j ≠ 23 ∧ j ≠ 27 ∧ j ≠ 28 ∧ j ≠ 29 ∧ j ≠ 30 → g_10 j = g j := fun j hj => (hw_9f j (by omega)).trans (hfr j hj)
    have hg_13 := (hw_9f 23 (by omega)).trans hgc_1
    refine lv_aload_n hx hb dX7_readIcicle_30 rfl (lv_at hl 2 rfl) ?_
    have hk_14 := hOc_1.ref 11 rfl
    refine q_get X iX7_readIcicle_6 hP (by decide) hg_13 rfl 11 (by decide) (List.mem_of_getElem? (i := 12) rfl) (v := .ref (ad 27)) hk_14 dX7_readIcicle_31 ?_
    refine lv_iload_n hx hb dX7_readIcicle_34 rfl (lv_at hl 0 rfl) ?_
    refine lv_aload_n hx hb dX7_readIcicle_35 rfl (lv_at hl 1 rfl) ?_
    refine va_ldcS hx hb X.2.2.2.2.2.1 (sq_7_125 Z) dX7_readIcicle_36 ?_
    refine lv_aload_n hx hb dX7_readIcicle_38 rfl (lv_at hl 2 rfl) ?_
    obtain ⟨x_16, hk_15, hlx_16, hhx_16⟩ := hOc_1.int 4 rfl
    refine q_get X iX7_readIcicle_6 hP (by decide) hg_13 rfl 4 (by decide) (List.mem_of_getElem? (i := 13) rfl) (v := .int x_16) hk_15 dX7_readIcicle_39 ?_
    refine lv_iconst (v := 1) hx hb dX7_readIcicle_42 (by decide) ?_
    refine lv_isub hx hb dX7_readIcicle_43 ?_
    refine lv_topi (fun z_17 ez_17 => ?_)
    have hz_17 : z_17.toInt = x_16.toInt - 1 := n_sub (rfl : x_16.toInt = x_16.toInt) (by decide : (1 : Int32).toInt = 1) ez_17 (by omega) (by omega)
    obtain ⟨fsc_21, hgc_21, hOc_21⟩ := hw_9W.obj (i := 1) (by decide) (sh_1 ad K)
    refine s_calli (q := (RX7, TX7, 7)) (As := [.ref (kS.1 10), .int z_17]) (rest := [.int x_3, .ref (ad 27)]) X Z (s_X7_numberBehind l D cs ad kS K hKO hj g_10 hw_9W 10 z_17 (by omega)) (cwV 2 X.2.2.2.2.1 gg_X7_readIcicle_X7_numberBehind rfl rfl rfl (by decide +kernel) ⟨Nat.le_of_ble_eq_true rfl, Nat.le_of_ble_eq_true rfl⟩) (by decide) hgc_21 rfl hP hA hS.2.1 hS rfl hl.1 rfl (Nat.le_of_ble_eq_true rfl) dX7_readIcicle_44 ⟨Nat.le_of_ble_eq_true rfl, Nat.le_of_ble_eq_true rfl⟩ (fun r_20 g_19 H locs hw_18 hP hS => ?_)
    obtain ⟨hw_18W, hw_18f, hw_18⟩ := hw_18
    have hfr_22 : ∀ j, j ≠ 1 ∧ j ≠ 23 ∧ j ≠ 27 ∧ j ≠ 28 ∧ j ≠ 29 ∧ j ≠ 30 → g_19 j = g j := fun j hj => (hw_18f j (by omega)).trans (hfr_12 j hj)
    have hg_23 := (hw_18f 23 (by omega)).trans hg_13
    obtain ⟨fc_24, hgc_24, hFc_24⟩ := hw_18W.arr (i := 27) (by decide) (sh_27 ad K)
    refine s_iast X hP hj hA hS (by decide) hgc_24 (n_in (rfl : x_3.toInt = x_3.toInt) (by omega) (by omega)) dX7_readIcicle_47 hw_18W (sh_27 ad K) (hFc_24.put ⟨by omega, by omega⟩) (fun fc_25 gc_25 H locs ec_25 hFc_25 hgc_25 hfc_25 hWc_25 hP hS => ?_)
    have hg_27 := (hfc_25 23 (by decide)).trans hg_23
    have hfr_26 : ∀ j, j ≠ 1 ∧ j ≠ 23 ∧ j ≠ 27 ∧ j ≠ 28 ∧ j ≠ 29 ∧ j ≠ 30 → gc_25 j = g j := fun j hj => (hfc_25 j (by omega)).trans (hfr_22 j hj)
    refine lv_aload_n hx hb dX7_readIcicle_48 rfl (lv_at hl 1 rfl) ?_
    refine lv_aload_n hx hb dX7_readIcicle_49 rfl (lv_at hl 1 rfl) ?_
    refine va_ldcS hx hb X.2.2.2.2.2.1 (sq_7_127 Z) dX7_readIcicle_50 ?_
    obtain ⟨fsc_31, hgc_31, hOc_31⟩ := hWc_25.obj (i := 1) (by decide) (sh_1 ad K)
    refine s_calli (q := (RX7, TX7, 7)) (As := [.ref (kS.1 11)]) (rest := [.ref (ad 1)]) X Z (s_X7_isWord l D cs ad kS K hKO hj gc_25 hWc_25 11 (by omega)) (cwV 1 X.2.2.2.2.1 gg_X7_readIcicle_X7_isWord rfl rfl rfl (by decide +kernel) ⟨Nat.le_of_ble_eq_true rfl, Nat.le_of_ble_eq_true rfl⟩) (by decide) hgc_31 rfl hP hA hS.2.1 hS rfl hl.1 rfl (Nat.le_of_ble_eq_true rfl) dX7_readIcicle_52 ⟨Nat.le_of_ble_eq_true rfl, Nat.le_of_ble_eq_true rfl⟩ (fun r_30 g_29 H locs hw_28 hP hS => ?_)
    obtain ⟨hw_28g, hw_28⟩ := hw_28
    rw [hw_28g] at hP
    refine s_callv (q := (RX7, TX7, 7)) (As := [.int r_30]) (rest := []) X Z (s_X7_pass l D cs ad kS K hKO hj gc_25 hWc_25 r_30) (cwV 1 X.2.2.2.2.1 gg_X7_readIcicle_X7_pass rfl rfl rfl (by decide +kernel) ⟨Nat.le_of_ble_eq_true rfl, Nat.le_of_ble_eq_true rfl⟩) (by decide) hgc_31 rfl hP hA hS.2.1 hS rfl hl.1 rfl (Nat.le_of_ble_eq_true rfl) dX7_readIcicle_55 ⟨Nat.le_of_ble_eq_true rfl, Nat.le_of_ble_eq_true rfl⟩ (fun g_33 H locs hw_32 hP hS => ?_)
    obtain ⟨hw_32W, hw_32f⟩ := hw_32
    have hfr_35 : ∀ j, j ≠ 1 ∧ j ≠ 23 ∧ j ≠ 27 ∧ j ≠ 28 ∧ j ≠ 29 ∧ j ≠ 30 → g_33 j = g j := fun j hj => (hw_32f j (by omega)).trans (hfr_26 j hj)
    have hg_36 := (hw_32f 23 (by omega)).trans hg_27
    have hg_37 := (hw_32f 27 (by omega)).trans hgc_25
    refine lv_aload_n hx hb dX7_readIcicle_58 rfl (lv_at hl 2 rfl) ?_
    have hk_38 := hOc_1.ref 12 rfl
    refine q_get X iX7_readIcicle_6 hP (by decide) hg_36 rfl 12 (by decide) (List.mem_of_getElem? (i := 17) rfl) (v := .ref (ad 28)) hk_38 dX7_readIcicle_59 ?_
    refine lv_iload_n hx hb dX7_readIcicle_62 rfl (lv_at hl 0 rfl) ?_
    refine lv_aload_n hx hb dX7_readIcicle_63 rfl (lv_at hl 1 rfl) ?_
    refine lv_iconst (v := 1) hx hb dX7_readIcicle_64 (by decide) ?_
    refine lv_bipush (v := 99) hx hb dX7_readIcicle_65 (by decide) ?_
    have hqk_39 : (1 : Int32).toInt = 1 := by decide
    obtain ⟨fsc_43, hgc_43, hOc_43⟩ := hw_32W.obj (i := 1) (by decide) (sh_1 ad K)
    refine s_calli (q := (RX7, TX7, 7)) (As := [.int 1, .int 99]) (rest := [.int x_3, .ref (ad 28)]) X Z (s_X7_passNumber l D cs ad kS K hKO hj g_33 hw_32W 1 99 (by omega)) (cwV 2 X.2.2.2.2.1 gg_X7_readIcicle_X7_passNumber rfl rfl rfl (by decide +kernel) ⟨Nat.le_of_ble_eq_true rfl, Nat.le_of_ble_eq_true rfl⟩) (by decide) hgc_43 rfl hP hA hS.2.1 hS rfl hl.1 rfl (Nat.le_of_ble_eq_true rfl) dX7_readIcicle_67 ⟨Nat.le_of_ble_eq_true rfl, Nat.le_of_ble_eq_true rfl⟩ (fun r_42 g_41 H locs hw_40 hP hS => ?_)
    obtain ⟨hw_40W, hw_40f, hw_40⟩ := hw_40
    have hfr_44 : ∀ j, j ≠ 1 ∧ j ≠ 23 ∧ j ≠ 27 ∧ j ≠ 28 ∧ j ≠ 29 ∧ j ≠ 30 → g_41 j = g j := fun j hj => (hw_40f j (by omega)).trans (hfr_35 j hj)
    have hg_45 := (hw_40f 23 (by omega)).trans hg_36
    have hg_46 := (hw_40f 27 (by omega)).trans hg_37
    have hqk_47 : (99 : Int32).toInt = 99 := by decide
    obtain ⟨fc_48, hgc_48, hFc_48⟩ := hw_40W.arr (i := 28) (by decide) (sh_28 ad K)
    refine s_iast X hP hj hA hS (by decide) hgc_48 (n_in (rfl : x_3.toInt = x_3.toInt) (by omega) (by omega)) dX7_readIcicle_70 hw_40W (sh_28 ad K) (hFc_48.put trivial) (fun fc_49 gc_49 H locs ec_49 hFc_49 hgc_49 hfc_49 hWc_49 hP hS => ?_)
    have hg_51 := (hfc_49 23 (by decide)).trans hg_45
    have hg_52 := (hfc_49 27 (by decide)).trans hg_46
    have hfr_50 : ∀ j, j ≠ 1 ∧ j ≠ 23 ∧ j ≠ 27 ∧ j ≠ 28 ∧ j ≠ 29 ∧ j ≠ 30 → gc_49 j = g j := fun j hj => (hfc_49 j (by omega)).trans (hfr_44 j hj)
    refine lv_aload_n hx hb dX7_readIcicle_71 rfl (lv_at hl 2 rfl) ?_
    have hk_53 := hOc_1.ref 13 rfl
    refine q_get X iX7_readIcicle_6 hP (by decide) hg_51 rfl 13 (by decide) (List.mem_of_getElem? (i := 21) rfl) (v := .ref (ad 29)) hk_53 dX7_readIcicle_72 ?_
    refine lv_iload_n hx hb dX7_readIcicle_75 rfl (lv_at hl 0 rfl) ?_
    refine lv_aload_n hx hb dX7_readIcicle_76 rfl (lv_at hl 2 rfl) ?_
    refine q_get X iX7_readIcicle_6 hP (by decide) hg_51 rfl 12 (by decide) (List.mem_of_getElem? (i := 17) rfl) (v := .ref (ad 28)) hk_38 dX7_readIcicle_77 ?_
    refine lv_iload_n hx hb dX7_readIcicle_80 rfl (lv_at hl 0 rfl) ?_
    refine q_iald X hP (by decide) hgc_49 (n_in (rfl : x_3.toInt = x_3.toInt) (by omega) (by omega)) dX7_readIcicle_81 ?_
    refine lv_topi (fun z_54 ez_54 => ?_)
    obtain ⟨fc_55, hgc_55, hFc_55⟩ := hWc_49.arr (i := 29) (by decide) (sh_29 ad K)
    refine s_iast X hP hj hA hS (by decide) hgc_55 (n_in (rfl : x_3.toInt = x_3.toInt) (by omega) (by omega)) dX7_readIcicle_82 hWc_49 (sh_29 ad K) (hFc_55.put trivial) (fun fc_56 gc_56 H locs ec_56 hFc_56 hgc_56 hfc_56 hWc_56 hP hS => ?_)
    have hg_58 := (hfc_56 23 (by decide)).trans hg_51
    have hg_59 := (hfc_56 27 (by decide)).trans hg_52
    have hg_60 := (hfc_56 28 (by decide)).trans hgc_49
    have hfr_57 : ∀ j, j ≠ 1 ∧ j ≠ 23 ∧ j ≠ 27 ∧ j ≠ 28 ∧ j ≠ 29 ∧ j ≠ 30 → gc_56 j = g j := fun j hj => (hfc_56 j (by omega)).trans (hfr_50 j hj)
    refine lv_aload_n hx hb dX7_readIcicle_83 rfl (lv_at hl 2 rfl) ?_
    have hk_61 := hOc_1.ref 14 rfl
    refine q_get X iX7_readIcicle_6 hP (by decide) hg_58 rfl 14 (by decide) (List.mem_of_getElem? (i := 22) rfl) (v := .ref (ad 30)) hk_61 dX7_readIcicle_84 ?_
    refine lv_iload_n hx hb dX7_readIcicle_87 rfl (lv_at hl 0 rfl) ?_
    refine lv_aload_n hx hb dX7_readIcicle_88 rfl (lv_at hl 1 rfl) ?_
    refine va_ldcS hx hb X.2.2.2.2.2.1 (sq_7_142 Z) dX7_readIcicle_89 ?_
    refine lv_bipush (v := 23) hx hb dX7_readIcicle_91 (by decide) ?_
    obtain ⟨fsc_65, hgc_65, hOc_65⟩ := hWc_56.obj (i := 1) (by decide) (sh_1 ad K)
    refine s_calli (q := (RX7, TX7, 7)) (As := [.ref (kS.1 12), .int 23]) (rest := [.int x_3, .ref (ad 30)]) X Z (s_X7_numberBehind l D cs ad kS K hKO hj gc_56 hWc_56 12 23 (by omega)) (cwV 2 X.2.2.2.2.1 gg_X7_readIcicle_X7_numberBehind rfl rfl rfl (by decide +kernel) ⟨Nat.le_of_ble_eq_true rfl, Nat.le_of_ble_eq_true rfl⟩) (by decide) hgc_65 rfl hP hA hS.2.1 hS rfl hl.1 rfl (Nat.le_of_ble_eq_true rfl) dX7_readIcicle_93 ⟨Nat.le_of_ble_eq_true rfl, Nat.le_of_ble_eq_true rfl⟩ (fun r_64 g_63 H locs hw_62 hP hS => ?_)
    obtain ⟨hw_62W, hw_62f, hw_62⟩ := hw_62
    have hfr_66 : ∀ j, j ≠ 1 ∧ j ≠ 23 ∧ j ≠ 27 ∧ j ≠ 28 ∧ j ≠ 29 ∧ j ≠ 30 → g_63 j = g j := fun j hj => (hw_62f j (by omega)).trans (hfr_57 j hj)
    have hg_67 := (hw_62f 23 (by omega)).trans hg_58
    have hg_68 := (hw_62f 27 (by omega)).trans hg_59
    have hg_69 := (hw_62f 28 (by omega)).trans hg_60
    have hg_70 := (hw_62f 29 (by omega)).trans hgc_56
    have hqk_71 : (23 : Int32).toInt = 23 := by decide
    obtain ⟨fc_72, hgc_72, hFc_72⟩ := hw_62W.arr (i := 30) (by decide) (sh_30 ad K)
    refine s_iast X hP hj hA hS (by decide) hgc_72 (n_in (rfl : x_3.toInt = x_3.toInt) (by omega) (by omega)) dX7_readIcicle_96 hw_62W (sh_30 ad K) (hFc_72.put trivial) (fun fc_73 gc_73 H locs ec_73 hFc_73 hgc_73 hfc_73 hWc_73 hP hS => ?_)
    have hg_75 := (hfc_73 23 (by decide)).trans hg_67
    have hg_76 := (hfc_73 27 (by decide)).trans hg_68
    have hg_77 := (hfc_73 28 (by decide)).trans hg_69
    have hg_78 := (hfc_73 29 (by decide)).trans hg_70
    have hfr_74 : ∀ j, j ≠ 1 ∧ j ≠ 23 ∧ j ≠ 27 ∧ j ≠ 28 ∧ j ≠ 29 ∧ j ≠ 30 → gc_73 j = g j := fun j hj => (hfc_73 j (by omega)).trans (hfr_66 j hj)
    refine lv_aload_n hx hb dX7_readIcicle_97 rfl (lv_at hl 2 rfl) ?_
    refine lv_dup hx hb dX7_readIcicle_98 rfl ?_
    refine q_get X iX7_readIcicle_6 hP (by decide) hg_75 rfl 5 (by decide) (List.mem_of_getElem? (i := 1) rfl) (v := .int x_3) hk_2 dX7_readIcicle_99 ?_
    refine lv_iconst (v := 1) hx hb dX7_readIcicle_102 (by decide) ?_
    refine lv_iadd hx hb dX7_readIcicle_103 ?_
    refine lv_topi (fun z_79 ez_79 => ?_)
    have hz_79 : z_79.toInt = x_3.toInt + 1 := n_add (rfl : x_3.toInt = x_3.toInt) (by decide : (1 : Int32).toInt = 1) ez_79 (by omega) (by omega)
    refine s_put X iX7_readIcicle_6 tyX6 tyX6_ok nmX6 hP hj hA hS (by decide) hg_75 rfl 5 (by decide) (List.mem_of_getElem? (i := 1) rfl) rfl (ty := .int) (v := .int z_79) (by decide +kernel) rfl rfl dX7_readIcicle_104 hWc_73 (sh_23 ad K) hOc_1 rfl ⟨z_79, rfl, by omega, by omega⟩ (fun fsc_80 gc_80 H locs hOc_80 hkc_80 hnc_80 hgc_80 hfc_80 hWc_80 hP hS => ?_)
    have hk_81 := (hnc_80 11 (by decide)).trans hk_14
    have hk_82 := (hnc_80 4 (by decide)).trans hk_15
    have hk_83 := (hnc_80 12 (by decide)).trans hk_38
    have hk_84 := (hnc_80 13 (by decide)).trans hk_53
    have hk_85 := (hnc_80 14 (by decide)).trans hk_61
    have hg_87 := (hfc_80 27 (by decide)).trans hg_76
    have hg_88 := (hfc_80 28 (by decide)).trans hg_77
    have hg_89 := (hfc_80 29 (by decide)).trans hg_78
    have hg_90 := (hfc_80 30 (by decide)).trans hgc_73
    have hfr_86 : ∀ j, j ≠ 1 ∧ j ≠ 23 ∧ j ≠ 27 ∧ j ≠ 28 ∧ j ≠ 29 ∧ j ≠ 30 → gc_80 j = g j := fun j hj => (hfc_80 j (by omega)).trans (hfr_74 j hj)
    exact q_vret X hP hS ⟨hWc_80, hfr_86⟩ dX7_readIcicle_107
  · have hhc_4 := n_nlt (rfl : x_3.toInt = x_3.toInt) (by decide : (8 : Int32).toInt = 8) hc_4
    refine lv_aload_n hx hb dX7_readIcicle_9 rfl (lv_at hl 0 rfl) ?_
    refine lv_iconst (v := 3) hx hb dX7_readIcicle_10 (by decide) ?_
    obtain ⟨fsc_94, hgc_94, hOc_94⟩ := hW.obj (i := 1) (by decide) (sh_1 ad K)
    refine s_callv (q := (RX7, TX7, 7)) (As := [.int 3]) (rest := []) X Z (s_X7_blame l D cs ad kS K hKO hj g hW 3) (cwV 1 X.2.2.2.2.1 gg_X7_readIcicle_X7_blame rfl rfl rfl (by decide +kernel) ⟨Nat.le_of_ble_eq_true rfl, Nat.le_of_ble_eq_true rfl⟩) (by decide) hgc_94 rfl hP hA hS.2.1 hS rfl hl.1 rfl (Nat.le_of_ble_eq_true rfl) dX7_readIcicle_11 ⟨Nat.le_of_ble_eq_true rfl, Nat.le_of_ble_eq_true rfl⟩ (fun g_92 H locs hw_91 hP hS => ?_)
    obtain ⟨hw_91W, hw_91f⟩ := hw_91
    have hfr_95 : ∀ j, j ≠ 1 ∧ j ≠ 23 ∧ j ≠ 27 ∧ j ≠ 28 ∧ j ≠ 29 ∧ j ≠ 30 → g_92 j = g j := fun j hj => (hw_91f j (by omega)).trans (hfr j hj)
    have hg_96 := (hw_91f 23 (by omega)).trans hgc_1
    exact q_vret X hP hS ⟨hw_91W, hfr_95⟩ dX7_readIcicle_14

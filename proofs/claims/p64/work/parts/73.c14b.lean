theorem dX7_readDay_0 : decode cX7_readDay 0 = .ok (.aload_n 1, 1) := by decide +kernel
theorem dX7_readDay_1 : decode cX7_readDay 1 = .ok (.getfield 98, 3) := by decide +kernel
theorem dX7_readDay_4 : decode cX7_readDay 4 = .ok (.bipush 14, 2) := by decide +kernel
theorem dX7_readDay_6 : decode cX7_readDay 6 = .ok (.if_icmp .lt 9, 3) := by decide +kernel
theorem dX7_readDay_9 : decode cX7_readDay 9 = .ok (.aload_n 0, 1) := by decide +kernel
theorem dX7_readDay_10 : decode cX7_readDay 10 = .ok (.iconst 3, 1) := by decide +kernel
theorem dX7_readDay_11 : decode cX7_readDay 11 = .ok (.invokevirtual 67, 3) := by decide +kernel
theorem dX7_readDay_14 : decode cX7_readDay 14 = .ok (.return_, 1) := by decide +kernel
theorem dX7_readDay_15 : decode cX7_readDay 15 = .ok (.aload_n 0, 1) := by decide +kernel
theorem dX7_readDay_16 : decode cX7_readDay 16 = .ok (.aload_n 0, 1) := by decide +kernel
theorem dX7_readDay_17 : decode cX7_readDay 17 = .ok (.ldc 43, 2) := by decide +kernel
theorem dX7_readDay_19 : decode cX7_readDay 19 = .ok (.invokevirtual 45, 3) := by decide +kernel
theorem dX7_readDay_22 : decode cX7_readDay 22 = .ok (.invokevirtual 71, 3) := by decide +kernel
theorem dX7_readDay_25 : decode cX7_readDay 25 = .ok (.aload_n 0, 1) := by decide +kernel
theorem dX7_readDay_26 : decode cX7_readDay 26 = .ok (.ldc 101, 2) := by decide +kernel
theorem dX7_readDay_28 : decode cX7_readDay 28 = .ok (.invokevirtual 45, 3) := by decide +kernel
theorem dX7_readDay_31 : decode cX7_readDay 31 = .ok (.istore_n 2, 1) := by decide +kernel
theorem dX7_readDay_32 : decode cX7_readDay 32 = .ok (.aload_n 0, 1) := by decide +kernel
theorem dX7_readDay_33 : decode cX7_readDay 33 = .ok (.iload_n 2, 1) := by decide +kernel
theorem dX7_readDay_34 : decode cX7_readDay 34 = .ok (.ifCond .eq 8, 3) := by decide +kernel
theorem dX7_readDay_37 : decode cX7_readDay 37 = .ok (.ldc 101, 2) := by decide +kernel
theorem dX7_readDay_39 : decode cX7_readDay 39 = .ok (.goto 5, 3) := by decide +kernel
theorem dX7_readDay_42 : decode cX7_readDay 42 = .ok (.ldc 103, 2) := by decide +kernel
theorem dX7_readDay_44 : decode cX7_readDay 44 = .ok (.bipush 9, 2) := by decide +kernel
theorem dX7_readDay_46 : decode cX7_readDay 46 = .ok (.invokevirtual 82, 3) := by decide +kernel
theorem dX7_readDay_49 : decode cX7_readDay 49 = .ok (.istore_n 3, 1) := by decide +kernel
theorem dX7_readDay_50 : decode cX7_readDay 50 = .ok (.aload_n 1, 1) := by decide +kernel
theorem dX7_readDay_51 : decode cX7_readDay 51 = .ok (.getfield 105, 3) := by decide +kernel
theorem dX7_readDay_54 : decode cX7_readDay 54 = .ok (.aload_n 1, 1) := by decide +kernel
theorem dX7_readDay_55 : decode cX7_readDay 55 = .ok (.getfield 98, 3) := by decide +kernel
theorem dX7_readDay_58 : decode cX7_readDay 58 = .ok (.iload_n 2, 1) := by decide +kernel
theorem dX7_readDay_59 : decode cX7_readDay 59 = .ok (.ifCond .eq 8, 3) := by decide +kernel
theorem dX7_readDay_62 : decode cX7_readDay 62 = .ok (.iload_n 3, 1) := by decide +kernel
theorem dX7_readDay_63 : decode cX7_readDay 63 = .ok (.ineg, 1) := by decide +kernel
theorem dX7_readDay_64 : decode cX7_readDay 64 = .ok (.goto 4, 3) := by decide +kernel
theorem dX7_readDay_67 : decode cX7_readDay 67 = .ok (.iload_n 3, 1) := by decide +kernel
theorem dX7_readDay_68 : decode cX7_readDay 68 = .ok (.iastore, 1) := by decide +kernel
theorem dX7_readDay_69 : decode cX7_readDay 69 = .ok (.aload_n 1, 1) := by decide +kernel
theorem dX7_readDay_70 : decode cX7_readDay 70 = .ok (.getfield 108, 3) := by decide +kernel
theorem dX7_readDay_73 : decode cX7_readDay 73 = .ok (.aload_n 1, 1) := by decide +kernel
theorem dX7_readDay_74 : decode cX7_readDay 74 = .ok (.getfield 98, 3) := by decide +kernel
theorem dX7_readDay_77 : decode cX7_readDay 77 = .ok (.iload_n 2, 1) := by decide +kernel
theorem dX7_readDay_78 : decode cX7_readDay 78 = .ok (.ifCond .ne 7, 3) := by decide +kernel
theorem dX7_readDay_81 : decode cX7_readDay 81 = .ok (.iconst 1, 1) := by decide +kernel
theorem dX7_readDay_82 : decode cX7_readDay 82 = .ok (.goto 4, 3) := by decide +kernel
theorem dX7_readDay_85 : decode cX7_readDay 85 = .ok (.iconst 0, 1) := by decide +kernel
theorem dX7_readDay_86 : decode cX7_readDay 86 = .ok (.bastore, 1) := by decide +kernel
theorem dX7_readDay_87 : decode cX7_readDay 87 = .ok (.aload_n 1, 1) := by decide +kernel
theorem dX7_readDay_88 : decode cX7_readDay 88 = .ok (.dup, 1) := by decide +kernel
theorem dX7_readDay_89 : decode cX7_readDay 89 = .ok (.getfield 98, 3) := by decide +kernel
theorem dX7_readDay_92 : decode cX7_readDay 92 = .ok (.iconst 1, 1) := by decide +kernel
theorem dX7_readDay_93 : decode cX7_readDay 93 = .ok (.iadd, 1) := by decide +kernel
theorem dX7_readDay_94 : decode cX7_readDay 94 = .ok (.putfield 98, 3) := by decide +kernel
theorem dX7_readDay_97 : decode cX7_readDay 97 = .ok (.return_, 1) := by decide +kernel
noncomputable def vX7_readDay : List Cond := .code yX7_readDay cX7_readDay 4 none :: (([.fieldLink RX7 98 "IcicleClock$Street" "days" "I", .methodLink RX7 67 yX7_blame, .instanceMethod yX7_blame, .selects RX7 yX7_blame yX7_blame, .initialized RX7, .methodLink RX7 45 yX7_isWord, .instanceMethod yX7_isWord, .selects RX7 yX7_isWord yX7_isWord, .methodLink RX7 71 yX7_pass, .instanceMethod yX7_pass, .selects RX7 yX7_pass yX7_pass, .methodLink RX7 82 yX7_numberBehind, .instanceMethod yX7_numberBehind, .selects RX7 yX7_numberBehind yX7_numberBehind, .fieldLink RX7 105 "IcicleClock$Street" "thaw" "[I", .fieldLink RX7 108 "IcicleClock$Street" "isThaw" "[Z"] : List Cond) ++ (wsX60 ++ (vX7_blame ++ (vX7_isWord ++ (vX7_pass ++ vX7_numberBehind)))))
theorem iX7_readDay_6 : ∀ w ∈ wsX60, w ∈ vX7_readDay := fun _ h => List.mem_cons_of_mem _ (List.mem_append_right _ (List.mem_append_left _ h))
theorem gs_X7_readDay : Gd vX7_readDay := Gd.cons (by decide +kernel) (Gd.app (Gd.r (by decide +kernel)) (Gd.app gwX_6 (Gd.app gs_X7_blame (Gd.app gs_X7_isWord (Gd.app gs_X7_pass gs_X7_numberBehind)))))
theorem gg_X7_readDay_X7_blame : GoodIn vX7_readDay (wsV RX7 67 RX7 yX7_blame vX7_blame) := goodIn_app (goodIn_r _ [2, 3, 4, 5] (by decide +kernel) (by decide +kernel)) (fun w h => ⟨List.mem_cons_of_mem _ (List.mem_append_right _ (List.mem_append_right _ (List.mem_append_left _ h))), gs_X7_blame w h⟩)
theorem gg_X7_readDay_X7_isWord : GoodIn vX7_readDay (wsV RX7 45 RX7 yX7_isWord vX7_isWord) := goodIn_app (goodIn_r _ [6, 7, 8, 5] (by decide +kernel) (by decide +kernel)) (fun w h => ⟨List.mem_cons_of_mem _ (List.mem_append_right _ (List.mem_append_right _ (List.mem_append_right _ (List.mem_append_left _ h)))), gs_X7_isWord w h⟩)
theorem gg_X7_readDay_X7_pass : GoodIn vX7_readDay (wsV RX7 71 RX7 yX7_pass vX7_pass) := goodIn_app (goodIn_r _ [9, 10, 11, 5] (by decide +kernel) (by decide +kernel)) (fun w h => ⟨List.mem_cons_of_mem _ (List.mem_append_right _ (List.mem_append_right _ (List.mem_append_right _ (List.mem_append_right _ (List.mem_append_left _ h))))), gs_X7_pass w h⟩)
theorem gg_X7_readDay_X7_numberBehind : GoodIn vX7_readDay (wsV RX7 82 RX7 yX7_numberBehind vX7_numberBehind) := goodIn_app (goodIn_r _ [12, 13, 14, 5] (by decide +kernel) (by decide +kernel)) (fun w h => ⟨List.mem_cons_of_mem _ (List.mem_append_right _ (List.mem_append_right _ (List.mem_append_right _ (List.mem_append_right _ (List.mem_append_right _ (h)))))), gs_X7_numberBehind w h⟩)
set_option maxHeartbeats 4000000 in
set_option maxRecDepth 100000 in
theorem s_X7_readDay (l : Launch) (D : va_G) (cs : Nat → ClassId) (ad : Nat → Nat) (kS : kSt) (K : sK) (hKO : KO K) (hj : wJ ad 218) (g : Nat → va_E) (hW : WF (shp ad K) ad cs g) : sV l yX7_readDay vX7_readDay { frames := 6, cells := 0, slots := 0, locals := 129 } D cs ad kS [.ref (ad 1), .ref (ad 23)] g (fun g2 => WF (shp ad K) ad cs g2 ∧ (∀ j, j ≠ 1 ∧ j ≠ 23 ∧ j ≠ 24 ∧ j ≠ 25 → g2 j = g j)) := by
  refine Met.startS (cc := cX7_readDay) (maxL := 4) (ret := none) RX7 rfl (by decide) rfl (Nat.le_of_ble_eq_true rfl) ?_
  intro p e s m below meth c ls X Z hP hl
  have hx := X.1
  have hb := X.2.1
  have hS : va_S (wA ad 218) s.heap s.heap [] := va_S.rf
  have hA : ∀ i, i < 218 → wA ad 218 (ad i) := fun i h => ⟨i, h, rfl⟩
  have hfr : ∀ j, j ≠ 1 ∧ j ≠ 23 ∧ j ≠ 24 ∧ j ≠ 25 → g j = g j := fun _ _ => rfl
  have hl : lv_has ls 4 [(0, .ref (ad 1)), (1, .ref (ad 23))] := hl
  refine lv_aload_n hx hb dX7_readDay_0 rfl (lv_at hl 1 rfl) ?_
  obtain ⟨fsc_1, hgc_1, hOc_1⟩ := hW.obj (i := 23) (by decide) (sh_23 ad K)
  obtain ⟨x_3, hk_2, hlx_3, hhx_3⟩ := hOc_1.int 3 rfl
  refine q_get X iX7_readDay_6 hP (by decide) hgc_1 rfl 3 (by decide) (List.mem_of_getElem? (i := 1) rfl) (v := .int x_3) hk_2 dX7_readDay_1 ?_
  refine lv_bipush (v := 14) hx hb dX7_readDay_4 (by decide) ?_
  refine lv_icmp_lt (tgt := 15) hx hb dX7_readDay_6 (by decide) (fun hc_4 => ?_) (fun hc_4 => ?_)
  · have hhc_4 := n_lt (rfl : x_3.toInt = x_3.toInt) (by decide : (14 : Int32).toInt = 14) hc_4
    refine lv_aload_n hx hb dX7_readDay_15 rfl (lv_at hl 0 rfl) ?_
    refine lv_aload_n hx hb dX7_readDay_16 rfl (lv_at hl 0 rfl) ?_
    refine va_ldcS hx hb X.2.2.2.2.2.1 (sq_7_43 Z) dX7_readDay_17 ?_
    obtain ⟨fsc_8, hgc_8, hOc_8⟩ := hW.obj (i := 1) (by decide) (sh_1 ad K)
    refine s_calli (q := (RX7, TX7, 7)) (As := [.ref (kS.1 4)]) (rest := [.ref (ad 1)]) X Z (s_X7_isWord l D cs ad kS K hKO hj g hW 4 (by omega)) (cwV 1 X.2.2.2.2.1 gg_X7_readDay_X7_isWord rfl rfl rfl (by decide +kernel) ⟨Nat.le_of_ble_eq_true rfl, Nat.le_of_ble_eq_true rfl⟩) (by decide) hgc_8 rfl hP hA hS.2.1 hS rfl hl.1 rfl (Nat.le_of_ble_eq_true rfl) dX7_readDay_19 ⟨Nat.le_of_ble_eq_true rfl, Nat.le_of_ble_eq_true rfl⟩ (fun r_7 g_6 H locs hw_5 hP hS => ?_)
    obtain ⟨hw_5g, hw_5⟩ := hw_5
    rw [hw_5g] at hP
    refine s_callv (q := (RX7, TX7, 7)) (As := [.int r_7]) (rest := []) X Z (s_X7_pass l D cs ad kS K hKO hj g hW r_7) (cwV 1 X.2.2.2.2.1 gg_X7_readDay_X7_pass rfl rfl rfl (by decide +kernel) ⟨Nat.le_of_ble_eq_true rfl, Nat.le_of_ble_eq_true rfl⟩) (by decide) hgc_8 rfl hP hA hS.2.1 hS rfl hl.1 rfl (Nat.le_of_ble_eq_true rfl) dX7_readDay_22 ⟨Nat.le_of_ble_eq_true rfl, Nat.le_of_ble_eq_true rfl⟩ (fun g_10 H locs hw_9 hP hS => ?_)
    obtain ⟨hw_9W, hw_9f⟩ := hw_9
    have hfr_12 : ∀ j, j ≠ 1 ∧ j ≠ 23 ∧ j ≠ 24 ∧ j ≠ 25 → g_10 j = g j := fun j hj => (hw_9f j (by omega)).trans (hfr j hj)
    have hg_13 := (hw_9f 23 (by omega)).trans hgc_1
    refine lv_aload_n hx hb dX7_readDay_25 rfl (lv_at hl 0 rfl) ?_
    refine va_ldcS hx hb X.2.2.2.2.2.1 (sq_7_101 Z) dX7_readDay_26 ?_
    obtain ⟨fsc_17, hgc_17, hOc_17⟩ := hw_9W.obj (i := 1) (by decide) (sh_1 ad K)
    refine s_calli (q := (RX7, TX7, 7)) (As := [.ref (kS.1 5)]) (rest := []) X Z (s_X7_isWord l D cs ad kS K hKO hj g_10 hw_9W 5 (by omega)) (cwV 1 X.2.2.2.2.1 gg_X7_readDay_X7_isWord rfl rfl rfl (by decide +kernel) ⟨Nat.le_of_ble_eq_true rfl, Nat.le_of_ble_eq_true rfl⟩) (by decide) hgc_17 rfl hP hA hS.2.1 hS rfl hl.1 rfl (Nat.le_of_ble_eq_true rfl) dX7_readDay_28 ⟨Nat.le_of_ble_eq_true rfl, Nat.le_of_ble_eq_true rfl⟩ (fun r_16 g_15 H locs hw_14 hP hS => ?_)
    obtain ⟨hw_14g, hw_14⟩ := hw_14
    rw [hw_14g] at hP
    refine lv_istore_n (lv' := [(2, .int r_16), (0, .ref (ad 1)), (1, .ref (ad 23))]) hx hb dX7_readDay_31 rfl hl (by decide) rfl (fun ls hl => ?_)
    refine lv_aload_n hx hb dX7_readDay_32 rfl (lv_at hl 1 rfl) ?_
    refine lv_iload_n hx hb dX7_readDay_33 rfl (lv_at hl 0 rfl) ?_
    refine lv_if_eq (tgt := 42) hx hb dX7_readDay_34 (by decide) (fun hc_18 => ?_) (fun hc_18 => ?_)
    · have hhc_18 := n_eq (rfl : r_16.toInt = r_16.toInt) (by decide : (0 : Int32).toInt = 0) hc_18
      refine va_ldcS hx hb X.2.2.2.2.2.1 (sq_7_103 Z) dX7_readDay_42 ?_
      refine lv_bipush (v := 9) hx hb dX7_readDay_44 (by decide) ?_
      refine s_calli (q := (RX7, TX7, 7)) (As := [.ref (kS.1 6), .int 9]) (rest := []) X Z (s_X7_numberBehind l D cs ad kS K hKO hj g_10 hw_9W 6 9 (by omega)) (cwV 2 X.2.2.2.2.1 gg_X7_readDay_X7_numberBehind rfl rfl rfl (by decide +kernel) ⟨Nat.le_of_ble_eq_true rfl, Nat.le_of_ble_eq_true rfl⟩) (by decide) hgc_17 rfl hP hA hS.2.1 hS rfl hl.1 rfl (Nat.le_of_ble_eq_true rfl) dX7_readDay_46 ⟨Nat.le_of_ble_eq_true rfl, Nat.le_of_ble_eq_true rfl⟩ (fun r_21 g_20 H locs hw_19 hP hS => ?_)
      obtain ⟨hw_19W, hw_19f, hw_19⟩ := hw_19
      have hfr_22 : ∀ j, j ≠ 1 ∧ j ≠ 23 ∧ j ≠ 24 ∧ j ≠ 25 → g_20 j = g j := fun j hj => (hw_19f j (by omega)).trans (hfr_12 j hj)
      have hg_23 := (hw_19f 23 (by omega)).trans hg_13
      have hqk_24 : (9 : Int32).toInt = 9 := by decide
      refine lv_istore_n (lv' := [(3, .int r_21), (2, .int r_16), (0, .ref (ad 1)), (1, .ref (ad 23))]) hx hb dX7_readDay_49 rfl hl (by decide) rfl (fun ls hl => ?_)
      refine lv_aload_n hx hb dX7_readDay_50 rfl (lv_at hl 3 rfl) ?_
      have hk_25 := hOc_1.ref 8 rfl
      refine q_get X iX7_readDay_6 hP (by decide) hg_23 rfl 8 (by decide) (List.mem_of_getElem? (i := 15) rfl) (v := .ref (ad 24)) hk_25 dX7_readDay_51 ?_
      refine lv_aload_n hx hb dX7_readDay_54 rfl (lv_at hl 3 rfl) ?_
      refine q_get X iX7_readDay_6 hP (by decide) hg_23 rfl 3 (by decide) (List.mem_of_getElem? (i := 1) rfl) (v := .int x_3) hk_2 dX7_readDay_55 ?_
      refine lv_iload_n hx hb dX7_readDay_58 rfl (lv_at hl 1 rfl) ?_
      refine lv_if_eq (tgt := 67) hx hb dX7_readDay_59 (by decide) (fun hc_26 => ?_) (fun hc_26 => by exfalso; have hhc_26 := n_ne (rfl : r_16.toInt = r_16.toInt) (by decide : (0 : Int32).toInt = 0) hc_26; omega)
      have hhc_26 := n_eq (rfl : r_16.toInt = r_16.toInt) (by decide : (0 : Int32).toInt = 0) hc_26
      refine lv_iload_n hx hb dX7_readDay_67 rfl (lv_at hl 0 rfl) ?_
      obtain ⟨fc_27, hgc_27, hFc_27⟩ := hw_19W.arr (i := 24) (by decide) (sh_24 ad K)
      refine s_iast X hP hj hA hS (by decide) hgc_27 (n_in (rfl : x_3.toInt = x_3.toInt) (by omega) (by omega)) dX7_readDay_68 hw_19W (sh_24 ad K) (hFc_27.put trivial) (fun fc_28 gc_28 H locs ec_28 hFc_28 hgc_28 hfc_28 hWc_28 hP hS => ?_)
      have hg_30 := (hfc_28 23 (by decide)).trans hg_23
      have hfr_29 : ∀ j, j ≠ 1 ∧ j ≠ 23 ∧ j ≠ 24 ∧ j ≠ 25 → gc_28 j = g j := fun j hj => (hfc_28 j (by omega)).trans (hfr_22 j hj)
      refine lv_aload_n hx hb dX7_readDay_69 rfl (lv_at hl 3 rfl) ?_
      have hk_31 := hOc_1.ref 9 rfl
      refine q_get X iX7_readDay_6 hP (by decide) hg_30 rfl 9 (by decide) (List.mem_of_getElem? (i := 16) rfl) (v := .ref (ad 25)) hk_31 dX7_readDay_70 ?_
      refine lv_aload_n hx hb dX7_readDay_73 rfl (lv_at hl 3 rfl) ?_
      refine q_get X iX7_readDay_6 hP (by decide) hg_30 rfl 3 (by decide) (List.mem_of_getElem? (i := 1) rfl) (v := .int x_3) hk_2 dX7_readDay_74 ?_
      refine lv_iload_n hx hb dX7_readDay_77 rfl (lv_at hl 1 rfl) ?_
      refine lv_if_ne (tgt := 85) hx hb dX7_readDay_78 (by decide) (fun hc_32 => by exfalso; have hhc_32 := n_ne (rfl : r_16.toInt = r_16.toInt) (by decide : (0 : Int32).toInt = 0) hc_32; omega) (fun hc_32 => ?_)
      have hhc_32 := n_eq (rfl : r_16.toInt = r_16.toInt) (by decide : (0 : Int32).toInt = 0) hc_32
      refine lv_iconst (v := 1) hx hb dX7_readDay_81 (by decide) ?_
      refine lv_goto (tgt := 86) hx hb dX7_readDay_82 (by decide) ?_
      obtain ⟨fc_33, hgc_33, hFc_33⟩ := hWc_28.arr (i := 25) (by decide) (sh_25 ad K)
      refine s_zast X hP hj hA hS (by decide) hgc_33 (n_in (rfl : x_3.toInt = x_3.toInt) (by omega) (by omega)) dX7_readDay_86 hWc_28 (sh_25 ad K) (hFc_33.put trivial) (fun fc_34 gc_34 H locs ec_34 hFc_34 hgc_34 hfc_34 hWc_34 hP hS => ?_)
      have hg_36 := (hfc_34 23 (by decide)).trans hg_30
      have hg_37 := (hfc_34 24 (by decide)).trans hgc_28
      have hfr_35 : ∀ j, j ≠ 1 ∧ j ≠ 23 ∧ j ≠ 24 ∧ j ≠ 25 → gc_34 j = g j := fun j hj => (hfc_34 j (by omega)).trans (hfr_29 j hj)
      refine lv_aload_n hx hb dX7_readDay_87 rfl (lv_at hl 3 rfl) ?_
      refine lv_dup hx hb dX7_readDay_88 rfl ?_
      refine q_get X iX7_readDay_6 hP (by decide) hg_36 rfl 3 (by decide) (List.mem_of_getElem? (i := 1) rfl) (v := .int x_3) hk_2 dX7_readDay_89 ?_
      refine lv_iconst (v := 1) hx hb dX7_readDay_92 (by decide) ?_
      refine lv_iadd hx hb dX7_readDay_93 ?_
      refine lv_topi (fun z_38 ez_38 => ?_)
      have hz_38 : z_38.toInt = x_3.toInt + 1 := n_add (rfl : x_3.toInt = x_3.toInt) (by decide : (1 : Int32).toInt = 1) ez_38 (by omega) (by omega)
      refine s_put X iX7_readDay_6 tyX6 tyX6_ok nmX6 hP hj hA hS (by decide) hg_36 rfl 3 (by decide) (List.mem_of_getElem? (i := 1) rfl) rfl (ty := .int) (v := .int z_38) (by decide +kernel) rfl rfl dX7_readDay_94 hWc_34 (sh_23 ad K) hOc_1 rfl ⟨z_38, rfl, by omega, by omega⟩ (fun fsc_39 gc_39 H locs hOc_39 hkc_39 hnc_39 hgc_39 hfc_39 hWc_39 hP hS => ?_)
      have hk_40 := (hnc_39 8 (by decide)).trans hk_25
      have hk_41 := (hnc_39 9 (by decide)).trans hk_31
      have hg_43 := (hfc_39 24 (by decide)).trans hg_37
      have hg_44 := (hfc_39 25 (by decide)).trans hgc_34
      have hfr_42 : ∀ j, j ≠ 1 ∧ j ≠ 23 ∧ j ≠ 24 ∧ j ≠ 25 → gc_39 j = g j := fun j hj => (hfc_39 j (by omega)).trans (hfr_35 j hj)
      exact q_vret X hP hS ⟨hWc_39, hfr_42⟩ dX7_readDay_97
    · have hhc_18 := n_ne (rfl : r_16.toInt = r_16.toInt) (by decide : (0 : Int32).toInt = 0) hc_18
      refine va_ldcS hx hb X.2.2.2.2.2.1 (sq_7_101 Z) dX7_readDay_37 ?_
      refine lv_goto (tgt := 44) hx hb dX7_readDay_39 (by decide) ?_
      refine lv_bipush (v := 9) hx hb dX7_readDay_44 (by decide) ?_
      refine s_calli (q := (RX7, TX7, 7)) (As := [.ref (kS.1 5), .int 9]) (rest := []) X Z (s_X7_numberBehind l D cs ad kS K hKO hj g_10 hw_9W 5 9 (by omega)) (cwV 2 X.2.2.2.2.1 gg_X7_readDay_X7_numberBehind rfl rfl rfl (by decide +kernel) ⟨Nat.le_of_ble_eq_true rfl, Nat.le_of_ble_eq_true rfl⟩) (by decide) hgc_17 rfl hP hA hS.2.1 hS rfl hl.1 rfl (Nat.le_of_ble_eq_true rfl) dX7_readDay_46 ⟨Nat.le_of_ble_eq_true rfl, Nat.le_of_ble_eq_true rfl⟩ (fun r_47 g_46 H locs hw_45 hP hS => ?_)
      obtain ⟨hw_45W, hw_45f, hw_45⟩ := hw_45
      have hfr_48 : ∀ j, j ≠ 1 ∧ j ≠ 23 ∧ j ≠ 24 ∧ j ≠ 25 → g_46 j = g j := fun j hj => (hw_45f j (by omega)).trans (hfr_12 j hj)
      have hg_49 := (hw_45f 23 (by omega)).trans hg_13
      have hqk_50 : (9 : Int32).toInt = 9 := by decide
      refine lv_istore_n (lv' := [(3, .int r_47), (2, .int r_16), (0, .ref (ad 1)), (1, .ref (ad 23))]) hx hb dX7_readDay_49 rfl hl (by decide) rfl (fun ls hl => ?_)
      refine lv_aload_n hx hb dX7_readDay_50 rfl (lv_at hl 3 rfl) ?_
      have hk_51 := hOc_1.ref 8 rfl
      refine q_get X iX7_readDay_6 hP (by decide) hg_49 rfl 8 (by decide) (List.mem_of_getElem? (i := 15) rfl) (v := .ref (ad 24)) hk_51 dX7_readDay_51 ?_
      refine lv_aload_n hx hb dX7_readDay_54 rfl (lv_at hl 3 rfl) ?_
      refine q_get X iX7_readDay_6 hP (by decide) hg_49 rfl 3 (by decide) (List.mem_of_getElem? (i := 1) rfl) (v := .int x_3) hk_2 dX7_readDay_55 ?_
      refine lv_iload_n hx hb dX7_readDay_58 rfl (lv_at hl 1 rfl) ?_
      refine lv_if_eq (tgt := 67) hx hb dX7_readDay_59 (by decide) (fun hc_52 => by exfalso; have hhc_52 := n_eq (rfl : r_16.toInt = r_16.toInt) (by decide : (0 : Int32).toInt = 0) hc_52; omega) (fun hc_52 => ?_)
      have hhc_52 := n_ne (rfl : r_16.toInt = r_16.toInt) (by decide : (0 : Int32).toInt = 0) hc_52
      refine lv_iload_n hx hb dX7_readDay_62 rfl (lv_at hl 0 rfl) ?_
      refine lv_ineg hx hb dX7_readDay_63 ?_
      refine lv_topi (fun z_53 ez_53 => ?_)
      have hz_53 : z_53.toInt = -r_47.toInt := n_neg (rfl : r_47.toInt = r_47.toInt) ez_53 (by omega)
      refine lv_goto (tgt := 68) hx hb dX7_readDay_64 (by decide) ?_
      obtain ⟨fc_54, hgc_54, hFc_54⟩ := hw_45W.arr (i := 24) (by decide) (sh_24 ad K)
      refine s_iast X hP hj hA hS (by decide) hgc_54 (n_in (rfl : x_3.toInt = x_3.toInt) (by omega) (by omega)) dX7_readDay_68 hw_45W (sh_24 ad K) (hFc_54.put trivial) (fun fc_55 gc_55 H locs ec_55 hFc_55 hgc_55 hfc_55 hWc_55 hP hS => ?_)
      have hg_57 := (hfc_55 23 (by decide)).trans hg_49
      have hfr_56 : ∀ j, j ≠ 1 ∧ j ≠ 23 ∧ j ≠ 24 ∧ j ≠ 25 → gc_55 j = g j := fun j hj => (hfc_55 j (by omega)).trans (hfr_48 j hj)
      refine lv_aload_n hx hb dX7_readDay_69 rfl (lv_at hl 3 rfl) ?_
      have hk_58 := hOc_1.ref 9 rfl
      refine q_get X iX7_readDay_6 hP (by decide) hg_57 rfl 9 (by decide) (List.mem_of_getElem? (i := 16) rfl) (v := .ref (ad 25)) hk_58 dX7_readDay_70 ?_
      refine lv_aload_n hx hb dX7_readDay_73 rfl (lv_at hl 3 rfl) ?_
      refine q_get X iX7_readDay_6 hP (by decide) hg_57 rfl 3 (by decide) (List.mem_of_getElem? (i := 1) rfl) (v := .int x_3) hk_2 dX7_readDay_74 ?_
      refine lv_iload_n hx hb dX7_readDay_77 rfl (lv_at hl 1 rfl) ?_
      refine lv_if_ne (tgt := 85) hx hb dX7_readDay_78 (by decide) (fun hc_59 => ?_) (fun hc_59 => by exfalso; have hhc_59 := n_eq (rfl : r_16.toInt = r_16.toInt) (by decide : (0 : Int32).toInt = 0) hc_59; omega)
      have hhc_59 := n_ne (rfl : r_16.toInt = r_16.toInt) (by decide : (0 : Int32).toInt = 0) hc_59
      refine lv_iconst (v := 0) hx hb dX7_readDay_85 (by decide) ?_
      obtain ⟨fc_60, hgc_60, hFc_60⟩ := hWc_55.arr (i := 25) (by decide) (sh_25 ad K)
      refine s_zast X hP hj hA hS (by decide) hgc_60 (n_in (rfl : x_3.toInt = x_3.toInt) (by omega) (by omega)) dX7_readDay_86 hWc_55 (sh_25 ad K) (hFc_60.put trivial) (fun fc_61 gc_61 H locs ec_61 hFc_61 hgc_61 hfc_61 hWc_61 hP hS => ?_)
      have hg_63 := (hfc_61 23 (by decide)).trans hg_57
      have hg_64 := (hfc_61 24 (by decide)).trans hgc_55
      have hfr_62 : ∀ j, j ≠ 1 ∧ j ≠ 23 ∧ j ≠ 24 ∧ j ≠ 25 → gc_61 j = g j := fun j hj => (hfc_61 j (by omega)).trans (hfr_56 j hj)
      refine lv_aload_n hx hb dX7_readDay_87 rfl (lv_at hl 3 rfl) ?_
      refine lv_dup hx hb dX7_readDay_88 rfl ?_
      refine q_get X iX7_readDay_6 hP (by decide) hg_63 rfl 3 (by decide) (List.mem_of_getElem? (i := 1) rfl) (v := .int x_3) hk_2 dX7_readDay_89 ?_
      refine lv_iconst (v := 1) hx hb dX7_readDay_92 (by decide) ?_
      refine lv_iadd hx hb dX7_readDay_93 ?_
      refine lv_topi (fun z_65 ez_65 => ?_)
      have hz_65 : z_65.toInt = x_3.toInt + 1 := n_add (rfl : x_3.toInt = x_3.toInt) (by decide : (1 : Int32).toInt = 1) ez_65 (by omega) (by omega)
      refine s_put X iX7_readDay_6 tyX6 tyX6_ok nmX6 hP hj hA hS (by decide) hg_63 rfl 3 (by decide) (List.mem_of_getElem? (i := 1) rfl) rfl (ty := .int) (v := .int z_65) (by decide +kernel) rfl rfl dX7_readDay_94 hWc_61 (sh_23 ad K) hOc_1 rfl ⟨z_65, rfl, by omega, by omega⟩ (fun fsc_66 gc_66 H locs hOc_66 hkc_66 hnc_66 hgc_66 hfc_66 hWc_66 hP hS => ?_)
      have hk_67 := (hnc_66 8 (by decide)).trans hk_51
      have hk_68 := (hnc_66 9 (by decide)).trans hk_58
      have hg_70 := (hfc_66 24 (by decide)).trans hg_64
      have hg_71 := (hfc_66 25 (by decide)).trans hgc_61
      have hfr_69 : ∀ j, j ≠ 1 ∧ j ≠ 23 ∧ j ≠ 24 ∧ j ≠ 25 → gc_66 j = g j := fun j hj => (hfc_66 j (by omega)).trans (hfr_62 j hj)
      exact q_vret X hP hS ⟨hWc_66, hfr_69⟩ dX7_readDay_97
  · have hhc_4 := n_nlt (rfl : x_3.toInt = x_3.toInt) (by decide : (14 : Int32).toInt = 14) hc_4
    refine lv_aload_n hx hb dX7_readDay_9 rfl (lv_at hl 0 rfl) ?_
    refine lv_iconst (v := 3) hx hb dX7_readDay_10 (by decide) ?_
    obtain ⟨fsc_75, hgc_75, hOc_75⟩ := hW.obj (i := 1) (by decide) (sh_1 ad K)
    refine s_callv (q := (RX7, TX7, 7)) (As := [.int 3]) (rest := []) X Z (s_X7_blame l D cs ad kS K hKO hj g hW 3) (cwV 1 X.2.2.2.2.1 gg_X7_readDay_X7_blame rfl rfl rfl (by decide +kernel) ⟨Nat.le_of_ble_eq_true rfl, Nat.le_of_ble_eq_true rfl⟩) (by decide) hgc_75 rfl hP hA hS.2.1 hS rfl hl.1 rfl (Nat.le_of_ble_eq_true rfl) dX7_readDay_11 ⟨Nat.le_of_ble_eq_true rfl, Nat.le_of_ble_eq_true rfl⟩ (fun g_73 H locs hw_72 hP hS => ?_)
    obtain ⟨hw_72W, hw_72f⟩ := hw_72
    have hfr_76 : ∀ j, j ≠ 1 ∧ j ≠ 23 ∧ j ≠ 24 ∧ j ≠ 25 → g_73 j = g j := fun j hj => (hw_72f j (by omega)).trans (hfr j hj)
    have hg_77 := (hw_72f 23 (by omega)).trans hgc_1
    exact q_vret X hP hS ⟨hw_72W, hfr_76⟩ dX7_readDay_14

theorem dX7_readEave_0 : decode cX7_readEave 0 = .ok (.aload_n 1, 1) := by decide +kernel
theorem dX7_readEave_1 : decode cX7_readEave 1 = .ok (.getfield 112, 3) := by decide +kernel
theorem dX7_readEave_4 : decode cX7_readEave 4 = .ok (.iconst 5, 1) := by decide +kernel
theorem dX7_readEave_5 : decode cX7_readEave 5 = .ok (.if_icmp .lt 9, 3) := by decide +kernel
theorem dX7_readEave_8 : decode cX7_readEave 8 = .ok (.aload_n 0, 1) := by decide +kernel
theorem dX7_readEave_9 : decode cX7_readEave 9 = .ok (.iconst 3, 1) := by decide +kernel
theorem dX7_readEave_10 : decode cX7_readEave 10 = .ok (.invokevirtual 67, 3) := by decide +kernel
theorem dX7_readEave_13 : decode cX7_readEave 13 = .ok (.return_, 1) := by decide +kernel
theorem dX7_readEave_14 : decode cX7_readEave 14 = .ok (.aload_n 0, 1) := by decide +kernel
theorem dX7_readEave_15 : decode cX7_readEave 15 = .ok (.aload_n 0, 1) := by decide +kernel
theorem dX7_readEave_16 : decode cX7_readEave 16 = .ok (.ldc 52, 2) := by decide +kernel
theorem dX7_readEave_18 : decode cX7_readEave 18 = .ok (.invokevirtual 45, 3) := by decide +kernel
theorem dX7_readEave_21 : decode cX7_readEave 21 = .ok (.invokevirtual 71, 3) := by decide +kernel
theorem dX7_readEave_24 : decode cX7_readEave 24 = .ok (.aload_n 1, 1) := by decide +kernel
theorem dX7_readEave_25 : decode cX7_readEave 25 = .ok (.getfield 115, 3) := by decide +kernel
theorem dX7_readEave_28 : decode cX7_readEave 28 = .ok (.aload_n 1, 1) := by decide +kernel
theorem dX7_readEave_29 : decode cX7_readEave 29 = .ok (.getfield 112, 3) := by decide +kernel
theorem dX7_readEave_32 : decode cX7_readEave 32 = .ok (.aload_n 0, 1) := by decide +kernel
theorem dX7_readEave_33 : decode cX7_readEave 33 = .ok (.ldc 118, 2) := by decide +kernel
theorem dX7_readEave_35 : decode cX7_readEave 35 = .ok (.iconst 4, 1) := by decide +kernel
theorem dX7_readEave_36 : decode cX7_readEave 36 = .ok (.invokevirtual 82, 3) := by decide +kernel
theorem dX7_readEave_39 : decode cX7_readEave 39 = .ok (.iastore, 1) := by decide +kernel
theorem dX7_readEave_40 : decode cX7_readEave 40 = .ok (.aload_n 1, 1) := by decide +kernel
theorem dX7_readEave_41 : decode cX7_readEave 41 = .ok (.dup, 1) := by decide +kernel
theorem dX7_readEave_42 : decode cX7_readEave 42 = .ok (.getfield 112, 3) := by decide +kernel
theorem dX7_readEave_45 : decode cX7_readEave 45 = .ok (.iconst 1, 1) := by decide +kernel
theorem dX7_readEave_46 : decode cX7_readEave 46 = .ok (.iadd, 1) := by decide +kernel
theorem dX7_readEave_47 : decode cX7_readEave 47 = .ok (.putfield 112, 3) := by decide +kernel
theorem dX7_readEave_50 : decode cX7_readEave 50 = .ok (.return_, 1) := by decide +kernel
noncomputable def vX7_readEave : List Cond := .code yX7_readEave cX7_readEave 2 none :: (([.fieldLink RX7 112 "IcicleClock$Street" "eaves" "I", .methodLink RX7 67 yX7_blame, .instanceMethod yX7_blame, .selects RX7 yX7_blame yX7_blame, .initialized RX7, .methodLink RX7 45 yX7_isWord, .instanceMethod yX7_isWord, .selects RX7 yX7_isWord yX7_isWord, .methodLink RX7 71 yX7_pass, .instanceMethod yX7_pass, .selects RX7 yX7_pass yX7_pass, .fieldLink RX7 115 "IcicleClock$Street" "sun" "[I", .methodLink RX7 82 yX7_numberBehind, .instanceMethod yX7_numberBehind, .selects RX7 yX7_numberBehind yX7_numberBehind] : List Cond) ++ (wsX60 ++ (vX7_blame ++ (vX7_isWord ++ (vX7_pass ++ vX7_numberBehind)))))
theorem iX7_readEave_6 : ∀ w ∈ wsX60, w ∈ vX7_readEave := fun _ h => List.mem_cons_of_mem _ (List.mem_append_right _ (List.mem_append_left _ h))
theorem gs_X7_readEave : Gd vX7_readEave := Gd.cons (by decide +kernel) (Gd.app (Gd.r (by decide +kernel)) (Gd.app gwX_6 (Gd.app gs_X7_blame (Gd.app gs_X7_isWord (Gd.app gs_X7_pass gs_X7_numberBehind)))))
theorem gg_X7_readEave_X7_blame : GoodIn vX7_readEave (wsV RX7 67 RX7 yX7_blame vX7_blame) := goodIn_app (goodIn_r _ [2, 3, 4, 5] (by decide +kernel) (by decide +kernel)) (fun w h => ⟨List.mem_cons_of_mem _ (List.mem_append_right _ (List.mem_append_right _ (List.mem_append_left _ h))), gs_X7_blame w h⟩)
theorem gg_X7_readEave_X7_isWord : GoodIn vX7_readEave (wsV RX7 45 RX7 yX7_isWord vX7_isWord) := goodIn_app (goodIn_r _ [6, 7, 8, 5] (by decide +kernel) (by decide +kernel)) (fun w h => ⟨List.mem_cons_of_mem _ (List.mem_append_right _ (List.mem_append_right _ (List.mem_append_right _ (List.mem_append_left _ h)))), gs_X7_isWord w h⟩)
theorem gg_X7_readEave_X7_pass : GoodIn vX7_readEave (wsV RX7 71 RX7 yX7_pass vX7_pass) := goodIn_app (goodIn_r _ [9, 10, 11, 5] (by decide +kernel) (by decide +kernel)) (fun w h => ⟨List.mem_cons_of_mem _ (List.mem_append_right _ (List.mem_append_right _ (List.mem_append_right _ (List.mem_append_right _ (List.mem_append_left _ h))))), gs_X7_pass w h⟩)
theorem gg_X7_readEave_X7_numberBehind : GoodIn vX7_readEave (wsV RX7 82 RX7 yX7_numberBehind vX7_numberBehind) := goodIn_app (goodIn_r _ [13, 14, 15, 5] (by decide +kernel) (by decide +kernel)) (fun w h => ⟨List.mem_cons_of_mem _ (List.mem_append_right _ (List.mem_append_right _ (List.mem_append_right _ (List.mem_append_right _ (List.mem_append_right _ (h)))))), gs_X7_numberBehind w h⟩)
set_option maxHeartbeats 4000000 in
set_option maxRecDepth 100000 in
theorem s_X7_readEave (l : Launch) (D : va_G) (cs : Nat → ClassId) (ad : Nat → Nat) (kS : kSt) (K : sK) (hKO : KO K) (hj : wJ ad 218) (g : Nat → va_E) (hW : WF (shp ad K) ad cs g) : sV l yX7_readEave vX7_readEave { frames := 6, cells := 0, slots := 0, locals := 129 } D cs ad kS [.ref (ad 1), .ref (ad 23)] g (fun g2 => WF (shp ad K) ad cs g2 ∧ (∀ j, j ≠ 1 ∧ j ≠ 23 ∧ j ≠ 26 → g2 j = g j)) := by
  refine Met.startS (cc := cX7_readEave) (maxL := 2) (ret := none) RX7 rfl (by decide) rfl (Nat.le_of_ble_eq_true rfl) ?_
  intro p e s m below meth c ls X Z hP hl
  have hx := X.1
  have hb := X.2.1
  have hS : va_S (wA ad 218) s.heap s.heap [] := va_S.rf
  have hA : ∀ i, i < 218 → wA ad 218 (ad i) := fun i h => ⟨i, h, rfl⟩
  have hfr : ∀ j, j ≠ 1 ∧ j ≠ 23 ∧ j ≠ 26 → g j = g j := fun _ _ => rfl
  have hl : lv_has ls 2 [(0, .ref (ad 1)), (1, .ref (ad 23))] := hl
  refine lv_aload_n hx hb dX7_readEave_0 rfl (lv_at hl 1 rfl) ?_
  obtain ⟨fsc_1, hgc_1, hOc_1⟩ := hW.obj (i := 23) (by decide) (sh_23 ad K)
  obtain ⟨x_3, hk_2, hlx_3, hhx_3⟩ := hOc_1.int 4 rfl
  refine q_get X iX7_readEave_6 hP (by decide) hgc_1 rfl 4 (by decide) (List.mem_of_getElem? (i := 1) rfl) (v := .int x_3) hk_2 dX7_readEave_1 ?_
  refine lv_iconst (v := 5) hx hb dX7_readEave_4 (by decide) ?_
  refine lv_icmp_lt (tgt := 14) hx hb dX7_readEave_5 (by decide) (fun hc_4 => ?_) (fun hc_4 => ?_)
  · have hhc_4 := n_lt (rfl : x_3.toInt = x_3.toInt) (by decide : (5 : Int32).toInt = 5) hc_4
    refine lv_aload_n hx hb dX7_readEave_14 rfl (lv_at hl 0 rfl) ?_
    refine lv_aload_n hx hb dX7_readEave_15 rfl (lv_at hl 0 rfl) ?_
    refine va_ldcS hx hb X.2.2.2.2.2.1 (sq_7_52 Z) dX7_readEave_16 ?_
    obtain ⟨fsc_8, hgc_8, hOc_8⟩ := hW.obj (i := 1) (by decide) (sh_1 ad K)
    refine s_calli (q := (RX7, TX7, 7)) (As := [.ref (kS.1 7)]) (rest := [.ref (ad 1)]) X Z (s_X7_isWord l D cs ad kS K hKO hj g hW 7 (by omega)) (cwV 1 X.2.2.2.2.1 gg_X7_readEave_X7_isWord rfl rfl rfl (by decide +kernel) ⟨Nat.le_of_ble_eq_true rfl, Nat.le_of_ble_eq_true rfl⟩) (by decide) hgc_8 rfl hP hA hS.2.1 hS rfl hl.1 rfl (Nat.le_of_ble_eq_true rfl) dX7_readEave_18 ⟨Nat.le_of_ble_eq_true rfl, Nat.le_of_ble_eq_true rfl⟩ (fun r_7 g_6 H locs hw_5 hP hS => ?_)
    obtain ⟨hw_5g, hw_5⟩ := hw_5
    rw [hw_5g] at hP
    refine s_callv (q := (RX7, TX7, 7)) (As := [.int r_7]) (rest := []) X Z (s_X7_pass l D cs ad kS K hKO hj g hW r_7) (cwV 1 X.2.2.2.2.1 gg_X7_readEave_X7_pass rfl rfl rfl (by decide +kernel) ⟨Nat.le_of_ble_eq_true rfl, Nat.le_of_ble_eq_true rfl⟩) (by decide) hgc_8 rfl hP hA hS.2.1 hS rfl hl.1 rfl (Nat.le_of_ble_eq_true rfl) dX7_readEave_21 ⟨Nat.le_of_ble_eq_true rfl, Nat.le_of_ble_eq_true rfl⟩ (fun g_10 H locs hw_9 hP hS => ?_)
    obtain ⟨hw_9W, hw_9f⟩ := hw_9
    have hfr_12 : ∀ j, j ≠ 1 ∧ j ≠ 23 ∧ j ≠ 26 → g_10 j = g j := fun j hj => (hw_9f j (by omega)).trans (hfr j hj)
    have hg_13 := (hw_9f 23 (by omega)).trans hgc_1
    refine lv_aload_n hx hb dX7_readEave_24 rfl (lv_at hl 1 rfl) ?_
    have hk_14 := hOc_1.ref 10 rfl
    refine q_get X iX7_readEave_6 hP (by decide) hg_13 rfl 10 (by decide) (List.mem_of_getElem? (i := 12) rfl) (v := .ref (ad 26)) hk_14 dX7_readEave_25 ?_
    refine lv_aload_n hx hb dX7_readEave_28 rfl (lv_at hl 1 rfl) ?_
    refine q_get X iX7_readEave_6 hP (by decide) hg_13 rfl 4 (by decide) (List.mem_of_getElem? (i := 1) rfl) (v := .int x_3) hk_2 dX7_readEave_29 ?_
    refine lv_aload_n hx hb dX7_readEave_32 rfl (lv_at hl 0 rfl) ?_
    refine va_ldcS hx hb X.2.2.2.2.2.1 (sq_7_118 Z) dX7_readEave_33 ?_
    refine lv_iconst (v := 4) hx hb dX7_readEave_35 (by decide) ?_
    obtain ⟨fsc_18, hgc_18, hOc_18⟩ := hw_9W.obj (i := 1) (by decide) (sh_1 ad K)
    refine s_calli (q := (RX7, TX7, 7)) (As := [.ref (kS.1 8), .int 4]) (rest := [.int x_3, .ref (ad 26)]) X Z (s_X7_numberBehind l D cs ad kS K hKO hj g_10 hw_9W 8 4 (by omega)) (cwV 2 X.2.2.2.2.1 gg_X7_readEave_X7_numberBehind rfl rfl rfl (by decide +kernel) ⟨Nat.le_of_ble_eq_true rfl, Nat.le_of_ble_eq_true rfl⟩) (by decide) hgc_18 rfl hP hA hS.2.1 hS rfl hl.1 rfl (Nat.le_of_ble_eq_true rfl) dX7_readEave_36 ⟨Nat.le_of_ble_eq_true rfl, Nat.le_of_ble_eq_true rfl⟩ (fun r_17 g_16 H locs hw_15 hP hS => ?_)
    obtain ⟨hw_15W, hw_15f, hw_15⟩ := hw_15
    have hfr_19 : ∀ j, j ≠ 1 ∧ j ≠ 23 ∧ j ≠ 26 → g_16 j = g j := fun j hj => (hw_15f j (by omega)).trans (hfr_12 j hj)
    have hg_20 := (hw_15f 23 (by omega)).trans hg_13
    have hqk_21 : (4 : Int32).toInt = 4 := by decide
    obtain ⟨fc_22, hgc_22, hFc_22⟩ := hw_15W.arr (i := 26) (by decide) (sh_26 ad K)
    refine s_iast X hP hj hA hS (by decide) hgc_22 (n_in (rfl : x_3.toInt = x_3.toInt) (by omega) (by omega)) dX7_readEave_39 hw_15W (sh_26 ad K) (hFc_22.put trivial) (fun fc_23 gc_23 H locs ec_23 hFc_23 hgc_23 hfc_23 hWc_23 hP hS => ?_)
    have hg_25 := (hfc_23 23 (by decide)).trans hg_20
    have hfr_24 : ∀ j, j ≠ 1 ∧ j ≠ 23 ∧ j ≠ 26 → gc_23 j = g j := fun j hj => (hfc_23 j (by omega)).trans (hfr_19 j hj)
    refine lv_aload_n hx hb dX7_readEave_40 rfl (lv_at hl 1 rfl) ?_
    refine lv_dup hx hb dX7_readEave_41 rfl ?_
    refine q_get X iX7_readEave_6 hP (by decide) hg_25 rfl 4 (by decide) (List.mem_of_getElem? (i := 1) rfl) (v := .int x_3) hk_2 dX7_readEave_42 ?_
    refine lv_iconst (v := 1) hx hb dX7_readEave_45 (by decide) ?_
    refine lv_iadd hx hb dX7_readEave_46 ?_
    refine lv_topi (fun z_26 ez_26 => ?_)
    have hz_26 : z_26.toInt = x_3.toInt + 1 := n_add (rfl : x_3.toInt = x_3.toInt) (by decide : (1 : Int32).toInt = 1) ez_26 (by omega) (by omega)
    refine s_put X iX7_readEave_6 tyX6 tyX6_ok nmX6 hP hj hA hS (by decide) hg_25 rfl 4 (by decide) (List.mem_of_getElem? (i := 1) rfl) rfl (ty := .int) (v := .int z_26) (by decide +kernel) rfl rfl dX7_readEave_47 hWc_23 (sh_23 ad K) hOc_1 rfl ⟨z_26, rfl, by omega, by omega⟩ (fun fsc_27 gc_27 H locs hOc_27 hkc_27 hnc_27 hgc_27 hfc_27 hWc_27 hP hS => ?_)
    have hk_28 := (hnc_27 10 (by decide)).trans hk_14
    have hg_30 := (hfc_27 26 (by decide)).trans hgc_23
    have hfr_29 : ∀ j, j ≠ 1 ∧ j ≠ 23 ∧ j ≠ 26 → gc_27 j = g j := fun j hj => (hfc_27 j (by omega)).trans (hfr_24 j hj)
    exact q_vret X hP hS ⟨hWc_27, hfr_29⟩ dX7_readEave_50
  · have hhc_4 := n_nlt (rfl : x_3.toInt = x_3.toInt) (by decide : (5 : Int32).toInt = 5) hc_4
    refine lv_aload_n hx hb dX7_readEave_8 rfl (lv_at hl 0 rfl) ?_
    refine lv_iconst (v := 3) hx hb dX7_readEave_9 (by decide) ?_
    obtain ⟨fsc_34, hgc_34, hOc_34⟩ := hW.obj (i := 1) (by decide) (sh_1 ad K)
    refine s_callv (q := (RX7, TX7, 7)) (As := [.int 3]) (rest := []) X Z (s_X7_blame l D cs ad kS K hKO hj g hW 3) (cwV 1 X.2.2.2.2.1 gg_X7_readEave_X7_blame rfl rfl rfl (by decide +kernel) ⟨Nat.le_of_ble_eq_true rfl, Nat.le_of_ble_eq_true rfl⟩) (by decide) hgc_34 rfl hP hA hS.2.1 hS rfl hl.1 rfl (Nat.le_of_ble_eq_true rfl) dX7_readEave_10 ⟨Nat.le_of_ble_eq_true rfl, Nat.le_of_ble_eq_true rfl⟩ (fun g_32 H locs hw_31 hP hS => ?_)
    obtain ⟨hw_31W, hw_31f⟩ := hw_31
    have hfr_35 : ∀ j, j ≠ 1 ∧ j ≠ 23 ∧ j ≠ 26 → g_32 j = g j := fun j hj => (hw_31f j (by omega)).trans (hfr j hj)
    have hg_36 := (hw_31f 23 (by omega)).trans hgc_1
    exact q_vret X hP hS ⟨hw_31W, hfr_35⟩ dX7_readEave_13

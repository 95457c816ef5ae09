theorem dX7_readFirst_0 : decode cX7_readFirst 0 = .ok (.aload_n 0, 1) := by decide +kernel
theorem dX7_readFirst_1 : decode cX7_readFirst 1 = .ok (.aload_n 0, 1) := by decide +kernel
theorem dX7_readFirst_2 : decode cX7_readFirst 2 = .ok (.ldc 78, 2) := by decide +kernel
theorem dX7_readFirst_4 : decode cX7_readFirst 4 = .ok (.invokevirtual 45, 3) := by decide +kernel
theorem dX7_readFirst_7 : decode cX7_readFirst 7 = .ok (.invokevirtual 71, 3) := by decide +kernel
theorem dX7_readFirst_10 : decode cX7_readFirst 10 = .ok (.aload_n 1, 1) := by decide +kernel
theorem dX7_readFirst_11 : decode cX7_readFirst 11 = .ok (.aload_n 0, 1) := by decide +kernel
theorem dX7_readFirst_12 : decode cX7_readFirst 12 = .ok (.ldc 80, 2) := by decide +kernel
theorem dX7_readFirst_14 : decode cX7_readFirst 14 = .ok (.bipush 20, 2) := by decide +kernel
theorem dX7_readFirst_16 : decode cX7_readFirst 16 = .ok (.invokevirtual 82, 3) := by decide +kernel
theorem dX7_readFirst_19 : decode cX7_readFirst 19 = .ok (.putfield 86, 3) := by decide +kernel
theorem dX7_readFirst_22 : decode cX7_readFirst 22 = .ok (.aload_n 1, 1) := by decide +kernel
theorem dX7_readFirst_23 : decode cX7_readFirst 23 = .ok (.aload_n 0, 1) := by decide +kernel
theorem dX7_readFirst_24 : decode cX7_readFirst 24 = .ok (.ldc 89, 2) := by decide +kernel
theorem dX7_readFirst_26 : decode cX7_readFirst 26 = .ok (.bipush 20, 2) := by decide +kernel
theorem dX7_readFirst_28 : decode cX7_readFirst 28 = .ok (.invokevirtual 82, 3) := by decide +kernel
theorem dX7_readFirst_31 : decode cX7_readFirst 31 = .ok (.putfield 91, 3) := by decide +kernel
theorem dX7_readFirst_34 : decode cX7_readFirst 34 = .ok (.aload_n 1, 1) := by decide +kernel
theorem dX7_readFirst_35 : decode cX7_readFirst 35 = .ok (.aload_n 0, 1) := by decide +kernel
theorem dX7_readFirst_36 : decode cX7_readFirst 36 = .ok (.ldc 94, 2) := by decide +kernel
theorem dX7_readFirst_38 : decode cX7_readFirst 38 = .ok (.bipush 10, 2) := by decide +kernel
theorem dX7_readFirst_40 : decode cX7_readFirst 40 = .ok (.invokevirtual 82, 3) := by decide +kernel
theorem dX7_readFirst_43 : decode cX7_readFirst 43 = .ok (.putfield 96, 3) := by decide +kernel
theorem dX7_readFirst_46 : decode cX7_readFirst 46 = .ok (.return_, 1) := by decide +kernel
def vX7_readFirst : List Cond := .code yX7_readFirst cX7_readFirst 2 none :: ([.methodLink RX7 45 yX7_isWord, .instanceMethod yX7_isWord, .selects RX7 yX7_isWord yX7_isWord, .initialized RX7, .code yX7_isWord cX7_isWord 3 (some .boolean), .fieldLink RX7 36 "IcicleClock$Tape" "kind" "I", .fieldLink RX7 30 "IcicleClock$Tape" "stop" "I", .fieldLink RX7 159 "IcicleClock$Tape" "start" "I", .methodLink RX7 167 yJ0_length_8abf5, .instanceMethod yJ0_length_8abf5, .selects RJ0 yJ0_length_8abf5 yJ0_length_8abf5, .initialized RJ0, .code yJ0_length_8abf5 cJ0_length_8abf5 1 (some .int), .fieldLink RJ0 9 "java/lang/String" "value" "[B", .methodLink RJ0 335 yJ0_coder_7d493, .instanceMethod yJ0_coder_7d493, .selects RJ0 yJ0_coder_7d493 yJ0_coder_7d493, .code yJ0_coder_7d493 cJ0_coder_7d493 1 (some .byte), .fieldLink RJ0 38 "java/lang/String" "COMPACT_STRINGS" "Z", .fieldLink RJ0 15 "java/lang/String" "coder" "B", .fieldLink RX7 9 "IcicleClock$Tape" "bytes" "[B", .methodLink RX7 171 yJ0_charAt_5068e, .instanceMethod yJ0_charAt_5068e, .selects RJ0 yJ0_charAt_5068e yJ0_charAt_5068e, .code yJ0_charAt_5068e cJ0_charAt_5068e 2 (some .char), .methodLink RJ0 492 yJ0_isLatin1_aae02, .instanceMethod yJ0_isLatin1_aae02, .selects RJ0 yJ0_isLatin1_aae02 yJ0_isLatin1_aae02, .code yJ0_isLatin1_aae02 cJ0_isLatin1_aae02 1 (some .boolean), .methodLink RJ0 495 yJ1_charAt_3b067, .static yJ1_charAt_3b067, .initialized RJ1, .code yJ1_charAt_3b067 cJ1_charAt_3b067 2 (some .char), .methodLink RJ1 9 yJ0_checkIndex_df160, .static yJ0_checkIndex_df160, .code yJ0_checkIndex_df160 cJ0_checkIndex_df160 2 none, .fieldLink RJ0 1053 "jdk/internal/util/Preconditions" "SIOOBE_FORMATTER" "Ljava/util/function/BiFunction;", .methodLink RJ0 1059 yJ3_checkIndex_8e157, .static yJ3_checkIndex_8e157, .initialized RJ3, .code yJ3_checkIndex_8e157 cJ3_checkIndex_8e157 3 (some .int), .methodLink RX7 71 yX7_pass, .instanceMethod yX7_pass, .selects RX7 yX7_pass yX7_pass, .code yX7_pass cX7_pass 2 none, .methodLink RX7 33 yX7_advance, .instanceMethod yX7_advance, .selects RX7 yX7_advance yX7_advance, .code yX7_advance cX7_advance 2 none, .fieldLink RX7 19 "IcicleClock$Tape" "filled" "I", .methodLink RX7 175 yX7_kindOf, .static yX7_kindOf, .code yX7_kindOf cX7_kindOf 1 (some .int), .methodLink RX7 67 yX7_blame, .instanceMethod yX7_blame, .selects RX7 yX7_blame yX7_blame, .code yX7_blame cX7_blame 2 none, .fieldLink RX7 27 "IcicleClock$Tape" "fault" "I", .fieldLink RX7 15 "IcicleClock$Tape" "faultPlace" "I", .methodLink RX7 82 yX7_numberBehind, .instanceMethod yX7_numberBehind, .selects RX7 yX7_numberBehind yX7_numberBehind, .code yX7_numberBehind cX7_numberBehind 3 (some .int), .methodLink RX7 132 yX7_passNumber, .instanceMethod yX7_passNumber, .selects RX7 yX7_passNumber yX7_passNumber, .code yX7_passNumber cX7_passNumber 4 (some .int), .methodLink RX7 155 yX7_numberHere, .instanceMethod yX7_numberHere, .selects RX7 yX7_numberHere yX7_numberHere, .code yX7_numberHere cX7_numberHere 3 (some .int), .methodLink RX7 162 Lib.Math.min.name, .static Lib.Math.min.name, .initialized "java/lang/Math", .code Lib.Math.min.name Lib.Math.min.code 2 (some .int), .fieldLink RX7 86 "IcicleClock$Street" "slamTakes" "I", .fieldLink RX7 91 "IcicleClock$Street" "bellTakes" "I", .fieldLink RX7 96 "IcicleClock$Street" "odds" "I"] ++ wsX70 ++ wsX60)
theorem iX7_readFirst_7 : ∀ w ∈ wsX70, w ∈ vX7_readFirst := fun _ h => List.mem_cons_of_mem _ (List.mem_append_left _ (List.mem_append_right _ h))
theorem iX7_readFirst_6 : ∀ w ∈ wsX60, w ∈ vX7_readFirst := fun _ h => List.mem_cons_of_mem _ (List.mem_append_right _ h)
set_option maxRecDepth 20000 in
theorem gg_X7_readFirst_X7_isWord : GoodIn vX7_readFirst (wsV RX7 45 RX7 yX7_isWord vX7_isWord) := goodIn_r _ [1, 2, 3, 4, 5, 6, 7, 8, 9, 10, 11, 12, 13, 14, 15, 16, 17, 18, 19, 20, 21, 22, 23, 24, 25, 26, 27, 28, 29, 30, 31, 32, 33, 34, 35, 36, 37, 38, 39, 40, 41, 79, 80, 81, 82, 83, 84, 85] (by decide +kernel) (by decide +kernel)
set_option maxRecDepth 20000 in
theorem gg_X7_readFirst_X7_pass : GoodIn vX7_readFirst (wsV RX7 71 RX7 yX7_pass vX7_pass) := goodIn_r _ [42, 43, 44, 4, 45, 46, 47, 48, 4, 49, 7, 8, 50, 21, 51, 52, 53, 6, 54, 55, 56, 57, 58, 59, 79, 80, 81, 82, 83, 84, 85] (by decide +kernel) (by decide +kernel)
set_option maxRecDepth 20000 in
theorem gg_X7_readFirst_X7_numberBehind : GoodIn vX7_readFirst (wsV RX7 82 RX7 yX7_numberBehind vX7_numberBehind) := goodIn_r _ [60, 61, 62, 4, 63, 1, 2, 3, 4, 5, 6, 7, 8, 9, 10, 11, 12, 13, 14, 15, 16, 17, 18, 19, 20, 21, 22, 23, 24, 25, 26, 27, 28, 29, 30, 31, 32, 33, 34, 35, 36, 37, 38, 39, 40, 41, 42, 43, 44, 45, 46, 47, 48, 49, 50, 51, 52, 53, 54, 55, 56, 57, 58, 59, 64, 65, 66, 67, 68, 69, 70, 71, 72, 73, 74, 75, 79, 80, 81, 82, 83, 84, 85] (by decide +kernel) (by decide +kernel)
set_option maxHeartbeats 4000000 in
set_option maxRecDepth 100000 in
theorem s_X7_readFirst (l : Launch) (D : va_G) (cs : Nat → ClassId) (ad : Nat → Nat) (kS : kSt) (K : sK) (hKO : KO K) (hj : wJ ad 218) (g : Nat → va_E) (hW : WF (shp ad K) ad cs g) : sV l yX7_readFirst vX7_readFirst { frames := 6, cells := 0, slots := 0, locals := 129 } D cs ad kS [.ref (ad 1), .ref (ad 23)] g (fun g2 => WF (shp ad K) ad cs g2 ∧ (∀ j, j ≠ 1 ∧ j ≠ 23 → g2 j = g j)) := by
  refine Met.startS (cc := cX7_readFirst) (maxL := 2) (ret := none) RX7 rfl (by decide) rfl (Nat.le_of_ble_eq_true rfl) ?_
  intro p e s m below meth c ls X Z hP hl
  have hx := X.1
  have hb := X.2.1
  have hS : va_S (wA ad 218) s.heap s.heap [] := va_S.rf
  have hA : ∀ i, i < 218 → wA ad 218 (ad i) := fun i h => ⟨i, h, rfl⟩
  have hfr : ∀ j, j ≠ 1 ∧ j ≠ 23 → g j = g j := fun _ _ => rfl
  have hl : lv_has ls 2 [(0, .ref (ad 1)), (1, .ref (ad 23))] := hl
  refine lv_aload_n hx hb dX7_readFirst_0 rfl (lv_at hl 0 rfl) ?_
  refine lv_aload_n hx hb dX7_readFirst_1 rfl (lv_at hl 0 rfl) ?_
  refine va_ldcS hx hb X.2.2.2.2.2.1 (Z.2.1 _ (List.mem_of_getElem? (i := 0) rfl)) dX7_readFirst_2 ?_
  obtain ⟨fsc_4, hgc_4, hOc_4⟩ := hW.obj (i := 1) (by decide) (sh_1 ad K)
  refine s_calli (q := (RX7, TX7, 7)) (As := [.ref (kS.1 0)]) (rest := [.ref (ad 1)]) X Z (s_X7_isWord l D cs ad kS K hKO hj g hW 0 (by omega)) (cwV 1 X.2.2.2.2.1 gg_X7_readFirst_X7_isWord rfl rfl rfl (by decide +kernel) ⟨Nat.le_of_ble_eq_true rfl, Nat.le_of_ble_eq_true rfl⟩) (by decide) hgc_4 rfl hP hA hS.2.1 hS rfl hl.1 rfl (Nat.le_of_ble_eq_true rfl) dX7_readFirst_4 ⟨Nat.le_of_ble_eq_true rfl, Nat.le_of_ble_eq_true rfl⟩ (fun r_3 g_2 H locs hw_1 hP hS => ?_)
  obtain ⟨hw_1g, hw_1⟩ := hw_1
  rw [hw_1g] at hP
  refine s_callv (q := (RX7, TX7, 7)) (As := [.int r_3]) (rest := []) X Z (s_X7_pass l D cs ad kS K hKO hj g hW r_3) (cwV 1 X.2.2.2.2.1 gg_X7_readFirst_X7_pass rfl rfl rfl (by decide +kernel) ⟨Nat.le_of_ble_eq_true rfl, Nat.le_of_ble_eq_true rfl⟩) (by decide) hgc_4 rfl hP hA hS.2.1 hS rfl hl.1 rfl (Nat.le_of_ble_eq_true rfl) dX7_readFirst_7 ⟨Nat.le_of_ble_eq_true rfl, Nat.le_of_ble_eq_true rfl⟩ (fun g_6 H locs hw_5 hP hS => ?_)
  obtain ⟨hw_5W, hw_5f⟩ := hw_5
  have hfr_8 : ∀ j, j ≠ 1 ∧ j ≠ 23 → g_6 j = g j := fun j hj => (hw_5f j (by omega)).trans (hfr j hj)
  refine lv_aload_n hx hb dX7_readFirst_10 rfl (lv_at hl 1 rfl) ?_
  refine lv_aload_n hx hb dX7_readFirst_11 rfl (lv_at hl 0 rfl) ?_
  refine va_ldcS hx hb X.2.2.2.2.2.1 (Z.2.1 _ (List.mem_of_getElem? (i := 1) rfl)) dX7_readFirst_12 ?_
  refine lv_bipush (v := 20) hx hb dX7_readFirst_14 (by decide) ?_
  obtain ⟨fsc_12, hgc_12, hOc_12⟩ := hw_5W.obj (i := 1) (by decide) (sh_1 ad K)
  refine s_calli (q := (RX7, TX7, 7)) (As := [.ref (kS.1 1), .int 20]) (rest := [.ref (ad 23)]) X Z (s_X7_numberBehind l D cs ad kS K hKO hj g_6 hw_5W 1 20 (by omega)) (cwV 2 X.2.2.2.2.1 gg_X7_readFirst_X7_numberBehind rfl rfl rfl (by decide +kernel) ⟨Nat.le_of_ble_eq_true rfl, Nat.le_of_ble_eq_true rfl⟩) (by decide) hgc_12 rfl hP hA hS.2.1 hS rfl hl.1 rfl (Nat.le_of_ble_eq_true rfl) dX7_readFirst_16 ⟨Nat.le_of_ble_eq_true rfl, Nat.le_of_ble_eq_true rfl⟩ (fun r_11 g_10 H locs hw_9 hP hS => ?_)
  obtain ⟨hw_9W, hw_9f, hw_9⟩ := hw_9
  have hfr_13 : ∀ j, j ≠ 1 ∧ j ≠ 23 → g_10 j = g j := fun j hj => (hw_9f j (by omega)).trans (hfr_8 j hj)
  have hqk_14 : (20 : Int32).toInt = 20 := by decide
  obtain ⟨fsc_15, hgc_15, hOc_15⟩ := hw_9W.obj (i := 23) (by decide) (sh_23 ad K)
  refine s_put X iX7_readFirst_6 tyX6 tyX6_ok nmX6 hP hj hA hS (by decide) hgc_15 rfl 0 (by decide) (List.mem_of_getElem? (i := 76) rfl) rfl (ty := .int) (v := .int r_11) (by decide +kernel) rfl rfl dX7_readFirst_19 hw_9W (sh_23 ad K) hOc_15 rfl ⟨r_11, rfl, n_lo _, n_hi _⟩ (fun fsc_16 gc_16 H locs hOc_16 hkc_16 hnc_16 hgc_16 hfc_16 hWc_16 hP hS => ?_)
  have hfr_17 : ∀ j, j ≠ 1 ∧ j ≠ 23 → gc_16 j = g j := fun j hj => (hfc_16 j (by omega)).trans (hfr_13 j hj)
  refine lv_aload_n hx hb dX7_readFirst_22 rfl (lv_at hl 1 rfl) ?_
  refine lv_aload_n hx hb dX7_readFirst_23 rfl (lv_at hl 0 rfl) ?_
  refine va_ldcS hx hb X.2.2.2.2.2.1 (Z.2.1 _ (List.mem_of_getElem? (i := 2) rfl)) dX7_readFirst_24 ?_
  refine lv_bipush (v := 20) hx hb dX7_readFirst_26 (by decide) ?_
  obtain ⟨fsc_21, hgc_21, hOc_21⟩ := hWc_16.obj (i := 1) (by decide) (sh_1 ad K)
  refine s_calli (q := (RX7, TX7, 7)) (As := [.ref (kS.1 2), .int 20]) (rest := [.ref (ad 23)]) X Z (s_X7_numberBehind l D cs ad kS K hKO hj gc_16 hWc_16 2 20 (by omega)) (cwV 2 X.2.2.2.2.1 gg_X7_readFirst_X7_numberBehind rfl rfl rfl (by decide +kernel) ⟨Nat.le_of_ble_eq_true rfl, Nat.le_of_ble_eq_true rfl⟩) (by decide) hgc_21 rfl hP hA hS.2.1 hS rfl hl.1 rfl (Nat.le_of_ble_eq_true rfl) dX7_readFirst_28 ⟨Nat.le_of_ble_eq_true rfl, Nat.le_of_ble_eq_true rfl⟩ (fun r_20 g_19 H locs hw_18 hP hS => ?_)
  obtain ⟨hw_18W, hw_18f, hw_18⟩ := hw_18
  have hfr_22 : ∀ j, j ≠ 1 ∧ j ≠ 23 → g_19 j = g j := fun j hj => (hw_18f j (by omega)).trans (hfr_17 j hj)
  have hg_23 := (hw_18f 23 (by omega)).trans hgc_16
  have hqk_24 : (20 : Int32).toInt = 20 := by decide
  refine s_put X iX7_readFirst_6 tyX6 tyX6_ok nmX6 hP hj hA hS (by decide) hg_23 rfl 1 (by decide) (List.mem_of_getElem? (i := 77) rfl) rfl (ty := .int) (v := .int r_20) (by decide +kernel) rfl rfl dX7_readFirst_31 hw_18W (sh_23 ad K) hOc_16 rfl ⟨r_20, rfl, n_lo _, n_hi _⟩ (fun fsc_25 gc_25 H locs hOc_25 hkc_25 hnc_25 hgc_25 hfc_25 hWc_25 hP hS => ?_)
  have hk_26 := (hnc_25 0 (by decide)).trans hkc_16
  have hfr_27 : ∀ j, j ≠ 1 ∧ j ≠ 23 → gc_25 j = g j := fun j hj => (hfc_25 j (by omega)).trans (hfr_22 j hj)
  refine lv_aload_n hx hb dX7_readFirst_34 rfl (lv_at hl 1 rfl) ?_
  refine lv_aload_n hx hb dX7_readFirst_35 rfl (lv_at hl 0 rfl) ?_
  refine va_ldcS hx hb X.2.2.2.2.2.1 (Z.2.1 _ (List.mem_of_getElem? (i := 3) rfl)) dX7_readFirst_36 ?_
  refine lv_bipush (v := 10) hx hb dX7_readFirst_38 (by decide) ?_
  obtain ⟨fsc_31, hgc_31, hOc_31⟩ := hWc_25.obj (i := 1) (by decide) (sh_1 ad K)
  refine s_calli (q := (RX7, TX7, 7)) (As := [.ref (kS.1 3), .int 10]) (rest := [.ref (ad 23)]) X Z (s_X7_numberBehind l D cs ad kS K hKO hj gc_25 hWc_25 3 10 (by omega)) (cwV 2 X.2.2.2.2.1 gg_X7_readFirst_X7_numberBehind rfl rfl rfl (by decide +kernel) ⟨Nat.le_of_ble_eq_true rfl, Nat.le_of_ble_eq_true rfl⟩) (by decide) hgc_31 rfl hP hA hS.2.1 hS rfl hl.1 rfl (Nat.le_of_ble_eq_true rfl) dX7_readFirst_40 ⟨Nat.le_of_ble_eq_true rfl, Nat.le_of_ble_eq_true rfl⟩ (fun r_30 g_29 H locs hw_28 hP hS => ?_)
  obtain ⟨hw_28W, hw_28f, hw_28⟩ := hw_28
  have hfr_32 : ∀ j, j ≠ 1 ∧ j ≠ 23 → g_29 j = g j := fun j hj => (hw_28f j (by omega)).trans (hfr_27 j hj)
  have hg_33 := (hw_28f 23 (by omega)).trans hgc_25
  have hqk_34 : (10 : Int32).toInt = 10 := by decide
  refine s_put X iX7_readFirst_6 tyX6 tyX6_ok nmX6 hP hj hA hS (by decide) hg_33 rfl 2 (by decide) (List.mem_of_getElem? (i := 78) rfl) rfl (ty := .int) (v := .int r_30) (by decide +kernel) rfl rfl dX7_readFirst_43 hw_28W (sh_23 ad K) hOc_25 rfl ⟨r_30, rfl, n_lo _, n_hi _⟩ (fun fsc_35 gc_35 H locs hOc_35 hkc_35 hnc_35 hgc_35 hfc_35 hWc_35 hP hS => ?_)
  have hk_36 := (hnc_35 1 (by decide)).trans hkc_25
  have hk_37 := (hnc_35 0 (by decide)).trans hk_26
  have hfr_38 : ∀ j, j ≠ 1 ∧ j ≠ 23 → gc_35 j = g j := fun j hj => (hfc_35 j (by omega)).trans (hfr_32 j hj)
  exact q_vret X hP hS ⟨hWc_35, hfr_38⟩ dX7_readFirst_46

theorem dX7_readDay_0 : decode cX7_readDay 0 = .ok (.aload_n 1, 1) := by decide +kernel
theorem dX7_readDay_1 : decode cX7_readDay 1 = .ok (.getfield 98, 3) := by decide +kernel
theorem dX7_readDay_4 : decode cX7_readDay 4 = .ok (.bipush 14, 2) := by decide +kernel
theorem dX7_readDay_6 : decode cX7_readDay 6 = .ok (.if_icmp .lt 9, 3) := by decide +kernel
theorem dX7_readDay_9 : decode cX7_readDay 9 = .ok (.aload_n 0, 1) := by decide +kernel
theorem dX7_readDay_10 : decode cX7_readDay 10 = .ok (.iconst 3, 1) := by decide +kernel
theorem dX7_readDay_11 : decode cX7_readDay 11 = .ok (.invokevirtual 67, 3) := by decide +kernel
theorem dX7_readDay_14 : decode cX7_readDay 14 = .ok (.return_, 1) := by decide +kernel
theorem dX7_readDay_15 : decode cX7_readDay 15 = .ok (.aload_n 0, 1) := by decide +kernel
theorem dX7_readDay_16 : decode cX7_readDay 16 = .ok (.aload_n 0, 1) := by decide +kernel
theorem dX7_readDay_17 : decode cX7_readDay 17 = .ok (.ldc 43, 2) := by decide +kernel
theorem dX7_readDay_19 : decode cX7_readDay 19 = .ok (.invokevirtual 45, 3) := by decide +kernel
theorem dX7_readDay_22 : decode cX7_readDay 22 = .ok (.invokevirtual 71, 3) := by decide +kernel
theorem dX7_readDay_25 : decode cX7_readDay 25 = .ok (.aload_n 0, 1) := by decide +kernel
theorem dX7_readDay_26 : decode cX7_readDay 26 = .ok (.ldc 101, 2) := by decide +kernel
theorem dX7_readDay_28 : decode cX7_readDay 28 = .ok (.invokevirtual 45, 3) := by decide +kernel
theorem dX7_readDay_31 : decode cX7_readDay 31 = .ok (.istore_n 2, 1) := by decide +kernel
theorem dX7_readDay_32 : decode cX7_readDay 32 = .ok (.aload_n 0, 1) := by decide +kernel
theorem dX7_readDay_33 : decode cX7_readDay 33 = .ok (.iload_n 2, 1) := by decide +kernel
theorem dX7_readDay_34 : decode cX7_readDay 34 = .ok (.ifCond .eq 8, 3) := by decide +kernel
theorem dX7_readDay_37 : decode cX7_readDay 37 = .ok (.ldc 101, 2) := by decide +kernel
theorem dX7_readDay_39 : decode cX7_readDay 39 = .ok (.goto 5, 3) := by decide +kernel
theorem dX7_readDay_42 : decode cX7_readDay 42 = .ok (.ldc 103, 2) := by decide +kernel
theorem dX7_readDay_44 : decode cX7_readDay 44 = .ok (.bipush 9, 2) := by decide +kernel
theorem dX7_readDay_46 : decode cX7_readDay 46 = .ok (.invokevirtual 82, 3) := by decide +kernel
theorem dX7_readDay_49 : decode cX7_readDay 49 = .ok (.istore_n 3, 1) := by decide +kernel
theorem dX7_readDay_50 : decode cX7_readDay 50 = .ok (.aload_n 1, 1) := by decide +kernel
theorem dX7_readDay_51 : decode cX7_readDay 51 = .ok (.getfield 105, 3) := by decide +kernel
theorem dX7_readDay_54 : decode cX7_readDay 54 = .ok (.aload_n 1, 1) := by decide +kernel
theorem dX7_readDay_55 : decode cX7_readDay 55 = .ok (.getfield 98, 3) := by decide +kernel
theorem dX7_readDay_58 : decode cX7_readDay 58 = .ok (.iload_n 2, 1) := by decide +kernel
theorem dX7_readDay_59 : decode cX7_readDay 59 = .ok (.ifCond .eq 8, 3) := by decide +kernel
theorem dX7_readDay_62 : decode cX7_readDay 62 = .ok (.iload_n 3, 1) := by decide +kernel
theorem dX7_readDay_63 : decode cX7_readDay 63 = .ok (.ineg, 1) := by decide +kernel
theorem dX7_readDay_64 : decode cX7_readDay 64 = .ok (.goto 4, 3) := by decide +kernel
theorem dX7_readDay_67 : decode cX7_readDay 67 = .ok (.iload_n 3, 1) := by decide +kernel
theorem dX7_readDay_68 : decode cX7_readDay 68 = .ok (.iastore, 1) := by decide +kernel
theorem dX7_readDay_69 : decode cX7_readDay 69 = .ok (.aload_n 1, 1) := by decide +kernel
theorem dX7_readDay_70 : decode cX7_readDay 70 = .ok (.getfield 108, 3) := by decide +kernel
theorem dX7_readDay_73 : decode cX7_readDay 73 = .ok (.aload_n 1, 1) := by decide +kernel
theorem dX7_readDay_74 : decode cX7_readDay 74 = .ok (.getfield 98, 3) := by decide +kernel
theorem dX7_readDay_77 : decode cX7_readDay 77 = .ok (.iload_n 2, 1) := by decide +kernel
theorem dX7_readDay_78 : decode cX7_readDay 78 = .ok (.ifCond .ne 7, 3) := by decide +kernel
theorem dX7_readDay_81 : decode cX7_readDay 81 = .ok (.iconst 1, 1) := by decide +kernel
theorem dX7_readDay_82 : decode cX7_readDay 82 = .ok (.goto 4, 3) := by decide +kernel
theorem dX7_readDay_85 : decode cX7_readDay 85 = .ok (.iconst 0, 1) := by decide +kernel
theorem dX7_readDay_86 : decode cX7_readDay 86 = .ok (.bastore, 1) := by decide +kernel
theorem dX7_readDay_87 : decode cX7_readDay 87 = .ok (.aload_n 1, 1) := by decide +kernel
theorem dX7_readDay_88 : decode cX7_readDay 88 = .ok (.dup, 1) := by decide +kernel
theorem dX7_readDay_89 : decode cX7_readDay 89 = .ok (.getfield 98, 3) := by decide +kernel
theorem dX7_readDay_92 : decode cX7_readDay 92 = .ok (.iconst 1, 1) := by decide +kernel
theorem dX7_readDay_93 : decode cX7_readDay 93 = .ok (.iadd, 1) := by decide +kernel
theorem dX7_readDay_94 : decode cX7_readDay 94 = .ok (.putfield 98, 3) := by decide +kernel
theorem dX7_readDay_97 : decode cX7_readDay 97 = .ok (.return_, 1) := by decide +kernel
def vX7_readDay : List Cond := .code yX7_readDay cX7_readDay 4 none :: ([.fieldLink RX7 98 "IcicleClock$Street" "days" "I", .methodLink RX7 67 yX7_blame, .instanceMethod yX7_blame, .selects RX7 yX7_blame yX7_blame, .initialized RX7, .code yX7_blame cX7_blame 2 none, .fieldLink RX7 27 "IcicleClock$Tape" "fault" "I", .fieldLink RX7 159 "IcicleClock$Tape" "start" "I", .fieldLink RX7 15 "IcicleClock$Tape" "faultPlace" "I", .methodLink RX7 45 yX7_isWord, .instanceMethod yX7_isWord, .selects RX7 yX7_isWord yX7_isWord, .code yX7_isWord cX7_isWord 3 (some .boolean), .fieldLink RX7 36 "IcicleClock$Tape" "kind" "I", .fieldLink RX7 30 "IcicleClock$Tape" "stop" "I", .methodLink RX7 167 yJ0_length_8abf5, .instanceMethod yJ0_length_8abf5, .selects RJ0 yJ0_length_8abf5 yJ0_length_8abf5, .initialized RJ0, .code yJ0_length_8abf5 cJ0_length_8abf5 1 (some .int), .fieldLink RJ0 9 "java/lang/String" "value" "[B", .methodLink RJ0 335 yJ0_coder_7d493, .instanceMethod yJ0_coder_7d493, .selects RJ0 yJ0_coder_7d493 yJ0_coder_7d493, .code yJ0_coder_7d493 cJ0_coder_7d493 1 (some .byte), .fieldLink RJ0 38 "java/lang/String" "COMPACT_STRINGS" "Z", .fieldLink RJ0 15 "java/lang/String" "coder" "B", .fieldLink RX7 9 "IcicleClock$Tape" "bytes" "[B", .methodLink RX7 171 yJ0_charAt_5068e, .instanceMethod yJ0_charAt_5068e, .selects RJ0 yJ0_charAt_5068e yJ0_charAt_5068e, .code yJ0_charAt_5068e cJ0_charAt_5068e 2 (some .char), .methodLink RJ0 492 yJ0_isLatin1_aae02, .instanceMethod yJ0_isLatin1_aae02, .selects RJ0 yJ0_isLatin1_aae02 yJ0_isLatin1_aae02, .code yJ0_isLatin1_aae02 cJ0_isLatin1_aae02 1 (some .boolean), .methodLink RJ0 495 yJ1_charAt_3b067, .static yJ1_charAt_3b067, .initialized RJ1, .code yJ1_charAt_3b067 cJ1_charAt_3b067 2 (some .char), .methodLink RJ1 9 yJ0_checkIndex_df160, .static yJ0_checkIndex_df160, .code yJ0_checkIndex_df160 cJ0_checkIndex_df160 2 none, .fieldLink RJ0 1053 "jdk/internal/util/Preconditions" "SIOOBE_FORMATTER" "Ljava/util/function/BiFunction;", .methodLink RJ0 1059 yJ3_checkIndex_8e157, .static yJ3_checkIndex_8e157, .initialized RJ3, .code yJ3_checkIndex_8e157 cJ3_checkIndex_8e157 3 (some .int), .methodLink RX7 71 yX7_pass, .instanceMethod yX7_pass, .selects RX7 yX7_pass yX7_pass, .code yX7_pass cX7_pass 2 none, .methodLink RX7 33 yX7_advance, .instanceMethod yX7_advance, .selects RX7 yX7_advance yX7_advance, .code yX7_advance cX7_advance 2 none, .fieldLink RX7 19 "IcicleClock$Tape" "filled" "I", .methodLink RX7 175 yX7_kindOf, .static yX7_kindOf, .code yX7_kindOf cX7_kindOf 1 (some .int), .methodLink RX7 82 yX7_numberBehind, .instanceMethod yX7_numberBehind, .selects RX7 yX7_numberBehind yX7_numberBehind, .code yX7_numberBehind cX7_numberBehind 3 (some .int), .methodLink RX7 132 yX7_passNumber, .instanceMethod yX7_passNumber, .selects RX7 yX7_passNumber yX7_passNumber, .code yX7_passNumber cX7_passNumber 4 (some .int), .methodLink RX7 155 yX7_numberHere, .instanceMethod yX7_numberHere, .selects RX7 yX7_numberHere yX7_numberHere, .code yX7_numberHere cX7_numberHere 3 (some .int), .methodLink RX7 162 Lib.Math.min.name, .static Lib.Math.min.name, .initialized "java/lang/Math", .code Lib.Math.min.name Lib.Math.min.code 2 (some .int), .fieldLink RX7 105 "IcicleClock$Street" "thaw" "[I", .fieldLink RX7 108 "IcicleClock$Street" "isThaw" "[Z"] ++ wsX60 ++ wsX70)
theorem iX7_readDay_6 : ∀ w ∈ wsX60, w ∈ vX7_readDay := fun _ h => List.mem_cons_of_mem _ (List.mem_append_left _ (List.mem_append_right _ h))
theorem iX7_readDay_7 : ∀ w ∈ wsX70, w ∈ vX7_readDay := fun _ h => List.mem_cons_of_mem _ (List.mem_append_right _ h)
set_option maxRecDepth 20000 in
theorem gg_X7_readDay_X7_blame : GoodIn vX7_readDay (wsV RX7 67 RX7 yX7_blame vX7_blame) := goodIn_r _ [2, 3, 4, 5, 6, 7, 8, 9, 97, 98, 99, 100, 101, 102, 103] (by decide +kernel) (by decide +kernel)
set_option maxRecDepth 20000 in
theorem gg_X7_readDay_X7_isWord : GoodIn vX7_readDay (wsV RX7 45 RX7 yX7_isWord vX7_isWord) := goodIn_r _ [10, 11, 12, 5, 13, 14, 15, 8, 16, 17, 18, 19, 20, 21, 22, 23, 24, 25, 26, 27, 28, 29, 30, 31, 32, 33, 34, 35, 36, 37, 38, 39, 40, 41, 42, 43, 44, 45, 46, 47, 48, 97, 98, 99, 100, 101, 102, 103] (by decide +kernel) (by decide +kernel)
set_option maxRecDepth 20000 in
theorem gg_X7_readDay_X7_pass : GoodIn vX7_readDay (wsV RX7 71 RX7 yX7_pass vX7_pass) := goodIn_r _ [49, 50, 51, 5, 52, 53, 54, 55, 5, 56, 15, 8, 57, 28, 58, 59, 60, 14, 2, 3, 4, 6, 7, 9, 97, 98, 99, 100, 101, 102, 103] (by decide +kernel) (by decide +kernel)
set_option maxRecDepth 20000 in
theorem gg_X7_readDay_X7_numberBehind : GoodIn vX7_readDay (wsV RX7 82 RX7 yX7_numberBehind vX7_numberBehind) := goodIn_r _ [61, 62, 63, 5, 64, 10, 11, 12, 5, 13, 14, 15, 8, 16, 17, 18, 19, 20, 21, 22, 23, 24, 25, 26, 27, 28, 29, 30, 31, 32, 33, 34, 35, 36, 37, 38, 39, 40, 41, 42, 43, 44, 45, 46, 47, 48, 49, 50, 51, 52, 53, 54, 55, 56, 57, 58, 59, 60, 2, 3, 4, 6, 7, 9, 65, 66, 67, 68, 69, 70, 71, 72, 73, 74, 75, 76, 97, 98, 99, 100, 101, 102, 103] (by decide +kernel) (by decide +kernel)
set_option maxHeartbeats 4000000 in
set_option maxRecDepth 100000 in
theorem s_X7_readDay (l : Launch) (D : va_G) (cs : Nat → ClassId) (ad : Nat → Nat) (kS : kSt) (K : sK) (hKO : KO K) (hj : wJ ad 218) (g : Nat → va_E) (hW : WF (shp ad K) ad cs g) : sV l yX7_readDay vX7_readDay { frames := 6, cells := 0, slots := 0, locals := 129 } D cs ad kS [.ref (ad 1), .ref (ad 23)] g (fun g2 => WF (shp ad K) ad cs g2 ∧ (∀ j, j ≠ 1 ∧ j ≠ 23 ∧ j ≠ 24 ∧ j ≠ 25 → g2 j = g j)) := by
  refine Met.startS (cc := cX7_readDay) (maxL := 4) (ret := none) RX7 rfl (by decide) rfl (Nat.le_of_ble_eq_true rfl) ?_
  intro p e s m below meth c ls X Z hP hl
  have hx := X.1
  have hb := X.2.1
  have hS : va_S (wA ad 218) s.heap s.heap [] := va_S.rf
  have hA : ∀ i, i < 218 → wA ad 218 (ad i) := fun i h => ⟨i, h, rfl⟩
  have hfr : ∀ j, j ≠ 1 ∧ j ≠ 23 ∧ j ≠ 24 ∧ j ≠ 25 → g j = g j := fun _ _ => rfl
  have hl : lv_has ls 4 [(0, .ref (ad 1)), (1, .ref (ad 23))] := hl
  refine lv_aload_n hx hb dX7_readDay_0 rfl (lv_at hl 1 rfl) ?_
  obtain ⟨fsc_1, hgc_1, hOc_1⟩ := hW.obj (i := 23) (by decide) (sh_23 ad K)
  obtain ⟨x_3, hk_2, hlx_3, hhx_3⟩ := hOc_1.int 3 rfl
  refine q_get X iX7_readDay_6 hP (by decide) hgc_1 rfl 3 (by decide) (List.mem_of_getElem? (i := 1) rfl) (v := .int x_3) hk_2 dX7_readDay_1 ?_
  refine lv_bipush (v := 14) hx hb dX7_readDay_4 (by decide) ?_
  refine lv_icmp_lt (tgt := 15) hx hb dX7_readDay_6 (by decide) (fun hc_4 => ?_) (fun hc_4 => ?_)
  · have hhc_4 := n_lt (rfl : x_3.toInt = x_3.toInt) (by decide : (14 : Int32).toInt = 14) hc_4
    refine lv_aload_n hx hb dX7_readDay_15 rfl (lv_at hl 0 rfl) ?_
    refine lv_aload_n hx hb dX7_readDay_16 rfl (lv_at hl 0 rfl) ?_
    refine va_ldcS hx hb X.2.2.2.2.2.1 (Z.2.1 _ (List.mem_of_getElem? (i := 4) rfl)) dX7_readDay_17 ?_
    obtain ⟨fsc_8, hgc_8, hOc_8⟩ := hW.obj (i := 1) (by decide) (sh_1 ad K)
    refine s_calli (q := (RX7, TX7, 7)) (As := [.ref (kS.1 4)]) (rest := [.ref (ad 1)]) X Z (s_X7_isWord l D cs ad kS K hKO hj g hW 4 (by omega)) (cwV 1 X.2.2.2.2.1 gg_X7_readDay_X7_isWord rfl rfl rfl (by decide +kernel) ⟨Nat.le_of_ble_eq_true rfl, Nat.le_of_ble_eq_true rfl⟩) (by decide) hgc_8 rfl hP hA hS.2.1 hS rfl hl.1 rfl (Nat.le_of_ble_eq_true rfl) dX7_readDay_19 ⟨Nat.le_of_ble_eq_true rfl, Nat.le_of_ble_eq_true rfl⟩ (fun r_7 g_6 H locs hw_5 hP hS => ?_)
    obtain ⟨hw_5g, hw_5⟩ := hw_5
    rw [hw_5g] at hP
    refine s_callv (q := (RX7, TX7, 7)) (As := [.int r_7]) (rest := []) X Z (s_X7_pass l D cs ad kS K hKO hj g hW r_7) (cwV 1 X.2.2.2.2.1 gg_X7_readDay_X7_pass rfl rfl rfl (by decide +kernel) ⟨Nat.le_of_ble_eq_true rfl, Nat.le_of_ble_eq_true rfl⟩) (by decide) hgc_8 rfl hP hA hS.2.1 hS rfl hl.1 rfl (Nat.le_of_ble_eq_true rfl) dX7_readDay_22 ⟨Nat.le_of_ble_eq_true rfl, Nat.le_of_ble_eq_true rfl⟩ (fun g_10 H locs hw_9 hP hS => ?_)
    obtain ⟨hw_9W, hw_9f⟩ := hw_9
    have hfr_12 : ∀ j, j ≠ 1 ∧ j ≠ 23 ∧ j ≠ 24 ∧ j ≠ 25 → g_10 j = g j := fun j hj => (hw_9f j (by omega)).trans (hfr j hj)
    have hg_13 := (hw_9f 23 (by omega)).trans hgc_1
    refine lv_aload_n hx hb dX7_readDay_25 rfl (lv_at hl 0 rfl) ?_
    refine va_ldcS hx hb X.2.2.2.2.2.1 (Z.2.1 _ (List.mem_of_getElem? (i := 5) rfl)) dX7_readDay_26 ?_
    obtain ⟨fsc_17, hgc_17, hOc_17⟩ := hw_9W.obj (i := 1) (by decide) (sh_1 ad K)
    refine s_calli (q := (RX7, TX7, 7)) (As := [.ref (kS.1 5)]) (rest := []) X Z (s_X7_isWord l D cs ad kS K hKO hj g_10 hw_9W 5 (by omega)) (cwV 1 X.2.2.2.2.1 gg_X7_readDay_X7_isWord rfl rfl rfl (by decide +kernel) ⟨Nat.le_of_ble_eq_true rfl, Nat.le_of_ble_eq_true rfl⟩) (by decide) hgc_17 rfl hP hA hS.2.1 hS rfl hl.1 rfl (Nat.le_of_ble_eq_true rfl) dX7_readDay_28 ⟨Nat.le_of_ble_eq_true rfl, Nat.le_of_ble_eq_true rfl⟩ (fun r_16 g_15 H locs hw_14 hP hS => ?_)
    obtain ⟨hw_14g, hw_14⟩ := hw_14
    rw [hw_14g] at hP
    refine lv_istore_n (lv' := [(2, .int r_16), (0, .ref (ad 1)), (1, .ref (ad 23))]) hx hb dX7_readDay_31 rfl hl (by decide) rfl (fun ls hl => ?_)
    refine lv_aload_n hx hb dX7_readDay_32 rfl (lv_at hl 1 rfl) ?_
    refine lv_iload_n hx hb dX7_readDay_33 rfl (lv_at hl 0 rfl) ?_
    refine lv_if_eq (tgt := 42) hx hb dX7_readDay_34 (by decide) (fun hc_18 => ?_) (fun hc_18 => ?_)
    · have hhc_18 := n_eq (rfl : r_16.toInt = r_16.toInt) (by decide : (0 : Int32).toInt = 0) hc_18
      refine va_ldcS hx hb X.2.2.2.2.2.1 (Z.2.1 _ (List.mem_of_getElem? (i := 6) rfl)) dX7_readDay_42 ?_
      refine lv_bipush (v := 9) hx hb dX7_readDay_44 (by decide) ?_
      refine s_calli (q := (RX7, TX7, 7)) (As := [.ref (kS.1 6), .int 9]) (rest := []) X Z (s_X7_numberBehind l D cs ad kS K hKO hj g_10 hw_9W 6 9 (by omega)) (cwV 2 X.2.2.2.2.1 gg_X7_readDay_X7_numberBehind rfl rfl rfl (by decide +kernel) ⟨Nat.le_of_ble_eq_true rfl, Nat.le_of_ble_eq_true rfl⟩) (by decide) hgc_17 rfl hP hA hS.2.1 hS rfl hl.1 rfl (Nat.le_of_ble_eq_true rfl) dX7_readDay_46 ⟨Nat.le_of_ble_eq_true rfl, Nat.le_of_ble_eq_true rfl⟩ (fun r_21 g_20 H locs hw_19 hP hS => ?_)
      obtain ⟨hw_19W, hw_19f, hw_19⟩ := hw_19
      have hfr_22 : ∀ j, j ≠ 1 ∧ j ≠ 23 ∧ j ≠ 24 ∧ j ≠ 25 → g_20 j = g j := fun j hj => (hw_19f j (by omega)).trans (hfr_12 j hj)
      have hg_23 := (hw_19f 23 (by omega)).trans hg_13
      have hqk_24 : (9 : Int32).toInt = 9 := by decide
      refine lv_istore_n (lv' := [(3, .int r_21), (2, .int r_16), (0, .ref (ad 1)), (1, .ref (ad 23))]) hx hb dX7_readDay_49 rfl hl (by decide) rfl (fun ls hl => ?_)
      refine lv_aload_n hx hb dX7_readDay_50 rfl (lv_at hl 3 rfl) ?_
      have hk_25 := hOc_1.ref 8 rfl
      refine q_get X iX7_readDay_6 hP (by decide) hg_23 rfl 8 (by decide) (List.mem_of_getElem? (i := 77) rfl) (v := .ref (ad 24)) hk_25 dX7_readDay_51 ?_
      refine lv_aload_n hx hb dX7_readDay_54 rfl (lv_at hl 3 rfl) ?_
      refine q_get X iX7_readDay_6 hP (by decide) hg_23 rfl 3 (by decide) (List.mem_of_getElem? (i := 1) rfl) (v := .int x_3) hk_2 dX7_readDay_55 ?_
      refine lv_iload_n hx hb dX7_readDay_58 rfl (lv_at hl 1 rfl) ?_
      refine lv_if_eq (tgt := 67) hx hb dX7_readDay_59 (by decide) (fun hc_26 => ?_) (fun hc_26 => by exfalso; have hhc_26 := n_ne (rfl : r_16.toInt = r_16.toInt) (by decide : (0 : Int32).toInt = 0) hc_26; omega)
      have hhc_26 := n_eq (rfl : r_16.toInt = r_16.toInt) (by decide : (0 : Int32).toInt = 0) hc_26
      refine lv_iload_n hx hb dX7_readDay_67 rfl (lv_at hl 0 rfl) ?_
      obtain ⟨fc_27, hgc_27, hFc_27⟩ := hw_19W.arr (i := 24) (by decide) (sh_24 ad K)
      refine s_iast X hP hj hA hS (by decide) hgc_27 (n_in (rfl : x_3.toInt = x_3.toInt) (by omega) (by omega)) dX7_readDay_68 hw_19W (sh_24 ad K) (hFc_27.put trivial) (fun fc_28 gc_28 H locs ec_28 hFc_28 hgc_28 hfc_28 hWc_28 hP hS => ?_)
      have hg_30 := (hfc_28 23 (by decide)).trans hg_23
      have hfr_29 : ∀ j, j ≠ 1 ∧ j ≠ 23 ∧ j ≠ 24 ∧ j ≠ 25 → gc_28 j = g j := fun j hj => (hfc_28 j (by omega)).trans (hfr_22 j hj)
      refine lv_aload_n hx hb dX7_readDay_69 rfl (lv_at hl 3 rfl) ?_
      have hk_31 := hOc_1.ref 9 rfl
      refine q_get X iX7_readDay_6 hP (by decide) hg_30 rfl 9 (by decide) (List.mem_of_getElem? (i := 78) rfl) (v := .ref (ad 25)) hk_31 dX7_readDay_70 ?_
      refine lv_aload_n hx hb dX7_readDay_73 rfl (lv_at hl 3 rfl) ?_
      refine q_get X iX7_readDay_6 hP (by decide) hg_30 rfl 3 (by decide) (List.mem_of_getElem? (i := 1) rfl) (v := .int x_3) hk_2 dX7_readDay_74 ?_
      refine lv_iload_n hx hb dX7_readDay_77 rfl (lv_at hl 1 rfl) ?_
      refine lv_if_ne (tgt := 85) hx hb dX7_readDay_78 (by decide) (fun hc_32 => by exfalso; have hhc_32 := n_ne (rfl : r_16.toInt = r_16.toInt) (by decide : (0 : Int32).toInt = 0) hc_32; omega) (fun hc_32 => ?_)
      have hhc_32 := n_eq (rfl : r_16.toInt = r_16.toInt) (by decide : (0 : Int32).toInt = 0) hc_32
      refine lv_iconst (v := 1) hx hb dX7_readDay_81 (by decide) ?_
      refine lv_goto (tgt := 86) hx hb dX7_readDay_82 (by decide) ?_
      obtain ⟨fc_33, hgc_33, hFc_33⟩ := hWc_28.arr (i := 25) (by decide) (sh_25 ad K)
      refine s_zast X hP hj hA hS (by decide) hgc_33 (n_in (rfl : x_3.toInt = x_3.toInt) (by omega) (by omega)) dX7_readDay_86 hWc_28 (sh_25 ad K) (hFc_33.put trivial) (fun fc_34 gc_34 H locs ec_34 hFc_34 hgc_34 hfc_34 hWc_34 hP hS => ?_)
      have hg_36 := (hfc_34 23 (by decide)).trans hg_30
      have hg_37 := (hfc_34 24 (by decide)).trans hgc_28
      have hfr_35 : ∀ j, j ≠ 1 ∧ j ≠ 23 ∧ j ≠ 24 ∧ j ≠ 25 → gc_34 j = g j := fun j hj => (hfc_34 j (by omega)).trans (hfr_29 j hj)
      refine lv_aload_n hx hb dX7_readDay_87 rfl (lv_at hl 3 rfl) ?_
      refine lv_dup hx hb dX7_readDay_88 rfl ?_
      refine q_get X iX7_readDay_6 hP (by decide) hg_36 rfl 3 (by decide) (List.mem_of_getElem? (i := 1) rfl) (v := .int x_3) hk_2 dX7_readDay_89 ?_
      refine lv_iconst (v := 1) hx hb dX7_readDay_92 (by decide) ?_
      refine lv_iadd hx hb dX7_readDay_93 ?_
      refine lv_topi (fun z_38 ez_38 => ?_)
      have hz_38 : z_38.toInt = x_3.toInt + 1 := n_add (rfl : x_3.toInt = x_3.toInt) (by decide : (1 : Int32).toInt = 1) ez_38 (by omega) (by omega)
      refine s_put X iX7_readDay_6 tyX6 tyX6_ok nmX6 hP hj hA hS (by decide) hg_36 rfl 3 (by decide) (List.mem_of_getElem? (i := 1) rfl) rfl (ty := .int) (v := .int z_38) (by decide +kernel) rfl rfl dX7_readDay_94 hWc_34 (sh_23 ad K) hOc_1 rfl ⟨z_38, rfl, by omega, by omega⟩ (fun fsc_39 gc_39 H locs hOc_39 hkc_39 hnc_39 hgc_39 hfc_39 hWc_39 hP hS => ?_)
      have hk_40 := (hnc_39 8 (by decide)).trans hk_25
      have hk_41 := (hnc_39 9 (by decide)).trans hk_31
      have hg_43 := (hfc_39 24 (by decide)).trans hg_37
      have hg_44 := (hfc_39 25 (by decide)).trans hgc_34
      have hfr_42 : ∀ j, j ≠ 1 ∧ j ≠ 23 ∧ j ≠ 24 ∧ j ≠ 25 → gc_39 j = g j := fun j hj => (hfc_39 j (by omega)).trans (hfr_35 j hj)
      exact q_vret X hP hS ⟨hWc_39, hfr_42⟩ dX7_readDay_97
    · have hhc_18 := n_ne (rfl : r_16.toInt = r_16.toInt) (by decide : (0 : Int32).toInt = 0) hc_18
      refine va_ldcS hx hb X.2.2.2.2.2.1 (Z.2.1 _ (List.mem_of_getElem? (i := 5) rfl)) dX7_readDay_37 ?_
      refine lv_goto (tgt := 44) hx hb dX7_readDay_39 (by decide) ?_
      refine lv_bipush (v := 9) hx hb dX7_readDay_44 (by decide) ?_
      refine s_calli (q := (RX7, TX7, 7)) (As := [.ref (kS.1 5), .int 9]) (rest := []) X Z (s_X7_numberBehind l D cs ad kS K hKO hj g_10 hw_9W 5 9 (by omega)) (cwV 2 X.2.2.2.2.1 gg_X7_readDay_X7_numberBehind rfl rfl rfl (by decide +kernel) ⟨Nat.le_of_ble_eq_true rfl, Nat.le_of_ble_eq_true rfl⟩) (by decide) hgc_17 rfl hP hA hS.2.1 hS rfl hl.1 rfl (Nat.le_of_ble_eq_true rfl) dX7_readDay_46 ⟨Nat.le_of_ble_eq_true rfl, Nat.le_of_ble_eq_true rfl⟩ (fun r_47 g_46 H locs hw_45 hP hS => ?_)
      obtain ⟨hw_45W, hw_45f, hw_45⟩ := hw_45
      have hfr_48 : ∀ j, j ≠ 1 ∧ j ≠ 23 ∧ j ≠ 24 ∧ j ≠ 25 → g_46 j = g j := fun j hj => (hw_45f j (by omega)).trans (hfr_12 j hj)
      have hg_49 := (hw_45f 23 (by omega)).trans hg_13
      have hqk_50 : (9 : Int32).toInt = 9 := by decide
      refine lv_istore_n (lv' := [(3, .int r_47), (2, .int r_16), (0, .ref (ad 1)), (1, .ref (ad 23))]) hx hb dX7_readDay_49 rfl hl (by decide) rfl (fun ls hl => ?_)
      refine lv_aload_n hx hb dX7_readDay_50 rfl (lv_at hl 3 rfl) ?_
      have hk_51 := hOc_1.ref 8 rfl
      refine q_get X iX7_readDay_6 hP (by decide) hg_49 rfl 8 (by decide) (List.mem_of_getElem? (i := 77) rfl) (v := .ref (ad 24)) hk_51 dX7_readDay_51 ?_
      refine lv_aload_n hx hb dX7_readDay_54 rfl (lv_at hl 3 rfl) ?_
      refine q_get X iX7_readDay_6 hP (by decide) hg_49 rfl 3 (by decide) (List.mem_of_getElem? (i := 1) rfl) (v := .int x_3) hk_2 dX7_readDay_55 ?_
      refine lv_iload_n hx hb dX7_readDay_58 rfl (lv_at hl 1 rfl) ?_
      refine lv_if_eq (tgt := 67) hx hb dX7_readDay_59 (by decide) (fun hc_52 => by exfalso; have hhc_52 := n_eq (rfl : r_16.toInt = r_16.toInt) (by decide : (0 : Int32).toInt = 0) hc_52; omega) (fun hc_52 => ?_)
      have hhc_52 := n_ne (rfl : r_16.toInt = r_16.toInt) (by decide : (0 : Int32).toInt = 0) hc_52
      refine lv_iload_n hx hb dX7_readDay_62 rfl (lv_at hl 0 rfl) ?_
      refine lv_ineg hx hb dX7_readDay_63 ?_
      refine lv_topi (fun z_53 ez_53 => ?_)
      have hz_53 : z_53.toInt = -r_47.toInt := n_neg (rfl : r_47.toInt = r_47.toInt) ez_53 (by omega)
      refine lv_goto (tgt := 68) hx hb dX7_readDay_64 (by decide) ?_
      obtain ⟨fc_54, hgc_54, hFc_54⟩ := hw_45W.arr (i := 24) (by decide) (sh_24 ad K)
      refine s_iast X hP hj hA hS (by decide) hgc_54 (n_in (rfl : x_3.toInt = x_3.toInt) (by omega) (by omega)) dX7_readDay_68 hw_45W (sh_24 ad K) (hFc_54.put trivial) (fun fc_55 gc_55 H locs ec_55 hFc_55 hgc_55 hfc_55 hWc_55 hP hS => ?_)
      have hg_57 := (hfc_55 23 (by decide)).trans hg_49
      have hfr_56 : ∀ j, j ≠ 1 ∧ j ≠ 23 ∧ j ≠ 24 ∧ j ≠ 25 → gc_55 j = g j := fun j hj => (hfc_55 j (by omega)).trans (hfr_48 j hj)
      refine lv_aload_n hx hb dX7_readDay_69 rfl (lv_at hl 3 rfl) ?_
      have hk_58 := hOc_1.ref 9 rfl
      refine q_get X iX7_readDay_6 hP (by decide) hg_57 rfl 9 (by decide) (List.mem_of_getElem? (i := 78) rfl) (v := .ref (ad 25)) hk_58 dX7_readDay_70 ?_
      refine lv_aload_n hx hb dX7_readDay_73 rfl (lv_at hl 3 rfl) ?_
      refine q_get X iX7_readDay_6 hP (by decide) hg_57 rfl 3 (by decide) (List.mem_of_getElem? (i := 1) rfl) (v := .int x_3) hk_2 dX7_readDay_74 ?_
      refine lv_iload_n hx hb dX7_readDay_77 rfl (lv_at hl 1 rfl) ?_
      refine lv_if_ne (tgt := 85) hx hb dX7_readDay_78 (by decide) (fun hc_59 => ?_) (fun hc_59 => by exfalso; have hhc_59 := n_eq (rfl : r_16.toInt = r_16.toInt) (by decide : (0 : Int32).toInt = 0) hc_59; omega)
      have hhc_59 := n_ne (rfl : r_16.toInt = r_16.toInt) (by decide : (0 : Int32).toInt = 0) hc_59
      refine lv_iconst (v := 0) hx hb dX7_readDay_85 (by decide) ?_
      obtain ⟨fc_60, hgc_60, hFc_60⟩ := hWc_55.arr (i := 25) (by decide) (sh_25 ad K)
      refine s_zast X hP hj hA hS (by decide) hgc_60 (n_in (rfl : x_3.toInt = x_3.toInt) (by omega) (by omega)) dX7_readDay_86 hWc_55 (sh_25 ad K) (hFc_60.put trivial) (fun fc_61 gc_61 H locs ec_61 hFc_61 hgc_61 hfc_61 hWc_61 hP hS => ?_)
      have hg_63 := (hfc_61 23 (by decide)).trans hg_57
      have hg_64 := (hfc_61 24 (by decide)).trans hgc_55
      have hfr_62 : ∀ j, j ≠ 1 ∧ j ≠ 23 ∧ j ≠ 24 ∧ j ≠ 25 → gc_61 j = g j := fun j hj => (hfc_61 j (by omega)).trans (hfr_56 j hj)
      refine lv_aload_n hx hb dX7_readDay_87 rfl (lv_at hl 3 rfl) ?_
      refine lv_dup hx hb dX7_readDay_88 rfl ?_
      refine q_get X iX7_readDay_6 hP (by decide) hg_63 rfl 3 (by decide) (List.mem_of_getElem? (i := 1) rfl) (v := .int x_3) hk_2 dX7_readDay_89 ?_
      refine lv_iconst (v := 1) hx hb dX7_readDay_92 (by decide) ?_
      refine lv_iadd hx hb dX7_readDay_93 ?_
      refine lv_topi (fun z_65 ez_65 => ?_)
      have hz_65 : z_65.toInt = x_3.toInt + 1 := n_add (rfl : x_3.toInt = x_3.toInt) (by decide : (1 : Int32).toInt = 1) ez_65 (by omega) (by omega)
      refine s_put X iX7_readDay_6 tyX6 tyX6_ok nmX6 hP hj hA hS (by decide) hg_63 rfl 3 (by decide) (List.mem_of_getElem? (i := 1) rfl) rfl (ty := .int) (v := .int z_65) (by decide +kernel) rfl rfl dX7_readDay_94 hWc_61 (sh_23 ad K) hOc_1 rfl ⟨z_65, rfl, by omega, by omega⟩ (fun fsc_66 gc_66 H locs hOc_66 hkc_66 hnc_66 hgc_66 hfc_66 hWc_66 hP hS => ?_)
      have hk_67 := (hnc_66 8 (by decide)).trans hk_51
      have hk_68 := (hnc_66 9 (by decide)).trans hk_58
      have hg_70 := (hfc_66 24 (by decide)).trans hg_64
      have hg_71 := (hfc_66 25 (by decide)).trans hgc_61
      have hfr_69 : ∀ j, j ≠ 1 ∧ j ≠ 23 ∧ j ≠ 24 ∧ j ≠ 25 → gc_66 j = g j := fun j hj => (hfc_66 j (by omega)).trans (hfr_62 j hj)
      exact q_vret X hP hS ⟨hWc_66, hfr_69⟩ dX7_readDay_97
  · have hhc_4 := n_nlt (rfl : x_3.toInt = x_3.toInt) (by decide : (14 : Int32).toInt = 14) hc_4
    refine lv_aload_n hx hb dX7_readDay_9 rfl (lv_at hl 0 rfl) ?_
    refine lv_iconst (v := 3) hx hb dX7_readDay_10 (by decide) ?_
    obtain ⟨fsc_75, hgc_75, hOc_75⟩ := hW.obj (i := 1) (by decide) (sh_1 ad K)
    refine s_callv (q := (RX7, TX7, 7)) (As := [.int 3]) (rest := []) X Z (s_X7_blame l D cs ad kS K hKO hj g hW 3) (cwV 1 X.2.2.2.2.1 gg_X7_readDay_X7_blame rfl rfl rfl (by decide +kernel) ⟨Nat.le_of_ble_eq_true rfl, Nat.le_of_ble_eq_true rfl⟩) (by decide) hgc_75 rfl hP hA hS.2.1 hS rfl hl.1 rfl (Nat.le_of_ble_eq_true rfl) dX7_readDay_11 ⟨Nat.le_of_ble_eq_true rfl, Nat.le_of_ble_eq_true rfl⟩ (fun g_73 H locs hw_72 hP hS => ?_)
    obtain ⟨hw_72W, hw_72f⟩ := hw_72
    have hfr_76 : ∀ j, j ≠ 1 ∧ j ≠ 23 ∧ j ≠ 24 ∧ j ≠ 25 → g_73 j = g j := fun j hj => (hw_72f j (by omega)).trans (hfr j hj)
    have hg_77 := (hw_72f 23 (by omega)).trans hgc_1
    exact q_vret X hP hS ⟨hw_72W, hfr_76⟩ dX7_readDay_14

theorem dX7_readEave_0 : decode cX7_readEave 0 = .ok (.aload_n 1, 1) := by decide +kernel
theorem dX7_readEave_1 : decode cX7_readEave 1 = .ok (.getfield 112, 3) := by decide +kernel
theorem dX7_readEave_4 : decode cX7_readEave 4 = .ok (.iconst 5, 1) := by decide +kernel
theorem dX7_readEave_5 : decode cX7_readEave 5 = .ok (.if_icmp .lt 9, 3) := by decide +kernel
theorem dX7_readEave_8 : decode cX7_readEave 8 = .ok (.aload_n 0, 1) := by decide +kernel
theorem dX7_readEave_9 : decode cX7_readEave 9 = .ok (.iconst 3, 1) := by decide +kernel
theorem dX7_readEave_10 : decode cX7_readEave 10 = .ok (.invokevirtual 67, 3) := by decide +kernel
theorem dX7_readEave_13 : decode cX7_readEave 13 = .ok (.return_, 1) := by decide +kernel
theorem dX7_readEave_14 : decode cX7_readEave 14 = .ok (.aload_n 0, 1) := by decide +kernel
theorem dX7_readEave_15 : decode cX7_readEave 15 = .ok (.aload_n 0, 1) := by decide +kernel
theorem dX7_readEave_16 : decode cX7_readEave 16 = .ok (.ldc 52, 2) := by decide +kernel
theorem dX7_readEave_18 : decode cX7_readEave 18 = .ok (.invokevirtual 45, 3) := by decide +kernel
theorem dX7_readEave_21 : decode cX7_readEave 21 = .ok (.invokevirtual 71, 3) := by decide +kernel
theorem dX7_readEave_24 : decode cX7_readEave 24 = .ok (.aload_n 1, 1) := by decide +kernel
theorem dX7_readEave_25 : decode cX7_readEave 25 = .ok (.getfield 115, 3) := by decide +kernel
theorem dX7_readEave_28 : decode cX7_readEave 28 = .ok (.aload_n 1, 1) := by decide +kernel
theorem dX7_readEave_29 : decode cX7_readEave 29 = .ok (.getfield 112, 3) := by decide +kernel
theorem dX7_readEave_32 : decode cX7_readEave 32 = .ok (.aload_n 0, 1) := by decide +kernel
theorem dX7_readEave_33 : decode cX7_readEave 33 = .ok (.ldc 118, 2) := by decide +kernel
theorem dX7_readEave_35 : decode cX7_readEave 35 = .ok (.iconst 4, 1) := by decide +kernel
theorem dX7_readEave_36 : decode cX7_readEave 36 = .ok (.invokevirtual 82, 3) := by decide +kernel
theorem dX7_readEave_39 : decode cX7_readEave 39 = .ok (.iastore, 1) := by decide +kernel
theorem dX7_readEave_40 : decode cX7_readEave 40 = .ok (.aload_n 1, 1) := by decide +kernel
theorem dX7_readEave_41 : decode cX7_readEave 41 = .ok (.dup, 1) := by decide +kernel
theorem dX7_readEave_42 : decode cX7_readEave 42 = .ok (.getfield 112, 3) := by decide +kernel
theorem dX7_readEave_45 : decode cX7_readEave 45 = .ok (.iconst 1, 1) := by decide +kernel
theorem dX7_readEave_46 : decode cX7_readEave 46 = .ok (.iadd, 1) := by decide +kernel
theorem dX7_readEave_47 : decode cX7_readEave 47 = .ok (.putfield 112, 3) := by decide +kernel
theorem dX7_readEave_50 : decode cX7_readEave 50 = .ok (.return_, 1) := by decide +kernel
def vX7_readEave : List Cond := .code yX7_readEave cX7_readEave 2 none :: ([.fieldLink RX7 112 "IcicleClock$Street" "eaves" "I", .methodLink RX7 67 yX7_blame, .instanceMethod yX7_blame, .selects RX7 yX7_blame yX7_blame, .initialized RX7, .code yX7_blame cX7_blame 2 none, .fieldLink RX7 27 "IcicleClock$Tape" "fault" "I", .fieldLink RX7 159 "IcicleClock$Tape" "start" "I", .fieldLink RX7 15 "IcicleClock$Tape" "faultPlace" "I", .methodLink RX7 45 yX7_isWord, .instanceMethod yX7_isWord, .selects RX7 yX7_isWord yX7_isWord, .code yX7_isWord cX7_isWord 3 (some .boolean), .fieldLink RX7 36 "IcicleClock$Tape" "kind" "I", .fieldLink RX7 30 "IcicleClock$Tape" "stop" "I", .methodLink RX7 167 yJ0_length_8abf5, .instanceMethod yJ0_length_8abf5, .selects RJ0 yJ0_length_8abf5 yJ0_length_8abf5, .initialized RJ0, .code yJ0_length_8abf5 cJ0_length_8abf5 1 (some .int), .fieldLink RJ0 9 "java/lang/String" "value" "[B", .methodLink RJ0 335 yJ0_coder_7d493, .instanceMethod yJ0_coder_7d493, .selects RJ0 yJ0_coder_7d493 yJ0_coder_7d493, .code yJ0_coder_7d493 cJ0_coder_7d493 1 (some .byte), .fieldLink RJ0 38 "java/lang/String" "COMPACT_STRINGS" "Z", .fieldLink RJ0 15 "java/lang/String" "coder" "B", .fieldLink RX7 9 "IcicleClock$Tape" "bytes" "[B", .methodLink RX7 171 yJ0_charAt_5068e, .instanceMethod yJ0_charAt_5068e, .selects RJ0 yJ0_charAt_5068e yJ0_charAt_5068e, .code yJ0_charAt_5068e cJ0_charAt_5068e 2 (some .char), .methodLink RJ0 492 yJ0_isLatin1_aae02, .instanceMethod yJ0_isLatin1_aae02, .selects RJ0 yJ0_isLatin1_aae02 yJ0_isLatin1_aae02, .code yJ0_isLatin1_aae02 cJ0_isLatin1_aae02 1 (some .boolean), .methodLink RJ0 495 yJ1_charAt_3b067, .static yJ1_charAt_3b067, .initialized RJ1, .code yJ1_charAt_3b067 cJ1_charAt_3b067 2 (some .char), .methodLink RJ1 9 yJ0_checkIndex_df160, .static yJ0_checkIndex_df160, .code yJ0_checkIndex_df160 cJ0_checkIndex_df160 2 none, .fieldLink RJ0 1053 "jdk/internal/util/Preconditions" "SIOOBE_FORMATTER" "Ljava/util/function/BiFunction;", .methodLink RJ0 1059 yJ3_checkIndex_8e157, .static yJ3_checkIndex_8e157, .initialized RJ3, .code yJ3_checkIndex_8e157 cJ3_checkIndex_8e157 3 (some .int), .methodLink RX7 71 yX7_pass, .instanceMethod yX7_pass, .selects RX7 yX7_pass yX7_pass, .code yX7_pass cX7_pass 2 none, .methodLink RX7 33 yX7_advance, .instanceMethod yX7_advance, .selects RX7 yX7_advance yX7_advance, .code yX7_advance cX7_advance 2 none, .fieldLink RX7 19 "IcicleClock$Tape" "filled" "I", .methodLink RX7 175 yX7_kindOf, .static yX7_kindOf, .code yX7_kindOf cX7_kindOf 1 (some .int), .fieldLink RX7 115 "IcicleClock$Street" "sun" "[I", .methodLink RX7 82 yX7_numberBehind, .instanceMethod yX7_numberBehind, .selects RX7 yX7_numberBehind yX7_numberBehind, .code yX7_numberBehind cX7_numberBehind 3 (some .int), .methodLink RX7 132 yX7_passNumber, .instanceMethod yX7_passNumber, .selects RX7 yX7_passNumber yX7_passNumber, .code yX7_passNumber cX7_passNumber 4 (some .int), .methodLink RX7 155 yX7_numberHere, .instanceMethod yX7_numberHere, .selects RX7 yX7_numberHere yX7_numberHere, .code yX7_numberHere cX7_numberHere 3 (some .int), .methodLink RX7 162 Lib.Math.min.name, .static Lib.Math.min.name, .initialized "java/lang/Math", .code Lib.Math.min.name Lib.Math.min.code 2 (some .int)] ++ wsX60 ++ wsX70)
theorem iX7_readEave_6 : ∀ w ∈ wsX60, w ∈ vX7_readEave := fun _ h => List.mem_cons_of_mem _ (List.mem_append_left _ (List.mem_append_right _ h))
theorem iX7_readEave_7 : ∀ w ∈ wsX70, w ∈ vX7_readEave := fun _ h => List.mem_cons_of_mem _ (List.mem_append_right _ h)
set_option maxRecDepth 20000 in
theorem gg_X7_readEave_X7_blame : GoodIn vX7_readEave (wsV RX7 67 RX7 yX7_blame vX7_blame) := goodIn_r _ [2, 3, 4, 5, 6, 7, 8, 9, 96, 97, 98, 99, 100, 101, 102] (by decide +kernel) (by decide +kernel)
set_option maxRecDepth 20000 in
theorem gg_X7_readEave_X7_isWord : GoodIn vX7_readEave (wsV RX7 45 RX7 yX7_isWord vX7_isWord) := goodIn_r _ [10, 11, 12, 5, 13, 14, 15, 8, 16, 17, 18, 19, 20, 21, 22, 23, 24, 25, 26, 27, 28, 29, 30, 31, 32, 33, 34, 35, 36, 37, 38, 39, 40, 41, 42, 43, 44, 45, 46, 47, 48, 96, 97, 98, 99, 100, 101, 102] (by decide +kernel) (by decide +kernel)
set_option maxRecDepth 20000 in
theorem gg_X7_readEave_X7_pass : GoodIn vX7_readEave (wsV RX7 71 RX7 yX7_pass vX7_pass) := goodIn_r _ [49, 50, 51, 5, 52, 53, 54, 55, 5, 56, 15, 8, 57, 28, 58, 59, 60, 14, 2, 3, 4, 6, 7, 9, 96, 97, 98, 99, 100, 101, 102] (by decide +kernel) (by decide +kernel)
set_option maxRecDepth 20000 in
theorem gg_X7_readEave_X7_numberBehind : GoodIn vX7_readEave (wsV RX7 82 RX7 yX7_numberBehind vX7_numberBehind) := goodIn_r _ [62, 63, 64, 5, 65, 10, 11, 12, 5, 13, 14, 15, 8, 16, 17, 18, 19, 20, 21, 22, 23, 24, 25, 26, 27, 28, 29, 30, 31, 32, 33, 34, 35, 36, 37, 38, 39, 40, 41, 42, 43, 44, 45, 46, 47, 48, 49, 50, 51, 52, 53, 54, 55, 56, 57, 58, 59, 60, 2, 3, 4, 6, 7, 9, 66, 67, 68, 69, 70, 71, 72, 73, 74, 75, 76, 77, 96, 97, 98, 99, 100, 101, 102] (by decide +kernel) (by decide +kernel)
set_option maxHeartbeats 4000000 in
set_option maxRecDepth 100000 in
theorem s_X7_readEave (l : Launch) (D : va_G) (cs : Nat → ClassId) (ad : Nat → Nat) (kS : kSt) (K : sK) (hKO : KO K) (hj : wJ ad 218) (g : Nat → va_E) (hW : WF (shp ad K) ad cs g) : sV l yX7_readEave vX7_readEave { frames := 6, cells := 0, slots := 0, locals := 129 } D cs ad kS [.ref (ad 1), .ref (ad 23)] g (fun g2 => WF (shp ad K) ad cs g2 ∧ (∀ j, j ≠ 1 ∧ j ≠ 23 ∧ j ≠ 26 → g2 j = g j)) := by
  refine Met.startS (cc := cX7_readEave) (maxL := 2) (ret := none) RX7 rfl (by decide) rfl (Nat.le_of_ble_eq_true rfl) ?_
  intro p e s m below meth c ls X Z hP hl
  have hx := X.1
  have hb := X.2.1
  have hS : va_S (wA ad 218) s.heap s.heap [] := va_S.rf
  have hA : ∀ i, i < 218 → wA ad 218 (ad i) := fun i h => ⟨i, h, rfl⟩
  have hfr : ∀ j, j ≠ 1 ∧ j ≠ 23 ∧ j ≠ 26 → g j = g j := fun _ _ => rfl
  have hl : lv_has ls 2 [(0, .ref (ad 1)), (1, .ref (ad 23))] := hl
  refine lv_aload_n hx hb dX7_readEave_0 rfl (lv_at hl 1 rfl) ?_
  obtain ⟨fsc_1, hgc_1, hOc_1⟩ := hW.obj (i := 23) (by decide) (sh_23 ad K)
  obtain ⟨x_3, hk_2, hlx_3, hhx_3⟩ := hOc_1.int 4 rfl
  refine q_get X iX7_readEave_6 hP (by decide) hgc_1 rfl 4 (by decide) (List.mem_of_getElem? (i := 1) rfl) (v := .int x_3) hk_2 dX7_readEave_1 ?_
  refine lv_iconst (v := 5) hx hb dX7_readEave_4 (by decide) ?_
  refine lv_icmp_lt (tgt := 14) hx hb dX7_readEave_5 (by decide) (fun hc_4 => ?_) (fun hc_4 => ?_)
  · have hhc_4 := n_lt (rfl : x_3.toInt = x_3.toInt) (by decide : (5 : Int32).toInt = 5) hc_4
    refine lv_aload_n hx hb dX7_readEave_14 rfl (lv_at hl 0 rfl) ?_
    refine lv_aload_n hx hb dX7_readEave_15 rfl (lv_at hl 0 rfl) ?_
    refine va_ldcS hx hb X.2.2.2.2.2.1 (Z.2.1 _ (List.mem_of_getElem? (i := 7) rfl)) dX7_readEave_16 ?_
    obtain ⟨fsc_8, hgc_8, hOc_8⟩ := hW.obj (i := 1) (by decide) (sh_1 ad K)
    refine s_calli (q := (RX7, TX7, 7)) (As := [.ref (kS.1 7)]) (rest := [.ref (ad 1)]) X Z (s_X7_isWord l D cs ad kS K hKO hj g hW 7 (by omega)) (cwV 1 X.2.2.2.2.1 gg_X7_readEave_X7_isWord rfl rfl rfl (by decide +kernel) ⟨Nat.le_of_ble_eq_true rfl, Nat.le_of_ble_eq_true rfl⟩) (by decide) hgc_8 rfl hP hA hS.2.1 hS rfl hl.1 rfl (Nat.le_of_ble_eq_true rfl) dX7_readEave_18 ⟨Nat.le_of_ble_eq_true rfl, Nat.le_of_ble_eq_true rfl⟩ (fun r_7 g_6 H locs hw_5 hP hS => ?_)
    obtain ⟨hw_5g, hw_5⟩ := hw_5
    rw [hw_5g] at hP
    refine s_callv (q := (RX7, TX7, 7)) (As := [.int r_7]) (rest := []) X Z (s_X7_pass l D cs ad kS K hKO hj g hW r_7) (cwV 1 X.2.2.2.2.1 gg_X7_readEave_X7_pass rfl rfl rfl (by decide +kernel) ⟨Nat.le_of_ble_eq_true rfl, Nat.le_of_ble_eq_true rfl⟩) (by decide) hgc_8 rfl hP hA hS.2.1 hS rfl hl.1 rfl (Nat.le_of_ble_eq_true rfl) dX7_readEave_21 ⟨Nat.le_of_ble_eq_true rfl, Nat.le_of_ble_eq_true rfl⟩ (fun g_10 H locs hw_9 hP hS => ?_)
    obtain ⟨hw_9W, hw_9f⟩ := hw_9
    have hfr_12 : ∀ j, j ≠ 1 ∧ j ≠ 23 ∧ j ≠ 26 → g_10 j = g j := fun j hj => (hw_9f j (by omega)).trans (hfr j hj)
    have hg_13 := (hw_9f 23 (by omega)).trans hgc_1
    refine lv_aload_n hx hb dX7_readEave_24 rfl (lv_at hl 1 rfl) ?_
    have hk_14 := hOc_1.ref 10 rfl
    refine q_get X iX7_readEave_6 hP (by decide) hg_13 rfl 10 (by decide) (List.mem_of_getElem? (i := 61) rfl) (v := .ref (ad 26)) hk_14 dX7_readEave_25 ?_
    refine lv_aload_n hx hb dX7_readEave_28 rfl (lv_at hl 1 rfl) ?_
    refine q_get X iX7_readEave_6 hP (by decide) hg_13 rfl 4 (by decide) (List.mem_of_getElem? (i := 1) rfl) (v := .int x_3) hk_2 dX7_readEave_29 ?_
    refine lv_aload_n hx hb dX7_readEave_32 rfl (lv_at hl 0 rfl) ?_
    refine va_ldcS hx hb X.2.2.2.2.2.1 (Z.2.1 _ (List.mem_of_getElem? (i := 8) rfl)) dX7_readEave_33 ?_
    refine lv_iconst (v := 4) hx hb dX7_readEave_35 (by decide) ?_
    obtain ⟨fsc_18, hgc_18, hOc_18⟩ := hw_9W.obj (i := 1) (by decide) (sh_1 ad K)
    refine s_calli (q := (RX7, TX7, 7)) (As := [.ref (kS.1 8), .int 4]) (rest := [.int x_3, .ref (ad 26)]) X Z (s_X7_numberBehind l D cs ad kS K hKO hj g_10 hw_9W 8 4 (by omega)) (cwV 2 X.2.2.2.2.1 gg_X7_readEave_X7_numberBehind rfl rfl rfl (by decide +kernel) ⟨Nat.le_of_ble_eq_true rfl, Nat.le_of_ble_eq_true rfl⟩) (by decide) hgc_18 rfl hP hA hS.2.1 hS rfl hl.1 rfl (Nat.le_of_ble_eq_true rfl) dX7_readEave_36 ⟨Nat.le_of_ble_eq_true rfl, Nat.le_of_ble_eq_true rfl⟩ (fun r_17 g_16 H locs hw_15 hP hS => ?_)
    obtain ⟨hw_15W, hw_15f, hw_15⟩ := hw_15
    have hfr_19 : ∀ j, j ≠ 1 ∧ j ≠ 23 ∧ j ≠ 26 → g_16 j = g j := fun j hj => (hw_15f j (by omega)).trans (hfr_12 j hj)
    have hg_20 := (hw_15f 23 (by omega)).trans hg_13
    have hqk_21 : (4 : Int32).toInt = 4 := by decide
    obtain ⟨fc_22, hgc_22, hFc_22⟩ := hw_15W.arr (i := 26) (by decide) (sh_26 ad K)
    refine s_iast X hP hj hA hS (by decide) hgc_22 (n_in (rfl : x_3.toInt = x_3.toInt) (by omega) (by omega)) dX7_readEave_39 hw_15W (sh_26 ad K) (hFc_22.put trivial) (fun fc_23 gc_23 H locs ec_23 hFc_23 hgc_23 hfc_23 hWc_23 hP hS => ?_)
    have hg_25 := (hfc_23 23 (by decide)).trans hg_20
    have hfr_24 : ∀ j, j ≠ 1 ∧ j ≠ 23 ∧ j ≠ 26 → gc_23 j = g j := fun j hj => (hfc_23 j (by omega)).trans (hfr_19 j hj)
    refine lv_aload_n hx hb dX7_readEave_40 rfl (lv_at hl 1 rfl) ?_
    refine lv_dup hx hb dX7_readEave_41 rfl ?_
    refine q_get X iX7_readEave_6 hP (by decide) hg_25 rfl 4 (by decide) (List.mem_of_getElem? (i := 1) rfl) (v := .int x_3) hk_2 dX7_readEave_42 ?_
    refine lv_iconst (v := 1) hx hb dX7_readEave_45 (by decide) ?_
    refine lv_iadd hx hb dX7_readEave_46 ?_
    refine lv_topi (fun z_26 ez_26 => ?_)
    have hz_26 : z_26.toInt = x_3.toInt + 1 := n_add (rfl : x_3.toInt = x_3.toInt) (by decide : (1 : Int32).toInt = 1) ez_26 (by omega) (by omega)
    refine s_put X iX7_readEave_6 tyX6 tyX6_ok nmX6 hP hj hA hS (by decide) hg_25 rfl 4 (by decide) (List.mem_of_getElem? (i := 1) rfl) rfl (ty := .int) (v := .int z_26) (by decide +kernel) rfl rfl dX7_readEave_47 hWc_23 (sh_23 ad K) hOc_1 rfl ⟨z_26, rfl, by omega, by omega⟩ (fun fsc_27 gc_27 H locs hOc_27 hkc_27 hnc_27 hgc_27 hfc_27 hWc_27 hP hS => ?_)
    have hk_28 := (hnc_27 10 (by decide)).trans hk_14
    have hg_30 := (hfc_27 26 (by decide)).trans hgc_23
    have hfr_29 : ∀ j, j ≠ 1 ∧ j ≠ 23 ∧ j ≠ 26 → gc_27 j = g j := fun j hj => (hfc_27 j (by omega)).trans (hfr_24 j hj)
    exact q_vret X hP hS ⟨hWc_27, hfr_29⟩ dX7_readEave_50
  · have hhc_4 := n_nlt (rfl : x_3.toInt = x_3.toInt) (by decide : (5 : Int32).toInt = 5) hc_4
    refine lv_aload_n hx hb dX7_readEave_8 rfl (lv_at hl 0 rfl) ?_
    refine lv_iconst (v := 3) hx hb dX7_readEave_9 (by decide) ?_
    obtain ⟨fsc_34, hgc_34, hOc_34⟩ := hW.obj (i := 1) (by decide) (sh_1 ad K)
    refine s_callv (q := (RX7, TX7, 7)) (As := [.int 3]) (rest := []) X Z (s_X7_blame l D cs ad kS K hKO hj g hW 3) (cwV 1 X.2.2.2.2.1 gg_X7_readEave_X7_blame rfl rfl rfl (by decide +kernel) ⟨Nat.le_of_ble_eq_true rfl, Nat.le_of_ble_eq_true rfl⟩) (by decide) hgc_34 rfl hP hA hS.2.1 hS rfl hl.1 rfl (Nat.le_of_ble_eq_true rfl) dX7_readEave_10 ⟨Nat.le_of_ble_eq_true rfl, Nat.le_of_ble_eq_true rfl⟩ (fun g_32 H locs hw_31 hP hS => ?_)
    obtain ⟨hw_31W, hw_31f⟩ := hw_31
    have hfr_35 : ∀ j, j ≠ 1 ∧ j ≠ 23 ∧ j ≠ 26 → g_32 j = g j := fun j hj => (hw_31f j (by omega)).trans (hfr j hj)
    have hg_36 := (hw_31f 23 (by omega)).trans hgc_1
    exact q_vret X hP hS ⟨hw_31W, hfr_35⟩ dX7_readEave_13

theorem dX7_readIcicle_0 : decode cX7_readIcicle 0 = .ok (.aload_n 1, 1) := by decide +kernel
theorem dX7_readIcicle_1 : decode cX7_readIcicle 1 = .ok (.getfield 119, 3) := by decide +kernel
theorem dX7_readIcicle_4 : decode cX7_readIcicle 4 = .ok (.bipush 8, 2) := by decide +kernel
theorem dX7_readIcicle_6 : decode cX7_readIcicle 6 = .ok (.if_icmp .lt 9, 3) := by decide +kernel
theorem dX7_readIcicle_9 : decode cX7_readIcicle 9 = .ok (.aload_n 0, 1) := by decide +kernel
theorem dX7_readIcicle_10 : decode cX7_readIcicle 10 = .ok (.iconst 3, 1) := by decide +kernel
theorem dX7_readIcicle_11 : decode cX7_readIcicle 11 = .ok (.invokevirtual 67, 3) := by decide +kernel
theorem dX7_readIcicle_14 : decode cX7_readIcicle 14 = .ok (.return_, 1) := by decide +kernel
theorem dX7_readIcicle_15 : decode cX7_readIcicle 15 = .ok (.aload_n 1, 1) := by decide +kernel
theorem dX7_readIcicle_16 : decode cX7_readIcicle 16 = .ok (.getfield 119, 3) := by decide +kernel
theorem dX7_readIcicle_19 : decode cX7_readIcicle 19 = .ok (.istore_n 2, 1) := by decide +kernel
theorem dX7_readIcicle_20 : decode cX7_readIcicle 20 = .ok (.aload_n 0, 1) := by decide +kernel
theorem dX7_readIcicle_21 : decode cX7_readIcicle 21 = .ok (.aload_n 0, 1) := by decide +kernel
theorem dX7_readIcicle_22 : decode cX7_readIcicle 22 = .ok (.ldc 57, 2) := by decide +kernel
theorem dX7_readIcicle_24 : decode cX7_readIcicle 24 = .ok (.invokevirtual 45, 3) := by decide +kernel
theorem dX7_readIcicle_27 : decode cX7_readIcicle 27 = .ok (.invokevirtual 71, 3) := by decide +kernel
theorem dX7_readIcicle_30 : decode cX7_readIcicle 30 = .ok (.aload_n 1, 1) := by decide +kernel
theorem dX7_readIcicle_31 : decode cX7_readIcicle 31 = .ok (.getfield 122, 3) := by decide +kernel
theorem dX7_readIcicle_34 : decode cX7_readIcicle 34 = .ok (.iload_n 2, 1) := by decide +kernel
theorem dX7_readIcicle_35 : decode cX7_readIcicle 35 = .ok (.aload_n 0, 1) := by decide +kernel
theorem dX7_readIcicle_36 : decode cX7_readIcicle 36 = .ok (.ldc 125, 2) := by decide +kernel
theorem dX7_readIcicle_38 : decode cX7_readIcicle 38 = .ok (.aload_n 1, 1) := by decide +kernel
theorem dX7_readIcicle_39 : decode cX7_readIcicle 39 = .ok (.getfield 112, 3) := by decide +kernel
theorem dX7_readIcicle_42 : decode cX7_readIcicle 42 = .ok (.iconst 1, 1) := by decide +kernel
theorem dX7_readIcicle_43 : decode cX7_readIcicle 43 = .ok (.isub, 1) := by decide +kernel
theorem dX7_readIcicle_44 : decode cX7_readIcicle 44 = .ok (.invokevirtual 82, 3) := by decide +kernel
theorem dX7_readIcicle_47 : decode cX7_readIcicle 47 = .ok (.iastore, 1) := by decide +kernel
theorem dX7_readIcicle_48 : decode cX7_readIcicle 48 = .ok (.aload_n 0, 1) := by decide +kernel
theorem dX7_readIcicle_49 : decode cX7_readIcicle 49 = .ok (.aload_n 0, 1) := by decide +kernel
theorem dX7_readIcicle_50 : decode cX7_readIcicle 50 = .ok (.ldc 127, 2) := by decide +kernel
theorem dX7_readIcicle_52 : decode cX7_readIcicle 52 = .ok (.invokevirtual 45, 3) := by decide +kernel
theorem dX7_readIcicle_55 : decode cX7_readIcicle 55 = .ok (.invokevirtual 71, 3) := by decide +kernel
theorem dX7_readIcicle_58 : decode cX7_readIcicle 58 = .ok (.aload_n 1, 1) := by decide +kernel
theorem dX7_readIcicle_59 : decode cX7_readIcicle 59 = .ok (.getfield 129, 3) := by decide +kernel
theorem dX7_readIcicle_62 : decode cX7_readIcicle 62 = .ok (.iload_n 2, 1) := by decide +kernel
theorem dX7_readIcicle_63 : decode cX7_readIcicle 63 = .ok (.aload_n 0, 1) := by decide +kernel
theorem dX7_readIcicle_64 : decode cX7_readIcicle 64 = .ok (.iconst 1, 1) := by decide +kernel
theorem dX7_readIcicle_65 : decode cX7_readIcicle 65 = .ok (.bipush 99, 2) := by decide +kernel
theorem dX7_readIcicle_67 : decode cX7_readIcicle 67 = .ok (.invokevirtual 132, 3) := by decide +kernel
theorem dX7_readIcicle_70 : decode cX7_readIcicle 70 = .ok (.iastore, 1) := by decide +kernel
theorem dX7_readIcicle_71 : decode cX7_readIcicle 71 = .ok (.aload_n 1, 1) := by decide +kernel
theorem dX7_readIcicle_72 : decode cX7_readIcicle 72 = .ok (.getfield 136, 3) := by decide +kernel
theorem dX7_readIcicle_75 : decode cX7_readIcicle 75 = .ok (.iload_n 2, 1) := by decide +kernel
theorem dX7_readIcicle_76 : decode cX7_readIcicle 76 = .ok (.aload_n 1, 1) := by decide +kernel
theorem dX7_readIcicle_77 : decode cX7_readIcicle 77 = .ok (.getfield 129, 3) := by decide +kernel
theorem dX7_readIcicle_80 : decode cX7_readIcicle 80 = .ok (.iload_n 2, 1) := by decide +kernel
theorem dX7_readIcicle_81 : decode cX7_readIcicle 81 = .ok (.iaload, 1) := by decide +kernel
theorem dX7_readIcicle_82 : decode cX7_readIcicle 82 = .ok (.iastore, 1) := by decide +kernel
theorem dX7_readIcicle_83 : decode cX7_readIcicle 83 = .ok (.aload_n 1, 1) := by decide +kernel
theorem dX7_readIcicle_84 : decode cX7_readIcicle 84 = .ok (.getfield 139, 3) := by decide +kernel
theorem dX7_readIcicle_87 : decode cX7_readIcicle 87 = .ok (.iload_n 2, 1) := by decide +kernel
theorem dX7_readIcicle_88 : decode cX7_readIcicle 88 = .ok (.aload_n 0, 1) := by decide +kernel
theorem dX7_readIcicle_89 : decode cX7_readIcicle 89 = .ok (.ldc 142, 2) := by decide +kernel
theorem dX7_readIcicle_91 : decode cX7_readIcicle 91 = .ok (.bipush 23, 2) := by decide +kernel
theorem dX7_readIcicle_93 : decode cX7_readIcicle 93 = .ok (.invokevirtual 82, 3) := by decide +kernel
theorem dX7_readIcicle_96 : decode cX7_readIcicle 96 = .ok (.iastore, 1) := by decide +kernel
theorem dX7_readIcicle_97 : decode cX7_readIcicle 97 = .ok (.aload_n 1, 1) := by decide +kernel
theorem dX7_readIcicle_98 : decode cX7_readIcicle 98 = .ok (.dup, 1) := by decide +kernel
theorem dX7_readIcicle_99 : decode cX7_readIcicle 99 = .ok (.getfield 119, 3) := by decide +kernel
theorem dX7_readIcicle_102 : decode cX7_readIcicle 102 = .ok (.iconst 1, 1) := by decide +kernel
theorem dX7_readIcicle_103 : decode cX7_readIcicle 103 = .ok (.iadd, 1) := by decide +kernel
theorem dX7_readIcicle_104 : decode cX7_readIcicle 104 = .ok (.putfield 119, 3) := by decide +kernel
theorem dX7_readIcicle_107 : decode cX7_readIcicle 107 = .ok (.return_, 1) := by decide +kernel
def vX7_readIcicle : List Cond := .code yX7_readIcicle cX7_readIcicle 3 none :: ([.fieldLink RX7 119 "IcicleClock$Street" "icicles" "I", .methodLink RX7 67 yX7_blame, .instanceMethod yX7_blame, .selects RX7 yX7_blame yX7_blame, .initialized RX7, .code yX7_blame cX7_blame 2 none, .fieldLink RX7 27 "IcicleClock$Tape" "fault" "I", .fieldLink RX7 159 "IcicleClock$Tape" "start" "I", .fieldLink RX7 15 "IcicleClock$Tape" "faultPlace" "I", .methodLink RX7 45 yX7_isWord, .instanceMethod yX7_isWord, .selects RX7 yX7_isWord yX7_isWord, .code yX7_isWord cX7_isWord 3 (some .boolean), .fieldLink RX7 36 "IcicleClock$Tape" "kind" "I", .fieldLink RX7 30 "IcicleClock$Tape" "stop" "I", .methodLink RX7 167 yJ0_length_8abf5, .instanceMethod yJ0_length_8abf5, .selects RJ0 yJ0_length_8abf5 yJ0_length_8abf5, .initialized RJ0, .code yJ0_length_8abf5 cJ0_length_8abf5 1 (some .int), .fieldLink RJ0 9 "java/lang/String" "value" "[B", .methodLink RJ0 335 yJ0_coder_7d493, .instanceMethod yJ0_coder_7d493, .selects RJ0 yJ0_coder_7d493 yJ0_coder_7d493, .code yJ0_coder_7d493 cJ0_coder_7d493 1 (some .byte), .fieldLink RJ0 38 "java/lang/String" "COMPACT_STRINGS" "Z", .fieldLink RJ0 15 "java/lang/String" "coder" "B", .fieldLink RX7 9 "IcicleClock$Tape" "bytes" "[B", .methodLink RX7 171 yJ0_charAt_5068e, .instanceMethod yJ0_charAt_5068e, .selects RJ0 yJ0_charAt_5068e yJ0_charAt_5068e, .code yJ0_charAt_5068e cJ0_charAt_5068e 2 (some .char), .methodLink RJ0 492 yJ0_isLatin1_aae02, .instanceMethod yJ0_isLatin1_aae02, .selects RJ0 yJ0_isLatin1_aae02 yJ0_isLatin1_aae02, .code yJ0_isLatin1_aae02 cJ0_isLatin1_aae02 1 (some .boolean), .methodLink RJ0 495 yJ1_charAt_3b067, .static yJ1_charAt_3b067, .initialized RJ1, .code yJ1_charAt_3b067 cJ1_charAt_3b067 2 (some .char), .methodLink RJ1 9 yJ0_checkIndex_df160, .static yJ0_checkIndex_df160, .code yJ0_checkIndex_df160 cJ0_checkIndex_df160 2 none, .fieldLink RJ0 1053 "jdk/internal/util/Preconditions" "SIOOBE_FORMATTER" "Ljava/util/function/BiFunction;", .methodLink RJ0 1059 yJ3_checkIndex_8e157, .static yJ3_checkIndex_8e157, .initialized RJ3, .code yJ3_checkIndex_8e157 cJ3_checkIndex_8e157 3 (some .int), .methodLink RX7 71 yX7_pass, .instanceMethod yX7_pass, .selects RX7 yX7_pass yX7_pass, .code yX7_pass cX7_pass 2 none, .methodLink RX7 33 yX7_advance, .instanceMethod yX7_advance, .selects RX7 yX7_advance yX7_advance, .code yX7_advance cX7_advance 2 none, .fieldLink RX7 19 "IcicleClock$Tape" "filled" "I", .methodLink RX7 175 yX7_kindOf, .static yX7_kindOf, .code yX7_kindOf cX7_kindOf 1 (some .int), .fieldLink RX7 122 "IcicleClock$Street" "eaveOf" "[I", .fieldLink RX7 112 "IcicleClock$Street" "eaves" "I", .methodLink RX7 82 yX7_numberBehind, .instanceMethod yX7_numberBehind, .selects RX7 yX7_numberBehind yX7_numberBehind, .code yX7_numberBehind cX7_numberBehind 3 (some .int), .methodLink RX7 132 yX7_passNumber, .instanceMethod yX7_passNumber, .selects RX7 yX7_passNumber yX7_passNumber, .code yX7_passNumber cX7_passNumber 4 (some .int), .methodLink RX7 155 yX7_numberHere, .instanceMethod yX7_numberHere, .selects RX7 yX7_numberHere yX7_numberHere, .code yX7_numberHere cX7_numberHere 3 (some .int), .methodLink RX7 162 Lib.Math.min.name, .static Lib.Math.min.name, .initialized "java/lang/Math", .code Lib.Math.min.name Lib.Math.min.code 2 (some .int), .fieldLink RX7 129 "IcicleClock$Street" "lengthTold" "[I", .fieldLink RX7 136 "IcicleClock$Street" "lengthHung" "[I", .fieldLink RX7 139 "IcicleClock$Street" "hourOf" "[I"] ++ wsX60 ++ wsX70)
theorem iX7_readIcicle_6 : ∀ w ∈ wsX60, w ∈ vX7_readIcicle := fun _ h => List.mem_cons_of_mem _ (List.mem_append_left _ (List.mem_append_right _ h))
theorem iX7_readIcicle_7 : ∀ w ∈ wsX70, w ∈ vX7_readIcicle := fun _ h => List.mem_cons_of_mem _ (List.mem_append_right _ h)
set_option maxRecDepth 20000 in
theorem gg_X7_readIcicle_X7_blame : GoodIn vX7_readIcicle (wsV RX7 67 RX7 yX7_blame vX7_blame) := goodIn_r _ [2, 3, 4, 5, 6, 7, 8, 9, 100, 101, 102, 103, 104, 105, 106] (by decide +kernel) (by decide +kernel)
set_option maxRecDepth 20000 in
theorem gg_X7_readIcicle_X7_isWord : GoodIn vX7_readIcicle (wsV RX7 45 RX7 yX7_isWord vX7_isWord) := goodIn_r _ [10, 11, 12, 5, 13, 14, 15, 8, 16, 17, 18, 19, 20, 21, 22, 23, 24, 25, 26, 27, 28, 29, 30, 31, 32, 33, 34, 35, 36, 37, 38, 39, 40, 41, 42, 43, 44, 45, 46, 47, 48, 100, 101, 102, 103, 104, 105, 106] (by decide +kernel) (by decide +kernel)
set_option maxRecDepth 20000 in
theorem gg_X7_readIcicle_X7_pass : GoodIn vX7_readIcicle (wsV RX7 71 RX7 yX7_pass vX7_pass) := goodIn_r _ [49, 50, 51, 5, 52, 53, 54, 55, 5, 56, 15, 8, 57, 28, 58, 59, 60, 14, 2, 3, 4, 6, 7, 9, 100, 101, 102, 103, 104, 105, 106] (by decide +kernel) (by decide +kernel)
set_option maxRecDepth 20000 in
theorem gg_X7_readIcicle_X7_numberBehind : GoodIn vX7_readIcicle (wsV RX7 82 RX7 yX7_numberBehind vX7_numberBehind) := goodIn_r _ [63, 64, 65, 5, 66, 10, 11, 12, 5, 13, 14, 15, 8, 16, 17, 18, 19, 20, 21, 22, 23, 24, 25, 26, 27, 28, 29, 30, 31, 32, 33, 34, 35, 36, 37, 38, 39, 40, 41, 42, 43, 44, 45, 46, 47, 48, 49, 50, 51, 52, 53, 54, 55, 56, 57, 58, 59, 60, 2, 3, 4, 6, 7, 9, 67, 68, 69, 70, 71, 72, 73, 74, 75, 76, 77, 78, 100, 101, 102, 103, 104, 105, 106] (by decide +kernel) (by decide +kernel)
set_option maxRecDepth 20000 in
theorem gg_X7_readIcicle_X7_passNumber : GoodIn vX7_readIcicle (wsV RX7 132 RX7 yX7_passNumber vX7_passNumber) := goodIn_r _ [67, 68, 69, 5, 70, 14, 2, 3, 4, 5, 6, 7, 8, 9, 71, 72, 73, 74, 15, 28, 75, 76, 77, 78, 53, 54, 55, 56, 57, 58, 59, 60, 100, 101, 102, 103, 104, 105, 106] (by decide +kernel) (by decide +kernel)
set_option maxHeartbeats 4000000 in
set_option maxRecDepth 100000 in
theorem s_X7_readIcicle (l : Launch) (D : va_G) (cs : Nat → ClassId) (ad : Nat → Nat) (kS : kSt) (K : sK) (hKO : KO K) (hj : wJ ad 218) (g : Nat → va_E) (hW : WF (shp ad K) ad cs g) : sV l yX7_readIcicle vX7_readIcicle { frames := 6, cells := 0, slots := 0, locals := 129 } D cs ad kS [.ref (ad 1), .ref (ad 23)] g (fun g2 => WF (shp ad K) ad cs g2 ∧ (∀ j, j ≠ 1 ∧ j ≠ 23 ∧ j ≠ 27 ∧ j ≠ 28 ∧ j ≠ 29 ∧ j ≠ 30 → g2 j = g j)) := by
  refine Met.startS (cc := cX7_readIcicle) (maxL := 3) (ret := none) RX7 rfl (by decide) rfl (Nat.le_of_ble_eq_true rfl) ?_
  intro p e s m below meth c ls X Z hP hl
  have hx := X.1
  have hb := X.2.1
  have hS : va_S (wA ad 218) s.heap s.heap [] := va_S.rf
  have hA : ∀ i, i < 218 → wA ad 218 (ad i) := fun i h => ⟨i, h, rfl⟩
  have hfr : ∀ j, j ≠ 1 ∧ j ≠ 23 ∧ j ≠ 27 ∧ j ≠ 28 ∧ j ≠ 29 ∧ j ≠ 30 → g j = g j := fun _ _ => rfl
  have hl : lv_has ls 3 [(0, .ref (ad 1)), (1, .ref (ad 23))] := hl
  refine lv_aload_n hx hb dX7_readIcicle_0 rfl (lv_at hl 1 rfl) ?_
  obtain ⟨fsc_1, hgc_1, hOc_1⟩ := hW.obj (i := 23) (by decide) (sh_23 ad K)
  obtain ⟨x_3, hk_2, hlx_3, hhx_3⟩ := hOc_1.int 5 rfl
  refine q_get X iX7_readIcicle_6 hP (by decide) hgc_1 rfl 5 (by decide) (List.mem_of_getElem? (i := 1) rfl) (v := .int x_3) hk_2 dX7_readIcicle_1 ?_
  refine lv_bipush (v := 8) hx hb dX7_readIcicle_4 (by decide) ?_
  refine lv_icmp_lt (tgt := 15) hx hb dX7_readIcicle_6 (by decide) (fun hc_4 => ?_) (fun hc_4 => ?_)
  · have hhc_4 := n_lt (rfl : x_3.toInt = x_3.toInt) (by decide : (8 : Int32).toInt = 8) hc_4
    refine lv_aload_n hx hb dX7_readIcicle_15 rfl (lv_at hl 1 rfl) ?_
    refine q_get X iX7_readIcicle_6 hP (by decide) hgc_1 rfl 5 (by decide) (List.mem_of_getElem? (i := 1) rfl) (v := .int x_3) hk_2 dX7_readIcicle_16 ?_
    refine lv_istore_n (lv' := [(2, .int x_3), (0, .ref (ad 1)), (1, .ref (ad 23))]) hx hb dX7_readIcicle_19 rfl hl (by decide) rfl (fun ls hl => ?_)
    refine lv_aload_n hx hb dX7_readIcicle_20 rfl (lv_at hl 1 rfl) ?_
    refine lv_aload_n hx hb dX7_readIcicle_21 rfl (lv_at hl 1 rfl) ?_
    refine va_ldcS hx hb X.2.2.2.2.2.1 (Z.2.1 _ (List.mem_of_getElem? (i := 9) rfl)) dX7_readIcicle_22 ?_
    obtain ⟨fsc_8, hgc_8, hOc_8⟩ := hW.obj (i := 1) (by decide) (sh_1 ad K)
    refine s_calli (q := (RX7, TX7, 7)) (As := [.ref (kS.1 9)]) (rest := [.ref (ad 1)]) X Z (s_X7_isWord l D cs ad kS K hKO hj g hW 9 (by omega)) (cwV 1 X.2.2.2.2.1 gg_X7_readIcicle_X7_isWord rfl rfl rfl (by decide +kernel) ⟨Nat.le_of_ble_eq_true rfl, Nat.le_of_ble_eq_true rfl⟩) (by decide) hgc_8 rfl hP hA hS.2.1 hS rfl hl.1 rfl (Nat.le_of_ble_eq_true rfl) dX7_readIcicle_24 ⟨Nat.le_of_ble_eq_true rfl, Nat.le_of_ble_eq_true rfl⟩ (fun r_7 g_6 H locs hw_5 hP hS => ?_)
    obtain ⟨hw_5g, hw_5⟩ := hw_5
    rw [hw_5g] at hP
    refine s_callv (q := (RX7, TX7, 7)) (As := [.int r_7]) (rest := []) X Z (s_X7_pass l D cs ad kS K hKO hj g hW r_7) (cwV 1 X.2.2.2.2.1 gg_X7_readIcicle_X7_pass rfl rfl rfl (by decide +kernel) ⟨Nat.le_of_ble_eq_true rfl, Nat.le_of_ble_eq_true rfl⟩) (by decide) hgc_8 rfl hP hA hS.2.1 hS rfl hl.1 rfl (Nat.le_of_ble_eq_true rfl) dX7_readIcicle_27 ⟨Nat.le_of_ble_eq_true rfl, Nat.le_of_ble_eq_true rfl⟩ (fun g_10 H locs hw_9 hP hS => ?_)
    obtain ⟨hw_9W, hw_9f⟩ := hw_9
    have hfr_12 : ∀ j, j ≠ 1 ∧ j ≠ 23 ∧ j ≠ 27 ∧ j ≠ 28 ∧ j ≠ 29 ∧ j ≠ 30 → g_10 j = g j := fun j hj => (hw_9f j (by omega)).trans (hfr j hj)
    have hg_13 := (hw_9f 23 (by omega)).trans hgc_1
    refine lv_aload_n hx hb dX7_readIcicle_30 rfl (lv_at hl 2 rfl) ?_
    have hk_14 := hOc_1.ref 11 rfl
    refine q_get X iX7_readIcicle_6 hP (by decide) hg_13 rfl 11 (by decide) (List.mem_of_getElem? (i := 61) rfl) (v := .ref (ad 27)) hk_14 dX7_readIcicle_31 ?_
    refine lv_iload_n hx hb dX7_readIcicle_34 rfl (lv_at hl 0 rfl) ?_
    refine lv_aload_n hx hb dX7_readIcicle_35 rfl (lv_at hl 1 rfl) ?_
    refine va_ldcS hx hb X.2.2.2.2.2.1 (Z.2.1 _ (List.mem_of_getElem? (i := 10) rfl)) dX7_readIcicle_36 ?_
    refine lv_aload_n hx hb dX7_readIcicle_38 rfl (lv_at hl 2 rfl) ?_
    obtain ⟨x_16, hk_15, hlx_16, hhx_16⟩ := hOc_1.int 4 rfl
    refine q_get X iX7_readIcicle_6 hP (by decide) hg_13 rfl 4 (by decide) (List.mem_of_getElem? (i := 62) rfl) (v := .int x_16) hk_15 dX7_readIcicle_39 ?_
    refine lv_iconst (v := 1) hx hb dX7_readIcicle_42 (by decide) ?_
    refine lv_isub hx hb dX7_readIcicle_43 ?_
    refine lv_topi (fun z_17 ez_17 => ?_)
    have hz_17 : z_17.toInt = x_16.toInt - 1 := n_sub (rfl : x_16.toInt = x_16.toInt) (by decide : (1 : Int32).toInt = 1) ez_17 (by omega) (by omega)
    obtain ⟨fsc_21, hgc_21, hOc_21⟩ := hw_9W.obj (i := 1) (by decide) (sh_1 ad K)
    refine s_calli (q := (RX7, TX7, 7)) (As := [.ref (kS.1 10), .int z_17]) (rest := [.int x_3, .ref (ad 27)]) X Z (s_X7_numberBehind l D cs ad kS K hKO hj g_10 hw_9W 10 z_17 (by omega)) (cwV 2 X.2.2.2.2.1 gg_X7_readIcicle_X7_numberBehind rfl rfl rfl (by decide +kernel) ⟨Nat.le_of_ble_eq_true rfl, Nat.le_of_ble_eq_true rfl⟩) (by decide) hgc_21 rfl hP hA hS.2.1 hS rfl hl.1 rfl (Nat.le_of_ble_eq_true rfl) dX7_readIcicle_44 ⟨Nat.le_of_ble_eq_true rfl, Nat.le_of_ble_eq_true rfl⟩ (fun r_20 g_19 H locs hw_18 hP hS => ?_)
    obtain ⟨hw_18W, hw_18f, hw_18⟩ := hw_18
    have hfr_22 : ∀ j, j ≠ 1 ∧ j ≠ 23 ∧ j ≠ 27 ∧ j ≠ 28 ∧ j ≠ 29 ∧ j ≠ 30 → g_19 j = g j := fun j hj => (hw_18f j (by omega)).trans (hfr_12 j hj)
    have hg_23 := (hw_18f 23 (by omega)).trans hg_13
    obtain ⟨fc_24, hgc_24, hFc_24⟩ := hw_18W.arr (i := 27) (by decide) (sh_27 ad K)
    refine s_iast X hP hj hA hS (by decide) hgc_24 (n_in (rfl : x_3.toInt = x_3.toInt) (by omega) (by omega)) dX7_readIcicle_47 hw_18W (sh_27 ad K) (hFc_24.put ⟨by omega, by omega⟩) (fun fc_25 gc_25 H locs ec_25 hFc_25 hgc_25 hfc_25 hWc_25 hP hS => ?_)
    have hg_27 := (hfc_25 23 (by decide)).trans hg_23
    have hfr_26 : ∀ j, j ≠ 1 ∧ j ≠ 23 ∧ j ≠ 27 ∧ j ≠ 28 ∧ j ≠ 29 ∧ j ≠ 30 → gc_25 j = g j := fun j hj => (hfc_25 j (by omega)).trans (hfr_22 j hj)
    refine lv_aload_n hx hb dX7_readIcicle_48 rfl (lv_at hl 1 rfl) ?_
    refine lv_aload_n hx hb dX7_readIcicle_49 rfl (lv_at hl 1 rfl) ?_
    refine va_ldcS hx hb X.2.2.2.2.2.1 (Z.2.1 _ (List.mem_of_getElem? (i := 11) rfl)) dX7_readIcicle_50 ?_
    obtain ⟨fsc_31, hgc_31, hOc_31⟩ := hWc_25.obj (i := 1) (by decide) (sh_1 ad K)
    refine s_calli (q := (RX7, TX7, 7)) (As := [.ref (kS.1 11)]) (rest := [.ref (ad 1)]) X Z (s_X7_isWord l D cs ad kS K hKO hj gc_25 hWc_25 11 (by omega)) (cwV 1 X.2.2.2.2.1 gg_X7_readIcicle_X7_isWord rfl rfl rfl (by decide +kernel) ⟨Nat.le_of_ble_eq_true rfl, Nat.le_of_ble_eq_true rfl⟩) (by decide) hgc_31 rfl hP hA hS.2.1 hS rfl hl.1 rfl (Nat.le_of_ble_eq_true rfl) dX7_readIcicle_52 ⟨Nat.le_of_ble_eq_true rfl, Nat.le_of_ble_eq_true rfl⟩ (fun r_30 g_29 H locs hw_28 hP hS => ?_)
    obtain ⟨hw_28g, hw_28⟩ := hw_28
    rw [hw_28g] at hP
    refine s_callv (q := (RX7, TX7, 7)) (As := [.int r_30]) (rest := []) X Z (s_X7_pass l D cs ad kS K hKO hj gc_25 hWc_25 r_30) (cwV 1 X.2.2.2.2.1 gg_X7_readIcicle_X7_pass rfl rfl rfl (by decide +kernel) ⟨Nat.le_of_ble_eq_true rfl, Nat.le_of_ble_eq_true rfl⟩) (by decide) hgc_31 rfl hP hA hS.2.1 hS rfl hl.1 rfl (Nat.le_of_ble_eq_true rfl) dX7_readIcicle_55 ⟨Nat.le_of_ble_eq_true rfl, Nat.le_of_ble_eq_true rfl⟩ (fun g_33 H locs hw_32 hP hS => ?_)
    obtain ⟨hw_32W, hw_32f⟩ := hw_32
    have hfr_35 : ∀ j, j ≠ 1 ∧ j ≠ 23 ∧ j ≠ 27 ∧ j ≠ 28 ∧ j ≠ 29 ∧ j ≠ 30 → g_33 j = g j := fun j hj => (hw_32f j (by omega)).trans (hfr_26 j hj)
    have hg_36 := (hw_32f 23 (by omega)).trans hg_27
    have hg_37 := (hw_32f 27 (by omega)).trans hgc_25
    refine lv_aload_n hx hb dX7_readIcicle_58 rfl (lv_at hl 2 rfl) ?_
    have hk_38 := hOc_1.ref 12 rfl
    refine q_get X iX7_readIcicle_6 hP (by decide) hg_36 rfl 12 (by decide) (List.mem_of_getElem? (i := 79) rfl) (v := .ref (ad 28)) hk_38 dX7_readIcicle_59 ?_
    refine lv_iload_n hx hb dX7_readIcicle_62 rfl (lv_at hl 0 rfl) ?_
    refine lv_aload_n hx hb dX7_readIcicle_63 rfl (lv_at hl 1 rfl) ?_
    refine lv_iconst (v := 1) hx hb dX7_readIcicle_64 (by decide) ?_
    refine lv_bipush (v := 99) hx hb dX7_readIcicle_65 (by decide) ?_
    have hqk_39 : (1 : Int32).toInt = 1 := by decide
    obtain ⟨fsc_43, hgc_43, hOc_43⟩ := hw_32W.obj (i := 1) (by decide) (sh_1 ad K)
    refine s_calli (q := (RX7, TX7, 7)) (As := [.int 1, .int 99]) (rest := [.int x_3, .ref (ad 28)]) X Z (s_X7_passNumber l D cs ad kS K hKO hj g_33 hw_32W 1 99 (by omega)) (cwV 2 X.2.2.2.2.1 gg_X7_readIcicle_X7_passNumber rfl rfl rfl (by decide +kernel) ⟨Nat.le_of_ble_eq_true rfl, Nat.le_of_ble_eq_true rfl⟩) (by decide) hgc_43 rfl hP hA hS.2.1 hS rfl hl.1 rfl (Nat.le_of_ble_eq_true rfl) dX7_readIcicle_67 ⟨Nat.le_of_ble_eq_true rfl, Nat.le_of_ble_eq_true rfl⟩ (fun r_42 g_41 H locs hw_40 hP hS => ?_)
    obtain ⟨hw_40W, hw_40f, hw_40⟩ := hw_40
    have hfr_44 : ∀ j, j ≠ 1 ∧ j ≠ 23 ∧ j ≠ 27 ∧ j ≠ 28 ∧ j ≠ 29 ∧ j ≠ 30 → g_41 j = g j := fun j hj => (hw_40f j (by omega)).trans (hfr_35 j hj)
    have hg_45 := (hw_40f 23 (by omega)).trans hg_36
    have hg_46 := (hw_40f 27 (by omega)).trans hg_37
    have hqk_47 : (99 : Int32).toInt = 99 := by decide
    obtain ⟨fc_48, hgc_48, hFc_48⟩ := hw_40W.arr (i := 28) (by decide) (sh_28 ad K)
    refine s_iast X hP hj hA hS (by decide) hgc_48 (n_in (rfl : x_3.toInt = x_3.toInt) (by omega) (by omega)) dX7_readIcicle_70 hw_40W (sh_28 ad K) (hFc_48.put trivial) (fun fc_49 gc_49 H locs ec_49 hFc_49 hgc_49 hfc_49 hWc_49 hP hS => ?_)
    have hg_51 := (hfc_49 23 (by decide)).trans hg_45
    have hg_52 := (hfc_49 27 (by decide)).trans hg_46
    have hfr_50 : ∀ j, j ≠ 1 ∧ j ≠ 23 ∧ j ≠ 27 ∧ j ≠ 28 ∧ j ≠ 29 ∧ j ≠ 30 → gc_49 j = g j := fun j hj => (hfc_49 j (by omega)).trans (hfr_44 j hj)
    refine lv_aload_n hx hb dX7_readIcicle_71 rfl (lv_at hl 2 rfl) ?_
    have hk_53 := hOc_1.ref 13 rfl
    refine q_get X iX7_readIcicle_6 hP (by decide) hg_51 rfl 13 (by decide) (List.mem_of_getElem? (i := 80) rfl) (v := .ref (ad 29)) hk_53 dX7_readIcicle_72 ?_
    refine lv_iload_n hx hb dX7_readIcicle_75 rfl (lv_at hl 0 rfl) ?_
    refine lv_aload_n hx hb dX7_readIcicle_76 rfl (lv_at hl 2 rfl) ?_
    refine q_get X iX7_readIcicle_6 hP (by decide) hg_51 rfl 12 (by decide) (List.mem_of_getElem? (i := 79) rfl) (v := .ref (ad 28)) hk_38 dX7_readIcicle_77 ?_
    refine lv_iload_n hx hb dX7_readIcicle_80 rfl (lv_at hl 0 rfl) ?_
    refine q_iald X hP (by decide) hgc_49 (n_in (rfl : x_3.toInt = x_3.toInt) (by omega) (by omega)) dX7_readIcicle_81 ?_
    refine lv_topi (fun z_54 ez_54 => ?_)
    obtain ⟨fc_55, hgc_55, hFc_55⟩ := hWc_49.arr (i := 29) (by decide) (sh_29 ad K)
    refine s_iast X hP hj hA hS (by decide) hgc_55 (n_in (rfl : x_3.toInt = x_3.toInt) (by omega) (by omega)) dX7_readIcicle_82 hWc_49 (sh_29 ad K) (hFc_55.put trivial) (fun fc_56 gc_56 H locs ec_56 hFc_56 hgc_56 hfc_56 hWc_56 hP hS => ?_)
    have hg_58 := (hfc_56 23 (by decide)).trans hg_51
    have hg_59 := (hfc_56 27 (by decide)).trans hg_52
    have hg_60 := (hfc_56 28 (by decide)).trans hgc_49
    have hfr_57 : ∀ j, j ≠ 1 ∧ j ≠ 23 ∧ j ≠ 27 ∧ j ≠ 28 ∧ j ≠ 29 ∧ j ≠ 30 → gc_56 j = g j := fun j hj => (hfc_56 j (by omega)).trans (hfr_50 j hj)
    refine lv_aload_n hx hb dX7_readIcicle_83 rfl (lv_at hl 2 rfl) ?_
    have hk_61 := hOc_1.ref 14 rfl
    refine q_get X iX7_readIcicle_6 hP (by decide) hg_58 rfl 14 (by decide) (List.mem_of_getElem? (i := 81) rfl) (v := .ref (ad 30)) hk_61 dX7_readIcicle_84 ?_
    refine lv_iload_n hx hb dX7_readIcicle_87 rfl (lv_at hl 0 rfl) ?_
    refine lv_aload_n hx hb dX7_readIcicle_88 rfl (lv_at hl 1 rfl) ?_
    refine va_ldcS hx hb X.2.2.2.2.2.1 (Z.2.1 _ (List.mem_of_getElem? (i := 12) rfl)) dX7_readIcicle_89 ?_
    refine lv_bipush (v := 23) hx hb dX7_readIcicle_91 (by decide) ?_
    obtain ⟨fsc_65, hgc_65, hOc_65⟩ := hWc_56.obj (i := 1) (by decide) (sh_1 ad K)
    refine s_calli (q := (RX7, TX7, 7)) (As := [.ref (kS.1 12), .int 23]) (rest := [.int x_3, .ref (ad 30)]) X Z (s_X7_numberBehind l D cs ad kS K hKO hj gc_56 hWc_56 12 23 (by omega)) (cwV 2 X.2.2.2.2.1 gg_X7_readIcicle_X7_numberBehind rfl rfl rfl (by decide +kernel) ⟨Nat.le_of_ble_eq_true rfl, Nat.le_of_ble_eq_true rfl⟩) (by decide) hgc_65 rfl hP hA hS.2.1 hS rfl hl.1 rfl (Nat.le_of_ble_eq_true rfl) dX7_readIcicle_93 ⟨Nat.le_of_ble_eq_true rfl, Nat.le_of_ble_eq_true rfl⟩ (fun r_64 g_63 H locs hw_62 hP hS => ?_)
    obtain ⟨hw_62W, hw_62f, hw_62⟩ := hw_62
    have hfr_66 : ∀ j, j ≠ 1 ∧ j ≠ 23 ∧ j ≠ 27 ∧ j ≠ 28 ∧ j ≠ 29 ∧ j ≠ 30 → g_63 j = g j := fun j hj => (hw_62f j (by omega)).trans (hfr_57 j hj)
    have hg_67 := (hw_62f 23 (by omega)).trans hg_58
    have hg_68 := (hw_62f 27 (by omega)).trans hg_59
    have hg_69 := (hw_62f 28 (by omega)).trans hg_60
    have hg_70 := (hw_62f 29 (by omega)).trans hgc_56
    have hqk_71 : (23 : Int32).toInt = 23 := by decide
    obtain ⟨fc_72, hgc_72, hFc_72⟩ := hw_62W.arr (i := 30) (by decide) (sh_30 ad K)
    refine s_iast X hP hj hA hS (by decide) hgc_72 (n_in (rfl : x_3.toInt = x_3.toInt) (by omega) (by omega)) dX7_readIcicle_96 hw_62W (sh_30 ad K) (hFc_72.put trivial) (fun fc_73 gc_73 H locs ec_73 hFc_73 hgc_73 hfc_73 hWc_73 hP hS => ?_)
    have hg_75 := (hfc_73 23 (by decide)).trans hg_67
    have hg_76 := (hfc_73 27 (by decide)).trans hg_68
    have hg_77 := (hfc_73 28 (by decide)).trans hg_69
    have hg_78 := (hfc_73 29 (by decide)).trans hg_70
    have hfr_74 : ∀ j, j ≠ 1 ∧ j ≠ 23 ∧ j ≠ 27 ∧ j ≠ 28 ∧ j ≠ 29 ∧ j ≠ 30 → gc_73 j = g j := fun j hj => (hfc_73 j (by omega)).trans (hfr_66 j hj)
    refine lv_aload_n hx hb dX7_readIcicle_97 rfl (lv_at hl 2 rfl) ?_
    refine lv_dup hx hb dX7_readIcicle_98 rfl ?_
    refine q_get X iX7_readIcicle_6 hP (by decide) hg_75 rfl 5 (by decide) (List.mem_of_getElem? (i := 1) rfl) (v := .int x_3) hk_2 dX7_readIcicle_99 ?_
    refine lv_iconst (v := 1) hx hb dX7_readIcicle_102 (by decide) ?_
    refine lv_iadd hx hb dX7_readIcicle_103 ?_
    refine lv_topi (fun z_79 ez_79 => ?_)
    have hz_79 : z_79.toInt = x_3.toInt + 1 := n_add (rfl : x_3.toInt = x_3.toInt) (by decide : (1 : Int32).toInt = 1) ez_79 (by omega) (by omega)
    refine s_put X iX7_readIcicle_6 tyX6 tyX6_ok nmX6 hP hj hA hS (by decide) hg_75 rfl 5 (by decide) (List.mem_of_getElem? (i := 1) rfl) rfl (ty := .int) (v := .int z_79) (by decide +kernel) rfl rfl dX7_readIcicle_104 hWc_73 (sh_23 ad K) hOc_1 rfl ⟨z_79, rfl, by omega, by omega⟩ (fun fsc_80 gc_80 H locs hOc_80 hkc_80 hnc_80 hgc_80 hfc_80 hWc_80 hP hS => ?_)
    have hk_81 := (hnc_80 11 (by decide)).trans hk_14
    have hk_82 := (hnc_80 4 (by decide)).trans hk_15
    have hk_83 := (hnc_80 12 (by decide)).trans hk_38
    have hk_84 := (hnc_80 13 (by decide)).trans hk_53
    have hk_85 := (hnc_80 14 (by decide)).trans hk_61
    have hg_87 := (hfc_80 27 (by decide)).trans hg_76
    have hg_88 := (hfc_80 28 (by decide)).trans hg_77
    have hg_89 := (hfc_80 29 (by decide)).trans hg_78
    have hg_90 := (hfc_80 30 (by decide)).trans hgc_73
    have hfr_86 : ∀ j, j ≠ 1 ∧ j ≠ 23 ∧ j ≠ 27 ∧ j ≠ 28 ∧ j ≠ 29 ∧ j ≠ 30 → gc_80 j = g j := fun j hj => (hfc_80 j (by omega)).trans (hfr_74 j hj)
    exact q_vret X hP hS ⟨hWc_80, hfr_86⟩ dX7_readIcicle_107
  · have hhc_4 := n_nlt (rfl : x_3.toInt = x_3.toInt) (by decide : (8 : Int32).toInt = 8) hc_4
    refine lv_aload_n hx hb dX7_readIcicle_9 rfl (lv_at hl 0 rfl) ?_
    refine lv_iconst (v := 3) hx hb dX7_readIcicle_10 (by decide) ?_
    obtain ⟨fsc_94, hgc_94, hOc_94⟩ := hW.obj (i := 1) (by decide) (sh_1 ad K)
    refine s_callv (q := (RX7, TX7, 7)) (As := [.int 3]) (rest := []) X Z (s_X7_blame l D cs ad kS K hKO hj g hW 3) (cwV 1 X.2.2.2.2.1 gg_X7_readIcicle_X7_blame rfl rfl rfl (by decide +kernel) ⟨Nat.le_of_ble_eq_true rfl, Nat.le_of_ble_eq_true rfl⟩) (by decide) hgc_94 rfl hP hA hS.2.1 hS rfl hl.1 rfl (Nat.le_of_ble_eq_true rfl) dX7_readIcicle_11 ⟨Nat.le_of_ble_eq_true rfl, Nat.le_of_ble_eq_true rfl⟩ (fun g_92 H locs hw_91 hP hS => ?_)
    obtain ⟨hw_91W, hw_91f⟩ := hw_91
    have hfr_95 : ∀ j, j ≠ 1 ∧ j ≠ 23 ∧ j ≠ 27 ∧ j ≠ 28 ∧ j ≠ 29 ∧ j ≠ 30 → g_92 j = g j := fun j hj => (hw_91f j (by omega)).trans (hfr j hj)
    have hg_96 := (hw_91f 23 (by omega)).trans hgc_1
    exact q_vret X hP hS ⟨hw_91W, hfr_95⟩ dX7_readIcicle_14

theorem dX7_readDue_0 : decode cX7_readDue 0 = .ok (.aload_n 1, 1) := by decide +kernel
theorem dX7_readDue_1 : decode cX7_readDue 1 = .ok (.getfield 144, 3) := by decide +kernel
theorem dX7_readDue_4 : decode cX7_readDue 4 = .ok (.bipush 6, 2) := by decide +kernel
theorem dX7_readDue_6 : decode cX7_readDue 6 = .ok (.if_icmp .lt 9, 3) := by decide +kernel
theorem dX7_readDue_9 : decode cX7_readDue 9 = .ok (.aload_n 0, 1) := by decide +kernel
theorem dX7_readDue_10 : decode cX7_readDue 10 = .ok (.iconst 3, 1) := by decide +kernel
theorem dX7_readDue_11 : decode cX7_readDue 11 = .ok (.invokevirtual 67, 3) := by decide +kernel
theorem dX7_readDue_14 : decode cX7_readDue 14 = .ok (.return_, 1) := by decide +kernel
theorem dX7_readDue_15 : decode cX7_readDue 15 = .ok (.aload_n 0, 1) := by decide +kernel
theorem dX7_readDue_16 : decode cX7_readDue 16 = .ok (.aload_n 0, 1) := by decide +kernel
theorem dX7_readDue_17 : decode cX7_readDue 17 = .ok (.ldc 62, 2) := by decide +kernel
theorem dX7_readDue_19 : decode cX7_readDue 19 = .ok (.invokevirtual 45, 3) := by decide +kernel
theorem dX7_readDue_22 : decode cX7_readDue 22 = .ok (.invokevirtual 71, 3) := by decide +kernel
theorem dX7_readDue_25 : decode cX7_readDue 25 = .ok (.aload_n 1, 1) := by decide +kernel
theorem dX7_readDue_26 : decode cX7_readDue 26 = .ok (.getfield 147, 3) := by decide +kernel
theorem dX7_readDue_29 : decode cX7_readDue 29 = .ok (.aload_n 1, 1) := by decide +kernel
theorem dX7_readDue_30 : decode cX7_readDue 30 = .ok (.getfield 144, 3) := by decide +kernel
theorem dX7_readDue_33 : decode cX7_readDue 33 = .ok (.aload_n 0, 1) := by decide +kernel
theorem dX7_readDue_34 : decode cX7_readDue 34 = .ok (.ldc 142, 2) := by decide +kernel
theorem dX7_readDue_36 : decode cX7_readDue 36 = .ok (.bipush 23, 2) := by decide +kernel
theorem dX7_readDue_38 : decode cX7_readDue 38 = .ok (.invokevirtual 82, 3) := by decide +kernel
theorem dX7_readDue_41 : decode cX7_readDue 41 = .ok (.iastore, 1) := by decide +kernel
theorem dX7_readDue_42 : decode cX7_readDue 42 = .ok (.aload_n 1, 1) := by decide +kernel
theorem dX7_readDue_43 : decode cX7_readDue 43 = .ok (.getfield 150, 3) := by decide +kernel
theorem dX7_readDue_46 : decode cX7_readDue 46 = .ok (.aload_n 1, 1) := by decide +kernel
theorem dX7_readDue_47 : decode cX7_readDue 47 = .ok (.getfield 144, 3) := by decide +kernel
theorem dX7_readDue_50 : decode cX7_readDue 50 = .ok (.aload_n 0, 1) := by decide +kernel
theorem dX7_readDue_51 : decode cX7_readDue 51 = .ok (.ldc 153, 2) := by decide +kernel
theorem dX7_readDue_53 : decode cX7_readDue 53 = .ok (.aload_n 1, 1) := by decide +kernel
theorem dX7_readDue_54 : decode cX7_readDue 54 = .ok (.getfield 98, 3) := by decide +kernel
theorem dX7_readDue_57 : decode cX7_readDue 57 = .ok (.iconst 1, 1) := by decide +kernel
theorem dX7_readDue_58 : decode cX7_readDue 58 = .ok (.isub, 1) := by decide +kernel
theorem dX7_readDue_59 : decode cX7_readDue 59 = .ok (.invokevirtual 82, 3) := by decide +kernel
theorem dX7_readDue_62 : decode cX7_readDue 62 = .ok (.iastore, 1) := by decide +kernel
theorem dX7_readDue_63 : decode cX7_readDue 63 = .ok (.aload_n 1, 1) := by decide +kernel
theorem dX7_readDue_64 : decode cX7_readDue 64 = .ok (.dup, 1) := by decide +kernel
theorem dX7_readDue_65 : decode cX7_readDue 65 = .ok (.getfield 144, 3) := by decide +kernel
theorem dX7_readDue_68 : decode cX7_readDue 68 = .ok (.iconst 1, 1) := by decide +kernel
theorem dX7_readDue_69 : decode cX7_readDue 69 = .ok (.iadd, 1) := by decide +kernel
theorem dX7_readDue_70 : decode cX7_readDue 70 = .ok (.putfield 144, 3) := by decide +kernel
theorem dX7_readDue_73 : decode cX7_readDue 73 = .ok (.return_, 1) := by decide +kernel
def vX7_readDue : List Cond := .code yX7_readDue cX7_readDue 2 none :: ([.fieldLink RX7 144 "IcicleClock$Street" "works" "I", .methodLink RX7 67 yX7_blame, .instanceMethod yX7_blame, .selects RX7 yX7_blame yX7_blame, .initialized RX7, .code yX7_blame cX7_blame 2 none, .fieldLink RX7 27 "IcicleClock$Tape" "fault" "I", .fieldLink RX7 159 "IcicleClock$Tape" "start" "I", .fieldLink RX7 15 "IcicleClock$Tape" "faultPlace" "I", .methodLink RX7 45 yX7_isWord, .instanceMethod yX7_isWord, .selects RX7 yX7_isWord yX7_isWord, .code yX7_isWord cX7_isWord 3 (some .boolean), .fieldLink RX7 36 "IcicleClock$Tape" "kind" "I", .fieldLink RX7 30 "IcicleClock$Tape" "stop" "I", .methodLink RX7 167 yJ0_length_8abf5, .instanceMethod yJ0_length_8abf5, .selects RJ0 yJ0_length_8abf5 yJ0_length_8abf5, .initialized RJ0, .code yJ0_length_8abf5 cJ0_length_8abf5 1 (some .int), .fieldLink RJ0 9 "java/lang/String" "value" "[B", .methodLink RJ0 335 yJ0_coder_7d493, .instanceMethod yJ0_coder_7d493, .selects RJ0 yJ0_coder_7d493 yJ0_coder_7d493, .code yJ0_coder_7d493 cJ0_coder_7d493 1 (some .byte), .fieldLink RJ0 38 "java/lang/String" "COMPACT_STRINGS" "Z", .fieldLink RJ0 15 "java/lang/String" "coder" "B", .fieldLink RX7 9 "IcicleClock$Tape" "bytes" "[B", .methodLink RX7 171 yJ0_charAt_5068e, .instanceMethod yJ0_charAt_5068e, .selects RJ0 yJ0_charAt_5068e yJ0_charAt_5068e, .code yJ0_charAt_5068e cJ0_charAt_5068e 2 (some .char), .methodLink RJ0 492 yJ0_isLatin1_aae02, .instanceMethod yJ0_isLatin1_aae02, .selects RJ0 yJ0_isLatin1_aae02 yJ0_isLatin1_aae02, .code yJ0_isLatin1_aae02 cJ0_isLatin1_aae02 1 (some .boolean), .methodLink RJ0 495 yJ1_charAt_3b067, .static yJ1_charAt_3b067, .initialized RJ1, .code yJ1_charAt_3b067 cJ1_charAt_3b067 2 (some .char), .methodLink RJ1 9 yJ0_checkIndex_df160, .static yJ0_checkIndex_df160, .code yJ0_checkIndex_df160 cJ0_checkIndex_df160 2 none, .fieldLink RJ0 1053 "jdk/internal/util/Preconditions" "SIOOBE_FORMATTER" "Ljava/util/function/BiFunction;", .methodLink RJ0 1059 yJ3_checkIndex_8e157, .static yJ3_checkIndex_8e157, .initialized RJ3, .code yJ3_checkIndex_8e157 cJ3_checkIndex_8e157 3 (some .int), .methodLink RX7 71 yX7_pass, .instanceMethod yX7_pass, .selects RX7 yX7_pass yX7_pass, .code yX7_pass cX7_pass 2 none, .methodLink RX7 33 yX7_advance, .instanceMethod yX7_advance, .selects RX7 yX7_advance yX7_advance, .code yX7_advance cX7_advance 2 none, .fieldLink RX7 19 "IcicleClock$Tape" "filled" "I", .methodLink RX7 175 yX7_kindOf, .static yX7_kindOf, .code yX7_kindOf cX7_kindOf 1 (some .int), .fieldLink RX7 147 "IcicleClock$Street" "dueHour" "[I", .methodLink RX7 82 yX7_numberBehind, .instanceMethod yX7_numberBehind, .selects RX7 yX7_numberBehind yX7_numberBehind, .code yX7_numberBehind cX7_numberBehind 3 (some .int), .methodLink RX7 132 yX7_passNumber, .instanceMethod yX7_passNumber, .selects RX7 yX7_passNumber yX7_passNumber, .code yX7_passNumber cX7_passNumber 4 (some .int), .methodLink RX7 155 yX7_numberHere, .instanceMethod yX7_numberHere, .selects RX7 yX7_numberHere yX7_numberHere, .code yX7_numberHere cX7_numberHere 3 (some .int), .methodLink RX7 162 Lib.Math.min.name, .static Lib.Math.min.name, .initialized "java/lang/Math", .code Lib.Math.min.name Lib.Math.min.code 2 (some .int), .fieldLink RX7 150 "IcicleClock$Street" "dueDay" "[I", .fieldLink RX7 98 "IcicleClock$Street" "days" "I"] ++ wsX60 ++ wsX70)
theorem iX7_readDue_6 : ∀ w ∈ wsX60, w ∈ vX7_readDue := fun _ h => List.mem_cons_of_mem _ (List.mem_append_left _ (List.mem_append_right _ h))
theorem iX7_readDue_7 : ∀ w ∈ wsX70, w ∈ vX7_readDue := fun _ h => List.mem_cons_of_mem _ (List.mem_append_right _ h)
set_option maxRecDepth 20000 in
theorem gg_X7_readDue_X7_blame : GoodIn vX7_readDue (wsV RX7 67 RX7 yX7_blame vX7_blame) := goodIn_r _ [2, 3, 4, 5, 6, 7, 8, 9, 98, 99, 100, 101, 102, 103, 104] (by decide +kernel) (by decide +kernel)
set_option maxRecDepth 20000 in
theorem gg_X7_readDue_X7_isWord : GoodIn vX7_readDue (wsV RX7 45 RX7 yX7_isWord vX7_isWord) := goodIn_r _ [10, 11, 12, 5, 13, 14, 15, 8, 16, 17, 18, 19, 20, 21, 22, 23, 24, 25, 26, 27, 28, 29, 30, 31, 32, 33, 34, 35, 36, 37, 38, 39, 40, 41, 42, 43, 44, 45, 46, 47, 48, 98, 99, 100, 101, 102, 103, 104] (by decide +kernel) (by decide +kernel)
set_option maxRecDepth 20000 in
theorem gg_X7_readDue_X7_pass : GoodIn vX7_readDue (wsV RX7 71 RX7 yX7_pass vX7_pass) := goodIn_r _ [49, 50, 51, 5, 52, 53, 54, 55, 5, 56, 15, 8, 57, 28, 58, 59, 60, 14, 2, 3, 4, 6, 7, 9, 98, 99, 100, 101, 102, 103, 104] (by decide +kernel) (by decide +kernel)
set_option maxRecDepth 20000 in
theorem gg_X7_readDue_X7_numberBehind : GoodIn vX7_readDue (wsV RX7 82 RX7 yX7_numberBehind vX7_numberBehind) := goodIn_r _ [62, 63, 64, 5, 65, 10, 11, 12, 5, 13, 14, 15, 8, 16, 17, 18, 19, 20, 21, 22, 23, 24, 25, 26, 27, 28, 29, 30, 31, 32, 33, 34, 35, 36, 37, 38, 39, 40, 41, 42, 43, 44, 45, 46, 47, 48, 49, 50, 51, 52, 53, 54, 55, 56, 57, 58, 59, 60, 2, 3, 4, 6, 7, 9, 66, 67, 68, 69, 70, 71, 72, 73, 74, 75, 76, 77, 98, 99, 100, 101, 102, 103, 104] (by decide +kernel) (by decide +kernel)
set_option maxHeartbeats 4000000 in
set_option maxRecDepth 100000 in
theorem s_X7_readDue (l : Launch) (D : va_G) (cs : Nat → ClassId) (ad : Nat → Nat) (kS : kSt) (K : sK) (hKO : KO K) (hj : wJ ad 218) (g : Nat → va_E) (hW : WF (shp ad K) ad cs g) : sV l yX7_readDue vX7_readDue { frames := 6, cells := 0, slots := 0, locals := 129 } D cs ad kS [.ref (ad 1), .ref (ad 23)] g (fun g2 => WF (shp ad K) ad cs g2 ∧ (∀ j, j ≠ 1 ∧ j ≠ 23 ∧ j ≠ 31 ∧ j ≠ 32 → g2 j = g j)) := by
  refine Met.startS (cc := cX7_readDue) (maxL := 2) (ret := none) RX7 rfl (by decide) rfl (Nat.le_of_ble_eq_true rfl) ?_
  intro p e s m below meth c ls X Z hP hl
  have hx := X.1
  have hb := X.2.1
  have hS : va_S (wA ad 218) s.heap s.heap [] := va_S.rf
  have hA : ∀ i, i < 218 → wA ad 218 (ad i) := fun i h => ⟨i, h, rfl⟩
  have hfr : ∀ j, j ≠ 1 ∧ j ≠ 23 ∧ j ≠ 31 ∧ j ≠ 32 → g j = g j := fun _ _ => rfl
  have hl : lv_has ls 2 [(0, .ref (ad 1)), (1, .ref (ad 23))] := hl
  refine lv_aload_n hx hb dX7_readDue_0 rfl (lv_at hl 1 rfl) ?_
  obtain ⟨fsc_1, hgc_1, hOc_1⟩ := hW.obj (i := 23) (by decide) (sh_23 ad K)
  obtain ⟨x_3, hk_2, hlx_3, hhx_3⟩ := hOc_1.int 6 rfl
  refine q_get X iX7_readDue_6 hP (by decide) hgc_1 rfl 6 (by decide) (List.mem_of_getElem? (i := 1) rfl) (v := .int x_3) hk_2 dX7_readDue_1 ?_
  refine lv_bipush (v := 6) hx hb dX7_readDue_4 (by decide) ?_
  refine lv_icmp_lt (tgt := 15) hx hb dX7_readDue_6 (by decide) (fun hc_4 => ?_) (fun hc_4 => ?_)
  · have hhc_4 := n_lt (rfl : x_3.toInt = x_3.toInt) (by decide : (6 : Int32).toInt = 6) hc_4
    refine lv_aload_n hx hb dX7_readDue_15 rfl (lv_at hl 0 rfl) ?_
    refine lv_aload_n hx hb dX7_readDue_16 rfl (lv_at hl 0 rfl) ?_
    refine va_ldcS hx hb X.2.2.2.2.2.1 (Z.2.1 _ (List.mem_of_getElem? (i := 13) rfl)) dX7_readDue_17 ?_
    obtain ⟨fsc_8, hgc_8, hOc_8⟩ := hW.obj (i := 1) (by decide) (sh_1 ad K)
    refine s_calli (q := (RX7, TX7, 7)) (As := [.ref (kS.1 13)]) (rest := [.ref (ad 1)]) X Z (s_X7_isWord l D cs ad kS K hKO hj g hW 13 (by omega)) (cwV 1 X.2.2.2.2.1 gg_X7_readDue_X7_isWord rfl rfl rfl (by decide +kernel) ⟨Nat.le_of_ble_eq_true rfl, Nat.le_of_ble_eq_true rfl⟩) (by decide) hgc_8 rfl hP hA hS.2.1 hS rfl hl.1 rfl (Nat.le_of_ble_eq_true rfl) dX7_readDue_19 ⟨Nat.le_of_ble_eq_true rfl, Nat.le_of_ble_eq_true rfl⟩ (fun r_7 g_6 H locs hw_5 hP hS => ?_)
    obtain ⟨hw_5g, hw_5⟩ := hw_5
    rw [hw_5g] at hP
    refine s_callv (q := (RX7, TX7, 7)) (As := [.int r_7]) (rest := []) X Z (s_X7_pass l D cs ad kS K hKO hj g hW r_7) (cwV 1 X.2.2.2.2.1 gg_X7_readDue_X7_pass rfl rfl rfl (by decide +kernel) ⟨Nat.le_of_ble_eq_true rfl, Nat.le_of_ble_eq_true rfl⟩) (by decide) hgc_8 rfl hP hA hS.2.1 hS rfl hl.1 rfl (Nat.le_of_ble_eq_true rfl) dX7_readDue_22 ⟨Nat.le_of_ble_eq_true rfl, Nat.le_of_ble_eq_true rfl⟩ (fun g_10 H locs hw_9 hP hS => ?_)
    obtain ⟨hw_9W, hw_9f⟩ := hw_9
    have hfr_12 : ∀ j, j ≠ 1 ∧ j ≠ 23 ∧ j ≠ 31 ∧ j ≠ 32 → g_10 j = g j := fun j hj => (hw_9f j (by omega)).trans (hfr j hj)
    have hg_13 := (hw_9f 23 (by omega)).trans hgc_1
    refine lv_aload_n hx hb dX7_readDue_25 rfl (lv_at hl 1 rfl) ?_
    have hk_14 := hOc_1.ref 15 rfl
    refine q_get X iX7_readDue_6 hP (by decide) hg_13 rfl 15 (by decide) (List.mem_of_getElem? (i := 61) rfl) (v := .ref (ad 31)) hk_14 dX7_readDue_26 ?_
    refine lv_aload_n hx hb dX7_readDue_29 rfl (lv_at hl 1 rfl) ?_
    refine q_get X iX7_readDue_6 hP (by decide) hg_13 rfl 6 (by decide) (List.mem_of_getElem? (i := 1) rfl) (v := .int x_3) hk_2 dX7_readDue_30 ?_
    refine lv_aload_n hx hb dX7_readDue_33 rfl (lv_at hl 0 rfl) ?_
    refine va_ldcS hx hb X.2.2.2.2.2.1 (Z.2.1 _ (List.mem_of_getElem? (i := 12) rfl)) dX7_readDue_34 ?_
    refine lv_bipush (v := 23) hx hb dX7_readDue_36 (by decide) ?_
    obtain ⟨fsc_18, hgc_18, hOc_18⟩ := hw_9W.obj (i := 1) (by decide) (sh_1 ad K)
    refine s_calli (q := (RX7, TX7, 7)) (As := [.ref (kS.1 12), .int 23]) (rest := [.int x_3, .ref (ad 31)]) X Z (s_X7_numberBehind l D cs ad kS K hKO hj g_10 hw_9W 12 23 (by omega)) (cwV 2 X.2.2.2.2.1 gg_X7_readDue_X7_numberBehind rfl rfl rfl (by decide +kernel) ⟨Nat.le_of_ble_eq_true rfl, Nat.le_of_ble_eq_true rfl⟩) (by decide) hgc_18 rfl hP hA hS.2.1 hS rfl hl.1 rfl (Nat.le_of_ble_eq_true rfl) dX7_readDue_38 ⟨Nat.le_of_ble_eq_true rfl, Nat.le_of_ble_eq_true rfl⟩ (fun r_17 g_16 H locs hw_15 hP hS => ?_)
    obtain ⟨hw_15W, hw_15f, hw_15⟩ := hw_15
    have hfr_19 : ∀ j, j ≠ 1 ∧ j ≠ 23 ∧ j ≠ 31 ∧ j ≠ 32 → g_16 j = g j := fun j hj => (hw_15f j (by omega)).trans (hfr_12 j hj)
    have hg_20 := (hw_15f 23 (by omega)).trans hg_13
    have hqk_21 : (23 : Int32).toInt = 23 := by decide
    obtain ⟨fc_22, hgc_22, hFc_22⟩ := hw_15W.arr (i := 31) (by decide) (sh_31 ad K)
    refine s_iast X hP hj hA hS (by decide) hgc_22 (n_in (rfl : x_3.toInt = x_3.toInt) (by omega) (by omega)) dX7_readDue_41 hw_15W (sh_31 ad K) (hFc_22.put trivial) (fun fc_23 gc_23 H locs ec_23 hFc_23 hgc_23 hfc_23 hWc_23 hP hS => ?_)
    have hg_25 := (hfc_23 23 (by decide)).trans hg_20
    have hfr_24 : ∀ j, j ≠ 1 ∧ j ≠ 23 ∧ j ≠ 31 ∧ j ≠ 32 → gc_23 j = g j := fun j hj => (hfc_23 j (by omega)).trans (hfr_19 j hj)
    refine lv_aload_n hx hb dX7_readDue_42 rfl (lv_at hl 1 rfl) ?_
    have hk_26 := hOc_1.ref 16 rfl
    refine q_get X iX7_readDue_6 hP (by decide) hg_25 rfl 16 (by decide) (List.mem_of_getElem? (i := 78) rfl) (v := .ref (ad 32)) hk_26 dX7_readDue_43 ?_
    refine lv_aload_n hx hb dX7_readDue_46 rfl (lv_at hl 1 rfl) ?_
    refine q_get X iX7_readDue_6 hP (by decide) hg_25 rfl 6 (by decide) (List.mem_of_getElem? (i := 1) rfl) (v := .int x_3) hk_2 dX7_readDue_47 ?_
    refine lv_aload_n hx hb dX7_readDue_50 rfl (lv_at hl 0 rfl) ?_
    refine va_ldcS hx hb X.2.2.2.2.2.1 (Z.2.1 _ (List.mem_of_getElem? (i := 14) rfl)) dX7_readDue_51 ?_
    refine lv_aload_n hx hb dX7_readDue_53 rfl (lv_at hl 1 rfl) ?_
    obtain ⟨x_28, hk_27, hlx_28, hhx_28⟩ := hOc_1.int 3 rfl
    refine q_get X iX7_readDue_6 hP (by decide) hg_25 rfl 3 (by decide) (List.mem_of_getElem? (i := 79) rfl) (v := .int x_28) hk_27 dX7_readDue_54 ?_
    refine lv_iconst (v := 1) hx hb dX7_readDue_57 (by decide) ?_
    refine lv_isub hx hb dX7_readDue_58 ?_
    refine lv_topi (fun z_29 ez_29 => ?_)
    have hz_29 : z_29.toInt = x_28.toInt - 1 := n_sub (rfl : x_28.toInt = x_28.toInt) (by decide : (1 : Int32).toInt = 1) ez_29 (by omega) (by omega)
    obtain ⟨fsc_33, hgc_33, hOc_33⟩ := hWc_23.obj (i := 1) (by decide) (sh_1 ad K)
    refine s_calli (q := (RX7, TX7, 7)) (As := [.ref (kS.1 14), .int z_29]) (rest := [.int x_3, .ref (ad 32)]) X Z (s_X7_numberBehind l D cs ad kS K hKO hj gc_23 hWc_23 14 z_29 (by omega)) (cwV 2 X.2.2.2.2.1 gg_X7_readDue_X7_numberBehind rfl rfl rfl (by decide +kernel) ⟨Nat.le_of_ble_eq_true rfl, Nat.le_of_ble_eq_true rfl⟩) (by decide) hgc_33 rfl hP hA hS.2.1 hS rfl hl.1 rfl (Nat.le_of_ble_eq_true rfl) dX7_readDue_59 ⟨Nat.le_of_ble_eq_true rfl, Nat.le_of_ble_eq_true rfl⟩ (fun r_32 g_31 H locs hw_30 hP hS => ?_)
    obtain ⟨hw_30W, hw_30f, hw_30⟩ := hw_30
    have hfr_34 : ∀ j, j ≠ 1 ∧ j ≠ 23 ∧ j ≠ 31 ∧ j ≠ 32 → g_31 j = g j := fun j hj => (hw_30f j (by omega)).trans (hfr_24 j hj)
    have hg_35 := (hw_30f 23 (by omega)).trans hg_25
    have hg_36 := (hw_30f 31 (by omega)).trans hgc_23
    obtain ⟨fc_37, hgc_37, hFc_37⟩ := hw_30W.arr (i := 32) (by decide) (sh_32 ad K)
    refine s_iast X hP hj hA hS (by decide) hgc_37 (n_in (rfl : x_3.toInt = x_3.toInt) (by omega) (by omega)) dX7_readDue_62 hw_30W (sh_32 ad K) (hFc_37.put trivial) (fun fc_38 gc_38 H locs ec_38 hFc_38 hgc_38 hfc_38 hWc_38 hP hS => ?_)
    have hg_40 := (hfc_38 23 (by decide)).trans hg_35
    have hg_41 := (hfc_38 31 (by decide)).trans hg_36
    have hfr_39 : ∀ j, j ≠ 1 ∧ j ≠ 23 ∧ j ≠ 31 ∧ j ≠ 32 → gc_38 j = g j := fun j hj => (hfc_38 j (by omega)).trans (hfr_34 j hj)
    refine lv_aload_n hx hb dX7_readDue_63 rfl (lv_at hl 1 rfl) ?_
    refine lv_dup hx hb dX7_readDue_64 rfl ?_
    refine q_get X iX7_readDue_6 hP (by decide) hg_40 rfl 6 (by decide) (List.mem_of_getElem? (i := 1) rfl) (v := .int x_3) hk_2 dX7_readDue_65 ?_
    refine lv_iconst (v := 1) hx hb dX7_readDue_68 (by decide) ?_
    refine lv_iadd hx hb dX7_readDue_69 ?_
    refine lv_topi (fun z_42 ez_42 => ?_)
    have hz_42 : z_42.toInt = x_3.toInt + 1 := n_add (rfl : x_3.toInt = x_3.toInt) (by decide : (1 : Int32).toInt = 1) ez_42 (by omega) (by omega)
    refine s_put X iX7_readDue_6 tyX6 tyX6_ok nmX6 hP hj hA hS (by decide) hg_40 rfl 6 (by decide) (List.mem_of_getElem? (i := 1) rfl) rfl (ty := .int) (v := .int z_42) (by decide +kernel) rfl rfl dX7_readDue_70 hWc_38 (sh_23 ad K) hOc_1 rfl ⟨z_42, rfl, by omega, by omega⟩ (fun fsc_43 gc_43 H locs hOc_43 hkc_43 hnc_43 hgc_43 hfc_43 hWc_43 hP hS => ?_)
    have hk_44 := (hnc_43 15 (by decide)).trans hk_14
    have hk_45 := (hnc_43 16 (by decide)).trans hk_26
    have hk_46 := (hnc_43 3 (by decide)).trans hk_27
    have hg_48 := (hfc_43 31 (by decide)).trans hg_41
    have hg_49 := (hfc_43 32 (by decide)).trans hgc_38
    have hfr_47 : ∀ j, j ≠ 1 ∧ j ≠ 23 ∧ j ≠ 31 ∧ j ≠ 32 → gc_43 j = g j := fun j hj => (hfc_43 j (by omega)).trans (hfr_39 j hj)
    exact q_vret X hP hS ⟨hWc_43, hfr_47⟩ dX7_readDue_73
  · have hhc_4 := n_nlt (rfl : x_3.toInt = x_3.toInt) (by decide : (6 : Int32).toInt = 6) hc_4
    refine lv_aload_n hx hb dX7_readDue_9 rfl (lv_at hl 0 rfl) ?_
    refine lv_iconst (v := 3) hx hb dX7_readDue_10 (by decide) ?_
    obtain ⟨fsc_53, hgc_53, hOc_53⟩ := hW.obj (i := 1) (by decide) (sh_1 ad K)
    refine s_callv (q := (RX7, TX7, 7)) (As := [.int 3]) (rest := []) X Z (s_X7_blame l D cs ad kS K hKO hj g hW 3) (cwV 1 X.2.2.2.2.1 gg_X7_readDue_X7_blame rfl rfl rfl (by decide +kernel) ⟨Nat.le_of_ble_eq_true rfl, Nat.le_of_ble_eq_true rfl⟩) (by decide) hgc_53 rfl hP hA hS.2.1 hS rfl hl.1 rfl (Nat.le_of_ble_eq_true rfl) dX7_readDue_11 ⟨Nat.le_of_ble_eq_true rfl, Nat.le_of_ble_eq_true rfl⟩ (fun g_51 H locs hw_50 hP hS => ?_)
    obtain ⟨hw_50W, hw_50f⟩ := hw_50
    have hfr_54 : ∀ j, j ≠ 1 ∧ j ≠ 23 ∧ j ≠ 31 ∧ j ≠ 32 → g_51 j = g j := fun j hj => (hw_50f j (by omega)).trans (hfr j hj)
    have hg_55 := (hw_50f 23 (by omega)).trans hgc_1
    exact q_vret X hP hS ⟨hw_50W, hfr_54⟩ dX7_readDue_14

theorem dX7_readInto_0 : decode cX7_readInto 0 = .ok (.aload_n 1, 1) := by decide +kernel
theorem dX7_readInto_1 : decode cX7_readInto 1 = .ok (.invokevirtual 22, 3) := by decide +kernel
theorem dX7_readInto_4 : decode cX7_readInto 4 = .ok (.aload_n 0, 1) := by decide +kernel
theorem dX7_readInto_5 : decode cX7_readInto 5 = .ok (.iconst 0, 1) := by decide +kernel
theorem dX7_readInto_6 : decode cX7_readInto 6 = .ok (.putfield 27, 3) := by decide +kernel
theorem dX7_readInto_9 : decode cX7_readInto 9 = .ok (.aload_n 0, 1) := by decide +kernel
theorem dX7_readInto_10 : decode cX7_readInto 10 = .ok (.iconst (-1), 1) := by decide +kernel
theorem dX7_readInto_11 : decode cX7_readInto 11 = .ok (.putfield 15, 3) := by decide +kernel
theorem dX7_readInto_14 : decode cX7_readInto 14 = .ok (.aload_n 0, 1) := by decide +kernel
theorem dX7_readInto_15 : decode cX7_readInto 15 = .ok (.iconst 0, 1) := by decide +kernel
theorem dX7_readInto_16 : decode cX7_readInto 16 = .ok (.putfield 30, 3) := by decide +kernel
theorem dX7_readInto_19 : decode cX7_readInto 19 = .ok (.aload_n 0, 1) := by decide +kernel
theorem dX7_readInto_20 : decode cX7_readInto 20 = .ok (.invokevirtual 33, 3) := by decide +kernel
theorem dX7_readInto_23 : decode cX7_readInto 23 = .ok (.iconst 0, 1) := by decide +kernel
theorem dX7_readInto_24 : decode cX7_readInto 24 = .ok (.istore_n 2, 1) := by decide +kernel
theorem dX7_readInto_25 : decode cX7_readInto 25 = .ok (.iload_n 2, 1) := by decide +kernel
theorem dX7_readInto_26 : decode cX7_readInto 26 = .ok (.sipush 1000, 3) := by decide +kernel
theorem dX7_readInto_29 : decode cX7_readInto 29 = .ok (.if_icmp .gt 135, 3) := by decide +kernel
theorem dX7_readInto_32 : decode cX7_readInto 32 = .ok (.aload_n 0, 1) := by decide +kernel
theorem dX7_readInto_33 : decode cX7_readInto 33 = .ok (.getfield 36, 3) := by decide +kernel
theorem dX7_readInto_36 : decode cX7_readInto 36 = .ok (.ifCond .eq 128, 3) := by decide +kernel
theorem dX7_readInto_39 : decode cX7_readInto 39 = .ok (.aload_n 0, 1) := by decide +kernel
theorem dX7_readInto_40 : decode cX7_readInto 40 = .ok (.getfield 27, 3) := by decide +kernel
theorem dX7_readInto_43 : decode cX7_readInto 43 = .ok (.ifCond .ne 121, 3) := by decide +kernel
theorem dX7_readInto_46 : decode cX7_readInto 46 = .ok (.iload_n 2, 1) := by decide +kernel
theorem dX7_readInto_47 : decode cX7_readInto 47 = .ok (.ifCond .ne 11, 3) := by decide +kernel
theorem dX7_readInto_50 : decode cX7_readInto 50 = .ok (.aload_n 0, 1) := by decide +kernel
theorem dX7_readInto_51 : decode cX7_readInto 51 = .ok (.aload_n 1, 1) := by decide +kernel
theorem dX7_readInto_52 : decode cX7_readInto 52 = .ok (.invokevirtual 39, 3) := by decide +kernel
theorem dX7_readInto_55 : decode cX7_readInto 55 = .ok (.goto 76, 3) := by decide +kernel
theorem dX7_readInto_131 : decode cX7_readInto 131 = .ok (.aload_n 0, 1) := by decide +kernel
theorem dX7_readInto_132 : decode cX7_readInto 132 = .ok (.aload_n 0, 1) := by decide +kernel
theorem dX7_readInto_133 : decode cX7_readInto 133 = .ok (.getfield 36, 3) := by decide +kernel
theorem dX7_readInto_136 : decode cX7_readInto 136 = .ok (.iconst 3, 1) := by decide +kernel
theorem dX7_readInto_137 : decode cX7_readInto 137 = .ok (.if_icmp .ne 7, 3) := by decide +kernel
theorem dX7_readInto_140 : decode cX7_readInto 140 = .ok (.iconst 1, 1) := by decide +kernel
theorem dX7_readInto_141 : decode cX7_readInto 141 = .ok (.goto 4, 3) := by decide +kernel
theorem dX7_readInto_144 : decode cX7_readInto 144 = .ok (.iconst 0, 1) := by decide +kernel
theorem dX7_readInto_145 : decode cX7_readInto 145 = .ok (.invokevirtual 71, 3) := by decide +kernel
theorem dX7_readInto_148 : decode cX7_readInto 148 = .ok (.aload_n 1, 1) := by decide +kernel
theorem dX7_readInto_149 : decode cX7_readInto 149 = .ok (.dup, 1) := by decide +kernel
theorem dX7_readInto_150 : decode cX7_readInto 150 = .ok (.getfield 75, 3) := by decide +kernel
theorem dX7_readInto_153 : decode cX7_readInto 153 = .ok (.iconst 1, 1) := by decide +kernel
theorem dX7_readInto_154 : decode cX7_readInto 154 = .ok (.iadd, 1) := by decide +kernel
theorem dX7_readInto_155 : decode cX7_readInto 155 = .ok (.putfield 75, 3) := by decide +kernel
theorem dX7_readInto_158 : decode cX7_readInto 158 = .ok (.iinc 2 1, 3) := by decide +kernel
theorem dX7_readInto_161 : decode cX7_readInto 161 = .ok (.goto (-136), 3) := by decide +kernel
theorem dX7_readInto_58 : decode cX7_readInto 58 = .ok (.aload_n 0, 1) := by decide +kernel
theorem dX7_readInto_59 : decode cX7_readInto 59 = .ok (.ldc 43, 2) := by decide +kernel
theorem dX7_readInto_61 : decode cX7_readInto 61 = .ok (.invokevirtual 45, 3) := by decide +kernel
theorem dX7_readInto_64 : decode cX7_readInto 64 = .ok (.ifCond .eq 11, 3) := by decide +kernel
theorem dX7_readInto_67 : decode cX7_readInto 67 = .ok (.aload_n 0, 1) := by decide +kernel
theorem dX7_readInto_68 : decode cX7_readInto 68 = .ok (.aload_n 1, 1) := by decide +kernel
theorem dX7_readInto_69 : decode cX7_readInto 69 = .ok (.invokevirtual 49, 3) := by decide +kernel
theorem dX7_readInto_72 : decode cX7_readInto 72 = .ok (.goto 59, 3) := by decide +kernel
theorem dX7_readInto_75 : decode cX7_readInto 75 = .ok (.aload_n 0, 1) := by decide +kernel
theorem dX7_readInto_76 : decode cX7_readInto 76 = .ok (.ldc 52, 2) := by decide +kernel
theorem dX7_readInto_78 : decode cX7_readInto 78 = .ok (.invokevirtual 45, 3) := by decide +kernel
theorem dX7_readInto_81 : decode cX7_readInto 81 = .ok (.ifCond .eq 11, 3) := by decide +kernel
theorem dX7_readInto_84 : decode cX7_readInto 84 = .ok (.aload_n 0, 1) := by decide +kernel
theorem dX7_readInto_85 : decode cX7_readInto 85 = .ok (.aload_n 1, 1) := by decide +kernel
theorem dX7_readInto_86 : decode cX7_readInto 86 = .ok (.invokevirtual 54, 3) := by decide +kernel
theorem dX7_readInto_89 : decode cX7_readInto 89 = .ok (.goto 42, 3) := by decide +kernel
theorem dX7_readInto_92 : decode cX7_readInto 92 = .ok (.aload_n 0, 1) := by decide +kernel
theorem dX7_readInto_93 : decode cX7_readInto 93 = .ok (.ldc 57, 2) := by decide +kernel
theorem dX7_readInto_95 : decode cX7_readInto 95 = .ok (.invokevirtual 45, 3) := by decide +kernel
theorem dX7_readInto_98 : decode cX7_readInto 98 = .ok (.ifCond .eq 11, 3) := by decide +kernel
theorem dX7_readInto_101 : decode cX7_readInto 101 = .ok (.aload_n 0, 1) := by decide +kernel
theorem dX7_readInto_102 : decode cX7_readInto 102 = .ok (.aload_n 1, 1) := by decide +kernel
theorem dX7_readInto_103 : decode cX7_readInto 103 = .ok (.invokevirtual 59, 3) := by decide +kernel
theorem dX7_readInto_106 : decode cX7_readInto 106 = .ok (.goto 25, 3) := by decide +kernel
theorem dX7_readInto_109 : decode cX7_readInto 109 = .ok (.aload_n 0, 1) := by decide +kernel
theorem dX7_readInto_110 : decode cX7_readInto 110 = .ok (.ldc 62, 2) := by decide +kernel
theorem dX7_readInto_112 : decode cX7_readInto 112 = .ok (.invokevirtual 45, 3) := by decide +kernel
theorem dX7_readInto_115 : decode cX7_readInto 115 = .ok (.ifCond .eq 11, 3) := by decide +kernel
theorem dX7_readInto_118 : decode cX7_readInto 118 = .ok (.aload_n 0, 1) := by decide +kernel
theorem dX7_readInto_119 : decode cX7_readInto 119 = .ok (.aload_n 1, 1) := by decide +kernel
theorem dX7_readInto_120 : decode cX7_readInto 120 = .ok (.invokevirtual 64, 3) := by decide +kernel
theorem dX7_readInto_123 : decode cX7_readInto 123 = .ok (.goto 8, 3) := by decide +kernel
theorem dX7_readInto_126 : decode cX7_readInto 126 = .ok (.aload_n 0, 1) := by decide +kernel
theorem dX7_readInto_127 : decode cX7_readInto 127 = .ok (.iconst 1, 1) := by decide +kernel
theorem dX7_readInto_128 : decode cX7_readInto 128 = .ok (.invokevirtual 67, 3) := by decide +kernel
theorem dX7_readInto_164 : decode cX7_readInto 164 = .ok (.aload_n 0, 1) := by decide +kernel
theorem dX7_readInto_165 : decode cX7_readInto 165 = .ok (.getfield 27, 3) := by decide +kernel
theorem dX7_readInto_168 : decode cX7_readInto 168 = .ok (.ifCond .ne 7, 3) := by decide +kernel
theorem dX7_readInto_171 : decode cX7_readInto 171 = .ok (.iconst 1, 1) := by decide +kernel
theorem dX7_readInto_172 : decode cX7_readInto 172 = .ok (.goto 4, 3) := by decide +kernel
theorem dX7_readInto_175 : decode cX7_readInto 175 = .ok (.iconst 0, 1) := by decide +kernel
theorem dX7_readInto_176 : decode cX7_readInto 176 = .ok (.ireturn, 1) := by decide +kernel
def vX7_readInto : List Cond := .code yX7_readInto cX7_readInto 3 (some .boolean) :: ([.methodLink RX7 22 yX6_clear, .instanceMethod yX6_clear, .selects RX6 yX6_clear yX6_clear, .initialized RX6, .code yX6_clear cX6_clear 1 none, .fieldLink RX6 47 "IcicleClock$Street" "slamTakes" "I", .fieldLink RX6 51 "IcicleClock$Street" "bellTakes" "I", .fieldLink RX6 54 "IcicleClock$Street" "odds" "I", .fieldLink RX6 57 "IcicleClock$Street" "days" "I", .fieldLink RX6 60 "IcicleClock$Street" "eaves" "I", .fieldLink RX6 63 "IcicleClock$Street" "icicles" "I", .fieldLink RX6 66 "IcicleClock$Street" "works" "I", .fieldLink RX6 69 "IcicleClock$Street" "lines" "I", .fieldLink RX6 43 "IcicleClock$Street" "acts" "LIcicleClock$Acts;", .methodLink RX6 72 yX0_clear, .instanceMethod yX0_clear, .selects RX0 yX0_clear yX0_clear, .initialized RX0, .code yX0_clear cX0_clear 2 none, .fieldLink RX0 26 "IcicleClock$Acts" "done" "I", .methodLink RX0 34 yX0_takeBack, .instanceMethod yX0_takeBack, .selects RX0 yX0_takeBack yX0_takeBack, .code yX0_takeBack cX0_takeBack 1 (some .boolean), .fieldLink RX0 9 "IcicleClock$Acts" "eaves" "[I", .fieldLink RX0 15 "IcicleClock$Acts" "days" "[I", .methodLink RX0 30 yX0_tally, .instanceMethod yX0_tally, .selects RX0 yX0_tally yX0_tally, .code yX0_tally cX0_tally 4 none, .fieldLink RX0 23 "IcicleClock$Acts" "rung" "[I", .fieldLink RX0 20 "IcicleClock$Acts" "slammed" "[[I", .fieldLink RX7 27 "IcicleClock$Tape" "fault" "I", .fieldLink RX7 15 "IcicleClock$Tape" "faultPlace" "I", .fieldLink RX7 30 "IcicleClock$Tape" "stop" "I", .methodLink RX7 33 yX7_advance, .instanceMethod yX7_advance, .selects RX7 yX7_advance yX7_advance, .initialized RX7, .code yX7_advance cX7_advance 2 none, .fieldLink RX7 159 "IcicleClock$Tape" "start" "I", .fieldLink RX7 19 "IcicleClock$Tape" "filled" "I", .fieldLink RX7 9 "IcicleClock$Tape" "bytes" "[B", .methodLink RX7 175 yX7_kindOf, .static yX7_kindOf, .code yX7_kindOf cX7_kindOf 1 (some .int), .fieldLink RX7 36 "IcicleClock$Tape" "kind" "I", .methodLink RX7 39 yX7_readFirst, .instanceMethod yX7_readFirst, .selects RX7 yX7_readFirst yX7_readFirst, .code yX7_readFirst cX7_readFirst 2 none, .methodLink RX7 45 yX7_isWord, .instanceMethod yX7_isWord, .selects RX7 yX7_isWord yX7_isWord, .code yX7_isWord cX7_isWord 3 (some .boolean), .methodLink RX7 167 yJ0_length_8abf5, .instanceMethod yJ0_length_8abf5, .selects RJ0 yJ0_length_8abf5 yJ0_length_8abf5, .initialized RJ0, .code yJ0_length_8abf5 cJ0_length_8abf5 1 (some .int), .fieldLink RJ0 9 "java/lang/String" "value" "[B", .methodLink RJ0 335 yJ0_coder_7d493, .instanceMethod yJ0_coder_7d493, .selects RJ0 yJ0_coder_7d493 yJ0_coder_7d493, .code yJ0_coder_7d493 cJ0_coder_7d493 1 (some .byte), .fieldLink RJ0 38 "java/lang/String" "COMPACT_STRINGS" "Z", .fieldLink RJ0 15 "java/lang/String" "coder" "B", .methodLink RX7 171 yJ0_charAt_5068e, .instanceMethod yJ0_charAt_5068e, .selects RJ0 yJ0_charAt_5068e yJ0_charAt_5068e, .code yJ0_charAt_5068e cJ0_charAt_5068e 2 (some .char), .methodLink RJ0 492 yJ0_isLatin1_aae02, .instanceMethod yJ0_isLatin1_aae02, .selects RJ0 yJ0_isLatin1_aae02 yJ0_isLatin1_aae02, .code yJ0_isLatin1_aae02 cJ0_isLatin1_aae02 1 (some .boolean), .methodLink RJ0 495 yJ1_charAt_3b067, .static yJ1_charAt_3b067, .initialized RJ1, .code yJ1_charAt_3b067 cJ1_charAt_3b067 2 (some .char), .methodLink RJ1 9 yJ0_checkIndex_df160, .static yJ0_checkIndex_df160, .code yJ0_checkIndex_df160 cJ0_checkIndex_df160 2 none, .fieldLink RJ0 1053 "jdk/internal/util/Preconditions" "SIOOBE_FORMATTER" "Ljava/util/function/BiFunction;", .methodLink RJ0 1059 yJ3_checkIndex_8e157, .static yJ3_checkIndex_8e157, .initialized RJ3, .code yJ3_checkIndex_8e157 cJ3_checkIndex_8e157 3 (some .int), .methodLink RX7 71 yX7_pass, .instanceMethod yX7_pass, .selects RX7 yX7_pass yX7_pass, .code yX7_pass cX7_pass 2 none, .methodLink RX7 67 yX7_blame, .instanceMethod yX7_blame, .selects RX7 yX7_blame yX7_blame, .code yX7_blame cX7_blame 2 none, .methodLink RX7 82 yX7_numberBehind, .instanceMethod yX7_numberBehind, .selects RX7 yX7_numberBehind yX7_numberBehind, .code yX7_numberBehind cX7_numberBehind 3 (some .int), .methodLink RX7 132 yX7_passNumber, .instanceMethod yX7_passNumber, .selects RX7 yX7_passNumber yX7_passNumber, .code yX7_passNumber cX7_passNumber 4 (some .int), .methodLink RX7 155 yX7_numberHere, .instanceMethod yX7_numberHere, .selects RX7 yX7_numberHere yX7_numberHere, .code yX7_numberHere cX7_numberHere 3 (some .int), .methodLink RX7 162 Lib.Math.min.name, .static Lib.Math.min.name, .initialized "java/lang/Math", .code Lib.Math.min.name Lib.Math.min.code 2 (some .int), .fieldLink RX7 86 "IcicleClock$Street" "slamTakes" "I", .fieldLink RX7 91 "IcicleClock$Street" "bellTakes" "I", .fieldLink RX7 96 "IcicleClock$Street" "odds" "I", .fieldLink RX7 75 "IcicleClock$Street" "lines" "I", .methodLink RX7 49 yX7_readDay, .instanceMethod yX7_readDay, .selects RX7 yX7_readDay yX7_readDay, .code yX7_readDay cX7_readDay 4 none, .fieldLink RX7 98 "IcicleClock$Street" "days" "I", .fieldLink RX7 105 "IcicleClock$Street" "thaw" "[I", .fieldLink RX7 108 "IcicleClock$Street" "isThaw" "[Z", .methodLink RX7 54 yX7_readEave, .instanceMethod yX7_readEave, .selects RX7 yX7_readEave yX7_readEave, .code yX7_readEave cX7_readEave 2 none, .fieldLink RX7 112 "IcicleClock$Street" "eaves" "I", .fieldLink RX7 115 "IcicleClock$Street" "sun" "[I", .methodLink RX7 59 yX7_readIcicle, .instanceMethod yX7_readIcicle, .selects RX7 yX7_readIcicle yX7_readIcicle, .code yX7_readIcicle cX7_readIcicle 3 none, .fieldLink RX7 119 "IcicleClock$Street" "icicles" "I", .fieldLink RX7 122 "IcicleClock$Street" "eaveOf" "[I", .fieldLink RX7 129 "IcicleClock$Street" "lengthTold" "[I", .fieldLink RX7 136 "IcicleClock$Street" "lengthHung" "[I", .fieldLink RX7 139 "IcicleClock$Street" "hourOf" "[I", .methodLink RX7 64 yX7_readDue, .instanceMethod yX7_readDue, .selects RX7 yX7_readDue yX7_readDue, .code yX7_readDue cX7_readDue 2 none, .fieldLink RX7 144 "IcicleClock$Street" "works" "I", .fieldLink RX7 147 "IcicleClock$Street" "dueHour" "[I", .fieldLink RX7 150 "IcicleClock$Street" "dueDay" "[I"] ++ wsX60 ++ wsX00 ++ wsX70)
theorem iX7_readInto_6 : ∀ w ∈ wsX60, w ∈ vX7_readInto := fun _ h => List.mem_cons_of_mem _ (List.mem_append_left _ (List.mem_append_left _ (List.mem_append_right _ h)))
theorem iX7_readInto_0 : ∀ w ∈ wsX00, w ∈ vX7_readInto := fun _ h => List.mem_cons_of_mem _ (List.mem_append_left _ (List.mem_append_right _ h))
theorem iX7_readInto_7 : ∀ w ∈ wsX70, w ∈ vX7_readInto := fun _ h => List.mem_cons_of_mem _ (List.mem_append_right _ h)
set_option maxRecDepth 20000 in
theorem gg_X7_readInto_X6_clear : GoodIn vX7_readInto (wsV RX7 22 RX6 yX6_clear vX6_clear) := goodIn_r _ [1, 2, 3, 4, 5, 6, 7, 8, 9, 10, 11, 12, 13, 14, 15, 16, 17, 18, 19, 20, 21, 22, 23, 24, 25, 26, 27, 28, 29, 30, 31, 32, 145, 146, 147, 148, 149, 150, 151, 152, 153, 154, 155, 156, 157, 158, 159, 160, 161, 162, 163, 164, 165, 166, 167] (by decide +kernel) (by decide +kernel)
set_option maxRecDepth 20000 in
theorem gg_X7_readInto_X7_advance : GoodIn vX7_readInto (wsV RX7 33 RX7 yX7_advance vX7_advance) := goodIn_r _ [36, 37, 38, 39, 40, 35, 41, 42, 43, 44, 45, 39, 46, 47, 168, 169, 170, 171, 172, 173, 174] (by decide +kernel) (by decide +kernel)
set_option maxRecDepth 20000 in
theorem gg_X7_readInto_X7_readFirst : GoodIn vX7_readInto (wsV RX7 39 RX7 yX7_readFirst vX7_readFirst) := goodIn_r _ [48, 49, 50, 39, 51, 52, 53, 54, 39, 55, 47, 35, 41, 56, 57, 58, 59, 60, 61, 62, 63, 64, 65, 66, 67, 43, 68, 69, 70, 71, 72, 73, 74, 75, 76, 77, 78, 79, 80, 81, 82, 83, 84, 85, 86, 87, 88, 89, 90, 91, 36, 37, 38, 40, 42, 44, 45, 46, 92, 93, 94, 95, 33, 34, 96, 97, 98, 99, 100, 101, 102, 103, 104, 105, 106, 107, 108, 109, 110, 111, 112, 113, 114, 168, 169, 170, 171, 172, 173, 174, 145, 146, 147, 148, 149, 150, 151, 152, 153, 154, 155, 156, 157, 158, 159, 160, 161, 162] (by decide +kernel) (by decide +kernel)
set_option maxRecDepth 20000 in
theorem gg_X7_readInto_X7_pass : GoodIn vX7_readInto (wsV RX7 71 RX7 yX7_pass vX7_pass) := goodIn_r _ [88, 89, 90, 39, 91, 36, 37, 38, 39, 40, 35, 41, 42, 43, 44, 45, 46, 47, 92, 93, 94, 95, 33, 34, 168, 169, 170, 171, 172, 173, 174] (by decide +kernel) (by decide +kernel)
set_option maxRecDepth 20000 in
theorem gg_X7_readInto_X7_isWord : GoodIn vX7_readInto (wsV RX7 45 RX7 yX7_isWord vX7_isWord) := goodIn_r _ [52, 53, 54, 39, 55, 47, 35, 41, 56, 57, 58, 59, 60, 61, 62, 63, 64, 65, 66, 67, 43, 68, 69, 70, 71, 72, 73, 74, 75, 76, 77, 78, 79, 80, 81, 82, 83, 84, 85, 86, 87, 168, 169, 170, 171, 172, 173, 174] (by decide +kernel) (by decide +kernel)
set_option maxRecDepth 20000 in
theorem gg_X7_readInto_X7_readDay : GoodIn vX7_readInto (wsV RX7 49 RX7 yX7_readDay vX7_readDay) := goodIn_r _ [116, 117, 118, 39, 119, 120, 92, 93, 94, 39, 95, 33, 41, 34, 52, 53, 54, 55, 47, 35, 56, 57, 58, 59, 60, 61, 62, 63, 64, 65, 66, 67, 43, 68, 69, 70, 71, 72, 73, 74, 75, 76, 77, 78, 79, 80, 81, 82, 83, 84, 85, 86, 87, 88, 89, 90, 91, 36, 37, 38, 40, 42, 44, 45, 46, 96, 97, 98, 99, 100, 101, 102, 103, 104, 105, 106, 107, 108, 109, 110, 111, 121, 122, 145, 146, 147, 148, 149, 150, 151, 152, 153, 154, 155, 156, 157, 158, 159, 160, 161, 162, 168, 169, 170, 171, 172, 173, 174] (by decide +kernel) (by decide +kernel)
set_option maxRecDepth 20000 in
theorem gg_X7_readInto_X7_readEave : GoodIn vX7_readInto (wsV RX7 54 RX7 yX7_readEave vX7_readEave) := goodIn_r _ [123, 124, 125, 39, 126, 127, 92, 93, 94, 39, 95, 33, 41, 34, 52, 53, 54, 55, 47, 35, 56, 57, 58, 59, 60, 61, 62, 63, 64, 65, 66, 67, 43, 68, 69, 70, 71, 72, 73, 74, 75, 76, 77, 78, 79, 80, 81, 82, 83, 84, 85, 86, 87, 88, 89, 90, 91, 36, 37, 38, 40, 42, 44, 45, 46, 128, 96, 97, 98, 99, 100, 101, 102, 103, 104, 105, 106, 107, 108, 109, 110, 111, 145, 146, 147, 148, 149, 150, 151, 152, 153, 154, 155, 156, 157, 158, 159, 160, 161, 162, 168, 169, 170, 171, 172, 173, 174] (by decide +kernel) (by decide +kernel)
set_option maxRecDepth 20000 in
theorem gg_X7_readInto_X7_readIcicle : GoodIn vX7_readInto (wsV RX7 59 RX7 yX7_readIcicle vX7_readIcicle) := goodIn_r _ [129, 130, 131, 39, 132, 133, 92, 93, 94, 39, 95, 33, 41, 34, 52, 53, 54, 55, 47, 35, 56, 57, 58, 59, 60, 61, 62, 63, 64, 65, 66, 67, 43, 68, 69, 70, 71, 72, 73, 74, 75, 76, 77, 78, 79, 80, 81, 82, 83, 84, 85, 86, 87, 88, 89, 90, 91, 36, 37, 38, 40, 42, 44, 45, 46, 134, 127, 96, 97, 98, 99, 100, 101, 102, 103, 104, 105, 106, 107, 108, 109, 110, 111, 135, 136, 137, 145, 146, 147, 148, 149, 150, 151, 152, 153, 154, 155, 156, 157, 158, 159, 160, 161, 162, 168, 169, 170, 171, 172, 173, 174] (by decide +kernel) (by decide +kernel)
set_option maxRecDepth 20000 in
theorem gg_X7_readInto_X7_readDue : GoodIn vX7_readInto (wsV RX7 64 RX7 yX7_readDue vX7_readDue) := goodIn_r _ [138, 139, 140, 39, 141, 142, 92, 93, 94, 39, 95, 33, 41, 34, 52, 53, 54, 55, 47, 35, 56, 57, 58, 59, 60, 61, 62, 63, 64, 65, 66, 67, 43, 68, 69, 70, 71, 72, 73, 74, 75, 76, 77, 78, 79, 80, 81, 82, 83, 84, 85, 86, 87, 88, 89, 90, 91, 36, 37, 38, 40, 42, 44, 45, 46, 143, 96, 97, 98, 99, 100, 101, 102, 103, 104, 105, 106, 107, 108, 109, 110, 111, 144, 120, 145, 146, 147, 148, 149, 150, 151, 152, 153, 154, 155, 156, 157, 158, 159, 160, 161, 162, 168, 169, 170, 171, 172, 173, 174] (by decide +kernel) (by decide +kernel)
set_option maxRecDepth 20000 in
theorem gg_X7_readInto_X7_blame : GoodIn vX7_readInto (wsV RX7 67 RX7 yX7_blame vX7_blame) := goodIn_r _ [92, 93, 94, 39, 95, 33, 41, 34, 168, 169, 170, 171, 172, 173, 174] (by decide +kernel) (by decide +kernel)
set_option maxHeartbeats 4000000 in
set_option maxRecDepth 100000 in
theorem s_X7_readInto (l : Launch) (D : va_G) (cs : Nat → ClassId) (ad : Nat → Nat) (kS : kSt) (K : sK) (hKO : KO K) (hj : wJ ad 218) (g : Nat → va_E) (hW : WF (shp ad K) ad cs g) : sI l yX7_readInto vX7_readInto { frames := 7, cells := 0, slots := 0, locals := 152 } D cs ad kS [.ref (ad 1), .ref (ad 23)] g (fun r g2 => WF (shp ad K) ad cs g2 ∧ (∀ j, j ≠ 1 ∧ (j < 23 ∨ 23 + 20 ≤ j) → g2 j = g j) ∧ (0 ≤ r.toInt ∧ r.toInt ≤ 1)) := by
  refine Met.startS (cc := cX7_readInto) (maxL := 3) (ret := (some .boolean)) RX7 rfl (by decide) rfl (Nat.le_of_ble_eq_true rfl) ?_
  intro p e s m below meth c ls X Z hP hl
  have hx := X.1
  have hb := X.2.1
  have hS : va_S (wA ad 218) s.heap s.heap [] := va_S.rf
  have hA : ∀ i, i < 218 → wA ad 218 (ad i) := fun i h => ⟨i, h, rfl⟩
  have hfr : ∀ j, j ≠ 1 ∧ (j < 23 ∨ 23 + 20 ≤ j) → g j = g j := fun _ _ => rfl
  have hl : lv_has ls 3 [(0, .ref (ad 1)), (1, .ref (ad 23))] := hl
  refine lv_aload_n hx hb dX7_readInto_0 rfl (lv_at hl 1 rfl) ?_
  obtain ⟨fsc_4, hgc_4, hOc_4⟩ := hW.obj (i := 23) (by decide) (sh_23 ad K)
  refine s_callv (q := (RX6, TX6, 18)) (As := []) (rest := []) X Z (s_X6_clear l D cs ad kS K hKO hj g hW 23 (by omega)) (cwV 0 X.2.2.2.2.1 gg_X7_readInto_X6_clear rfl rfl rfl (by decide +kernel) ⟨Nat.le_of_ble_eq_true rfl, Nat.le_of_ble_eq_true rfl⟩) (by decide) hgc_4 rfl hP hA hS.2.1 hS rfl hl.1 rfl (Nat.le_of_ble_eq_true rfl) dX7_readInto_1 ⟨Nat.le_of_ble_eq_true rfl, Nat.le_of_ble_eq_true rfl⟩ (fun g_2 H locs hw_1 hP hS => ?_)
  obtain ⟨hw_1W, hw_1f⟩ := hw_1
  have hfr_5 : ∀ j, j ≠ 1 ∧ (j < 23 ∨ 23 + 20 ≤ j) → g_2 j = g j := fun j hj => (hw_1f j (by omega)).trans (hfr j hj)
  refine lv_aload_n hx hb dX7_readInto_4 rfl (lv_at hl 0 rfl) ?_
  refine lv_iconst (v := 0) hx hb dX7_readInto_5 (by decide) ?_
  obtain ⟨fsc_6, hgc_6, hOc_6⟩ := hw_1W.obj (i := 1) (by decide) (sh_1 ad K)
  refine s_put X iX7_readInto_7 tyX7 tyX7_ok nmX7 hP hj hA hS (by decide) hgc_6 rfl 2 (by decide) (List.mem_of_getElem? (i := 33) rfl) rfl (ty := .int) (v := .int 0) (by decide +kernel) rfl rfl dX7_readInto_6 hw_1W (sh_1 ad K) hOc_6 rfl ⟨0, rfl, n_lo _, n_hi _⟩ (fun fsc_7 gc_7 H locs hOc_7 hkc_7 hnc_7 hgc_7 hfc_7 hWc_7 hP hS => ?_)
  have hfr_8 : ∀ j, j ≠ 1 ∧ (j < 23 ∨ 23 + 20 ≤ j) → gc_7 j = g j := fun j hj => (hfc_7 j (by omega)).trans (hfr_5 j hj)
  refine lv_aload_n hx hb dX7_readInto_9 rfl (lv_at hl 0 rfl) ?_
  refine lv_iconst (v := (-1)) hx hb dX7_readInto_10 (by decide) ?_
  refine s_put X iX7_readInto_7 tyX7 tyX7_ok nmX7 hP hj hA hS (by decide) hgc_7 rfl 3 (by decide) (List.mem_of_getElem? (i := 34) rfl) rfl (ty := .int) (v := .int (-1)) (by decide +kernel) rfl rfl dX7_readInto_11 hWc_7 (sh_1 ad K) hOc_7 rfl ⟨(-1), rfl, n_lo _, n_hi _⟩ (fun fsc_9 gc_9 H locs hOc_9 hkc_9 hnc_9 hgc_9 hfc_9 hWc_9 hP hS => ?_)
  have hk_10 := (hnc_9 2 (by decide)).trans hkc_7
  have hfr_11 : ∀ j, j ≠ 1 ∧ (j < 23 ∨ 23 + 20 ≤ j) → gc_9 j = g j := fun j hj => (hfc_9 j (by omega)).trans (hfr_8 j hj)
  refine lv_aload_n hx hb dX7_readInto_14 rfl (lv_at hl 0 rfl) ?_
  refine lv_iconst (v := 0) hx hb dX7_readInto_15 (by decide) ?_
  refine s_put X iX7_readInto_7 tyX7 tyX7_ok nmX7 hP hj hA hS (by decide) hgc_9 rfl 5 (by decide) (List.mem_of_getElem? (i := 35) rfl) rfl (ty := .int) (v := .int 0) (by decide +kernel) rfl rfl dX7_readInto_16 hWc_9 (sh_1 ad K) hOc_9 rfl ⟨0, rfl, by decide, by decide⟩ (fun fsc_12 gc_12 H locs hOc_12 hkc_12 hnc_12 hgc_12 hfc_12 hWc_12 hP hS => ?_)
  have hk_13 := (hnc_12 3 (by decide)).trans hkc_9
  have hk_14 := (hnc_12 2 (by decide)).trans hk_10
  have hfr_15 : ∀ j, j ≠ 1 ∧ (j < 23 ∨ 23 + 20 ≤ j) → gc_12 j = g j := fun j hj => (hfc_12 j (by omega)).trans (hfr_11 j hj)
  refine lv_aload_n hx hb dX7_readInto_19 rfl (lv_at hl 0 rfl) ?_
  refine s_callv (q := (RX7, TX7, 7)) (As := []) (rest := []) X Z (s_X7_advance l D cs ad kS K hKO hj gc_12 hWc_12) (cwV 0 X.2.2.2.2.1 gg_X7_readInto_X7_advance rfl rfl rfl (by decide +kernel) ⟨Nat.le_of_ble_eq_true rfl, Nat.le_of_ble_eq_true rfl⟩) (by decide) hgc_12 rfl hP hA hS.2.1 hS rfl hl.1 rfl (Nat.le_of_ble_eq_true rfl) dX7_readInto_20 ⟨Nat.le_of_ble_eq_true rfl, Nat.le_of_ble_eq_true rfl⟩ (fun g_17 H locs hw_16 hP hS => ?_)
  obtain ⟨hw_16W, hw_16f⟩ := hw_16
  have hfr_19 : ∀ j, j ≠ 1 ∧ (j < 23 ∨ 23 + 20 ≤ j) → g_17 j = g j := fun j hj => (hw_16f j (by omega)).trans (hfr_15 j hj)
  refine lv_iconst (v := 0) hx hb dX7_readInto_23 (by decide) ?_
  refine lv_istore_n (lv' := [(2, .int 0), (0, .ref (ad 1)), (1, .ref (ad 23))]) hx hb dX7_readInto_24 rfl hl (by decide) rfl (fun ls hl => ?_)
  have HL25 : ∀ (n25 : Nat) (v25_2 : Int32) (G25 : Nat → va_E) (H : Heap) (locs : List Loc) (ls : Array Slot), (1001 - v25_2.toInt).toNat < n25 → (0 ≤ v25_2.toInt ∧ v25_2.toInt ≤ 1001) → WF (shp ad K) ad cs G25 → (∀ j, j ≠ 1 ∧ (j < 23 ∨ 23 + 20 ≤ j) → G25 j = g j) → va_P D vwCl (wL ad G25 218) H → va_S (wA ad 218) s.heap H locs → lv_has ls 3 [(2, .int v25_2), (0, .ref (ad 1)), (1, .ref (ad 23))] → W p l e ({ frames := 7, cells := 0, slots := 0, locals := 152 } : Room) s m ([.ref (ad 1), .ref (ad 23)] : List Value).toArray below meth c H locs 0 0 (MQ below (qI D ad 218 (fun r g2 => WF (shp ad K) ad cs g2 ∧ (∀ j, j ≠ 1 ∧ (j < 23 ∨ 23 + 20 ≤ j) → g2 j = g j) ∧ (0 ≤ r.toInt ∧ r.toInt ≤ 1))) ([.ref (ad 1), .ref (ad 23)] : List Value).toArray s 0 0 (wA ad 218)) (F0 m 25 ls []) := by
    intro n25
    induction n25 with
    | zero =>
      intro v25_2 G25 H locs ls hm25 hv25_0 hW25 hfr25 hP hS hl
      exact absurd hm25 (Nat.not_lt_zero _)
    | succ n25 ih25 =>
      intro v25_2 G25 H locs ls hm25 hv25_0 hW25 hfr25 hP hS hl
      refine lv_iload_n hx hb dX7_readInto_25 rfl (lv_at hl 0 rfl) ?_
      refine lv_sipush (v := 1000) hx hb dX7_readInto_26 (by decide) ?_
      have HJ164 : ∀ (G164 : Nat → va_E) (H : Heap) (locs : List Loc) (ls : Array Slot), WF (shp ad K) ad cs G164 → (∀ j, j ≠ 1 ∧ (j < 23 ∨ 23 + 20 ≤ j) → G164 j = g j) → va_P D vwCl (wL ad G164 218) H → va_S (wA ad 218) s.heap H locs → lv_has ls 3 [(0, .ref (ad 1))] → W p l e ({ frames := 7, cells := 0, slots := 0, locals := 152 } : Room) s m ([.ref (ad 1), .ref (ad 23)] : List Value).toArray below meth c H locs 0 0 (MQ below (qI D ad 218 (fun r g2 => WF (shp ad K) ad cs g2 ∧ (∀ j, j ≠ 1 ∧ (j < 23 ∨ 23 + 20 ≤ j) → g2 j = g j) ∧ (0 ≤ r.toInt ∧ r.toInt ≤ 1))) ([.ref (ad 1), .ref (ad 23)] : List Value).toArray s 0 0 (wA ad 218)) (F0 m 164 ls []) := by
        intro G164 H locs ls hW164 hfr164 hP hS hl
        refine lv_aload_n hx hb dX7_readInto_164 rfl (lv_at hl 0 rfl) ?_
        obtain ⟨fsc_20, hgc_20, hOc_20⟩ := hW164.obj (i := 1) (by decide) (sh_1 ad K)
        obtain ⟨x_22, hk_21, -⟩ := hOc_20.int 2 rfl
        refine q_get X iX7_readInto_7 hP (by decide) hgc_20 rfl 2 (by decide) (List.mem_of_getElem? (i := 33) rfl) (v := .int x_22) hk_21 dX7_readInto_165 ?_
        refine lv_if_ne (tgt := 175) hx hb dX7_readInto_168 (by decide) (fun hc_23 => ?_) (fun hc_23 => ?_)
        · have hhc_23 := n_ne (rfl : x_22.toInt = x_22.toInt) (by decide : (0 : Int32).toInt = 0) hc_23
          refine lv_iconst (v := 0) hx hb dX7_readInto_175 (by decide) ?_
          have hr0 : (0 : Int32).toInt = 0 := by decide
          exact q_zret X hP hS rfl ⟨hW164, hfr164, (by omega)⟩ dX7_readInto_176
        · have hhc_23 := n_eq (rfl : x_22.toInt = x_22.toInt) (by decide : (0 : Int32).toInt = 0) hc_23
          refine lv_iconst (v := 1) hx hb dX7_readInto_171 (by decide) ?_
          refine lv_goto (tgt := 176) hx hb dX7_readInto_172 (by decide) ?_
          have hr0 : (1 : Int32).toInt = 1 := by decide
          exact q_zret X hP hS rfl ⟨hW164, hfr164, (by omega)⟩ dX7_readInto_176
      refine lv_icmp_gt (tgt := 164) hx hb dX7_readInto_29 (by decide) (fun hc_24 => ?_) (fun hc_24 => ?_)
      · have hhc_24 := n_lt (by decide : (1000 : Int32).toInt = 1000) (rfl : v25_2.toInt = v25_2.toInt) hc_24
        exact HJ164 G25 _ _ ls hW25 hfr25 hP hS (lv_sub hl [1] rfl)
      · have hhc_24 := n_nlt (by decide : (1000 : Int32).toInt = 1000) (rfl : v25_2.toInt = v25_2.toInt) hc_24
        refine lv_aload_n hx hb dX7_readInto_32 rfl (lv_at hl 1 rfl) ?_
        obtain ⟨fsc_25, hgc_25, hOc_25⟩ := hW25.obj (i := 1) (by decide) (sh_1 ad K)
        obtain ⟨x_27, hk_26, hlx_27, hhx_27⟩ := hOc_25.int 6 rfl
        refine q_get X iX7_readInto_7 hP (by decide) hgc_25 rfl 6 (by decide) (List.mem_of_getElem? (i := 47) rfl) (v := .int x_27) hk_26 dX7_readInto_33 ?_
        refine lv_if_eq (tgt := 164) hx hb dX7_readInto_36 (by decide) (fun hc_28 => ?_) (fun hc_28 => ?_)
        · have hhc_28 := n_eq (rfl : x_27.toInt = x_27.toInt) (by decide : (0 : Int32).toInt = 0) hc_28
          exact HJ164 G25 _ _ ls hW25 hfr25 hP hS (lv_sub hl [1] rfl)
        · have hhc_28 := n_ne (rfl : x_27.toInt = x_27.toInt) (by decide : (0 : Int32).toInt = 0) hc_28
          refine lv_aload_n hx hb dX7_readInto_39 rfl (lv_at hl 1 rfl) ?_
          obtain ⟨x_30, hk_29, -⟩ := hOc_25.int 2 rfl
          refine q_get X iX7_readInto_7 hP (by decide) hgc_25 rfl 2 (by decide) (List.mem_of_getElem? (i := 33) rfl) (v := .int x_30) hk_29 dX7_readInto_40 ?_
          refine lv_if_ne (tgt := 164) hx hb dX7_readInto_43 (by decide) (fun hc_31 => ?_) (fun hc_31 => ?_)
          · have hhc_31 := n_ne (rfl : x_30.toInt = x_30.toInt) (by decide : (0 : Int32).toInt = 0) hc_31
            exact HJ164 G25 _ _ ls hW25 hfr25 hP hS (lv_sub hl [1] rfl)
          · have hhc_31 := n_eq (rfl : x_30.toInt = x_30.toInt) (by decide : (0 : Int32).toInt = 0) hc_31
            refine lv_iload_n hx hb dX7_readInto_46 rfl (lv_at hl 0 rfl) ?_
            have HJ131 : ∀ (G131 : Nat → va_E) (H : Heap) (locs : List Loc) (ls : Array Slot), WF (shp ad K) ad cs G131 → (∀ j, j ≠ 1 ∧ (j < 23 ∨ 23 + 20 ≤ j) → G131 j = g j) → va_P D vwCl (wL ad G131 218) H → va_S (wA ad 218) s.heap H locs → lv_has ls 3 [(2, .int v25_2), (0, .ref (ad 1)), (1, .ref (ad 23))] → W p l e ({ frames := 7, cells := 0, slots := 0, locals := 152 } : Room) s m ([.ref (ad 1), .ref (ad 23)] : List Value).toArray below meth c H locs 0 0 (MQ below (qI D ad 218 (fun r g2 => WF (shp ad K) ad cs g2 ∧ (∀ j, j ≠ 1 ∧ (j < 23 ∨ 23 + 20 ≤ j) → g2 j = g j) ∧ (0 ≤ r.toInt ∧ r.toInt ≤ 1))) ([.ref (ad 1), .ref (ad 23)] : List Value).toArray s 0 0 (wA ad 218)) (F0 m 131 ls []) := by
              intro G131 H locs ls hW131 hfr131 hP hS hl
              refine lv_aload_n hx hb dX7_readInto_131 rfl (lv_at hl 1 rfl) ?_
              refine lv_aload_n hx hb dX7_readInto_132 rfl (lv_at hl 1 rfl) ?_
              obtain ⟨fsc_32, hgc_32, hOc_32⟩ := hW131.obj (i := 1) (by decide) (sh_1 ad K)
              obtain ⟨x_34, hk_33, hlx_34, hhx_34⟩ := hOc_32.int 6 rfl
              refine q_get X iX7_readInto_7 hP (by decide) hgc_32 rfl 6 (by decide) (List.mem_of_getElem? (i := 47) rfl) (v := .int x_34) hk_33 dX7_readInto_133 ?_
              refine lv_iconst (v := 3) hx hb dX7_readInto_136 (by decide) ?_
              refine lv_icmp_ne (tgt := 144) hx hb dX7_readInto_137 (by decide) (fun hc_35 => ?_) (fun hc_35 => ?_)
              · have hhc_35 := n_ne (rfl : x_34.toInt = x_34.toInt) (by decide : (3 : Int32).toInt = 3) hc_35
                refine lv_iconst (v := 0) hx hb dX7_readInto_144 (by decide) ?_
                refine s_callv (q := (RX7, TX7, 7)) (As := [.int 0]) (rest := []) X Z (s_X7_pass l D cs ad kS K hKO hj G131 hW131 0) (cwV 1 X.2.2.2.2.1 gg_X7_readInto_X7_pass rfl rfl rfl (by decide +kernel) ⟨Nat.le_of_ble_eq_true rfl, Nat.le_of_ble_eq_true rfl⟩) (by decide) hgc_32 rfl hP hA hS.2.1 hS rfl hl.1 rfl (Nat.le_of_ble_eq_true rfl) dX7_readInto_145 ⟨Nat.le_of_ble_eq_true rfl, Nat.le_of_ble_eq_true rfl⟩ (fun g_37 H locs hw_36 hP hS => ?_)
                obtain ⟨hw_36W, hw_36f⟩ := hw_36
                have hfr_39 : ∀ j, j ≠ 1 ∧ (j < 23 ∨ 23 + 20 ≤ j) → g_37 j = g j := fun j hj => (hw_36f j (by omega)).trans (hfr131 j hj)
                refine lv_aload_n hx hb dX7_readInto_148 rfl (lv_at hl 2 rfl) ?_
                refine lv_dup hx hb dX7_readInto_149 rfl ?_
                obtain ⟨fsc_40, hgc_40, hOc_40⟩ := hw_36W.obj (i := 23) (by decide) (sh_23 ad K)
                obtain ⟨x_42, hk_41, -⟩ := hOc_40.int 7 rfl
                refine q_get X iX7_readInto_6 hP (by decide) hgc_40 rfl 7 (by decide) (List.mem_of_getElem? (i := 115) rfl) (v := .int x_42) hk_41 dX7_readInto_150 ?_
                refine lv_iconst (v := 1) hx hb dX7_readInto_153 (by decide) ?_
                refine lv_iadd hx hb dX7_readInto_154 ?_
                refine lv_topi (fun z_43 ez_43 => ?_)
                refine s_put X iX7_readInto_6 tyX6 tyX6_ok nmX6 hP hj hA hS (by decide) hgc_40 rfl 7 (by decide) (List.mem_of_getElem? (i := 115) rfl) rfl (ty := .int) (v := .int z_43) (by decide +kernel) rfl rfl dX7_readInto_155 hw_36W (sh_23 ad K) hOc_40 rfl ⟨z_43, rfl, n_lo _, n_hi _⟩ (fun fsc_44 gc_44 H locs hOc_44 hkc_44 hnc_44 hgc_44 hfc_44 hWc_44 hP hS => ?_)
                have hfr_45 : ∀ j, j ≠ 1 ∧ (j < 23 ∨ 23 + 20 ≤ j) → gc_44 j = g j := fun j hj => (hfc_44 j (by omega)).trans (hfr_39 j hj)
                obtain ⟨x_46, ex_46⟩ : ∃ y : Int32, y = v25_2 + 1 := ⟨_, rfl⟩
                have hx_46 : x_46.toInt = v25_2.toInt + 1 := n_add rfl (by decide : (1 : Int32).toInt = 1) ex_46 (by omega) (by omega)
                refine lv_iinc (v := x_46) (lv' := [(2, .int x_46), (0, .ref (ad 1)), (1, .ref (ad 23))]) hx hb dX7_readInto_158 hl (k := 0) rfl (by rw [ex_46]; rfl) (by decide) rfl (fun ls hl => ?_)
                refine lv_goto (tgt := 25) hx hb dX7_readInto_161 (by decide) ?_
                exact ih25 x_46 gc_44 _ _ ls (by omega) (by omega) hWc_44 hfr_45 hP hS (lv_sub hl [0, 1, 2] rfl)
              · have hhc_35 := n_eq (rfl : x_34.toInt = x_34.toInt) (by decide : (3 : Int32).toInt = 3) hc_35
                refine lv_iconst (v := 1) hx hb dX7_readInto_140 (by decide) ?_
                refine lv_goto (tgt := 145) hx hb dX7_readInto_141 (by decide) ?_
                refine s_callv (q := (RX7, TX7, 7)) (As := [.int 1]) (rest := []) X Z (s_X7_pass l D cs ad kS K hKO hj G131 hW131 1) (cwV 1 X.2.2.2.2.1 gg_X7_readInto_X7_pass rfl rfl rfl (by decide +kernel) ⟨Nat.le_of_ble_eq_true rfl, Nat.le_of_ble_eq_true rfl⟩) (by decide) hgc_32 rfl hP hA hS.2.1 hS rfl hl.1 rfl (Nat.le_of_ble_eq_true rfl) dX7_readInto_145 ⟨Nat.le_of_ble_eq_true rfl, Nat.le_of_ble_eq_true rfl⟩ (fun g_48 H locs hw_47 hP hS => ?_)
                obtain ⟨hw_47W, hw_47f⟩ := hw_47
                have hfr_50 : ∀ j, j ≠ 1 ∧ (j < 23 ∨ 23 + 20 ≤ j) → g_48 j = g j := fun j hj => (hw_47f j (by omega)).trans (hfr131 j hj)
                refine lv_aload_n hx hb dX7_readInto_148 rfl (lv_at hl 2 rfl) ?_
                refine lv_dup hx hb dX7_readInto_149 rfl ?_
                obtain ⟨fsc_51, hgc_51, hOc_51⟩ := hw_47W.obj (i := 23) (by decide) (sh_23 ad K)
                obtain ⟨x_53, hk_52, -⟩ := hOc_51.int 7 rfl
                refine q_get X iX7_readInto_6 hP (by decide) hgc_51 rfl 7 (by decide) (List.mem_of_getElem? (i := 115) rfl) (v := .int x_53) hk_52 dX7_readInto_150 ?_
                refine lv_iconst (v := 1) hx hb dX7_readInto_153 (by decide) ?_
                refine lv_iadd hx hb dX7_readInto_154 ?_
                refine lv_topi (fun z_54 ez_54 => ?_)
                refine s_put X iX7_readInto_6 tyX6 tyX6_ok nmX6 hP hj hA hS (by decide) hgc_51 rfl 7 (by decide) (List.mem_of_getElem? (i := 115) rfl) rfl (ty := .int) (v := .int z_54) (by decide +kernel) rfl rfl dX7_readInto_155 hw_47W (sh_23 ad K) hOc_51 rfl ⟨z_54, rfl, n_lo _, n_hi _⟩ (fun fsc_55 gc_55 H locs hOc_55 hkc_55 hnc_55 hgc_55 hfc_55 hWc_55 hP hS => ?_)
                have hfr_56 : ∀ j, j ≠ 1 ∧ (j < 23 ∨ 23 + 20 ≤ j) → gc_55 j = g j := fun j hj => (hfc_55 j (by omega)).trans (hfr_50 j hj)
                obtain ⟨x_57, ex_57⟩ : ∃ y : Int32, y = v25_2 + 1 := ⟨_, rfl⟩
                have hx_57 : x_57.toInt = v25_2.toInt + 1 := n_add rfl (by decide : (1 : Int32).toInt = 1) ex_57 (by omega) (by omega)
                refine lv_iinc (v := x_57) (lv' := [(2, .int x_57), (0, .ref (ad 1)), (1, .ref (ad 23))]) hx hb dX7_readInto_158 hl (k := 0) rfl (by rw [ex_57]; rfl) (by decide) rfl (fun ls hl => ?_)
                refine lv_goto (tgt := 25) hx hb dX7_readInto_161 (by decide) ?_
                exact ih25 x_57 gc_55 _ _ ls (by omega) (by omega) hWc_55 hfr_56 hP hS (lv_sub hl [0, 1, 2] rfl)
            refine lv_if_ne (tgt := 58) hx hb dX7_readInto_47 (by decide) (fun hc_58 => ?_) (fun hc_58 => ?_)
            · have hhc_58 := n_ne (rfl : v25_2.toInt = v25_2.toInt) (by decide : (0 : Int32).toInt = 0) hc_58
              refine lv_aload_n hx hb dX7_readInto_58 rfl (lv_at hl 1 rfl) ?_
              refine va_ldcS hx hb X.2.2.2.2.2.1 (Z.2.1 _ (List.mem_of_getElem? (i := 4) rfl)) dX7_readInto_59 ?_
              refine s_calli (q := (RX7, TX7, 7)) (As := [.ref (kS.1 4)]) (rest := []) X Z (s_X7_isWord l D cs ad kS K hKO hj G25 hW25 4 (by omega)) (cwV 1 X.2.2.2.2.1 gg_X7_readInto_X7_isWord rfl rfl rfl (by decide +kernel) ⟨Nat.le_of_ble_eq_true rfl, Nat.le_of_ble_eq_true rfl⟩) (by decide) hgc_25 rfl hP hA hS.2.1 hS rfl hl.1 rfl (Nat.le_of_ble_eq_true rfl) dX7_readInto_61 ⟨Nat.le_of_ble_eq_true rfl, Nat.le_of_ble_eq_true rfl⟩ (fun r_61 g_60 H locs hw_59 hP hS => ?_)
              obtain ⟨hw_59g, hw_59⟩ := hw_59
              rw [hw_59g] at hP
              refine lv_if_eq (tgt := 75) hx hb dX7_readInto_64 (by decide) (fun hc_62 => ?_) (fun hc_62 => ?_)
              · have hhc_62 := n_eq (rfl : r_61.toInt = r_61.toInt) (by decide : (0 : Int32).toInt = 0) hc_62
                refine lv_aload_n hx hb dX7_readInto_75 rfl (lv_at hl 1 rfl) ?_
                refine va_ldcS hx hb X.2.2.2.2.2.1 (Z.2.1 _ (List.mem_of_getElem? (i := 7) rfl)) dX7_readInto_76 ?_
                refine s_calli (q := (RX7, TX7, 7)) (As := [.ref (kS.1 7)]) (rest := []) X Z (s_X7_isWord l D cs ad kS K hKO hj G25 hW25 7 (by omega)) (cwV 1 X.2.2.2.2.1 gg_X7_readInto_X7_isWord rfl rfl rfl (by decide +kernel) ⟨Nat.le_of_ble_eq_true rfl, Nat.le_of_ble_eq_true rfl⟩) (by decide) hgc_25 rfl hP hA hS.2.1 hS rfl hl.1 rfl (Nat.le_of_ble_eq_true rfl) dX7_readInto_78 ⟨Nat.le_of_ble_eq_true rfl, Nat.le_of_ble_eq_true rfl⟩ (fun r_65 g_64 H locs hw_63 hP hS => ?_)
                obtain ⟨hw_63g, hw_63⟩ := hw_63
                rw [hw_63g] at hP
                refine lv_if_eq (tgt := 92) hx hb dX7_readInto_81 (by decide) (fun hc_66 => ?_) (fun hc_66 => ?_)
                · have hhc_66 := n_eq (rfl : r_65.toInt = r_65.toInt) (by decide : (0 : Int32).toInt = 0) hc_66
                  refine lv_aload_n hx hb dX7_readInto_92 rfl (lv_at hl 1 rfl) ?_
                  refine va_ldcS hx hb X.2.2.2.2.2.1 (Z.2.1 _ (List.mem_of_getElem? (i := 9) rfl)) dX7_readInto_93 ?_
                  refine s_calli (q := (RX7, TX7, 7)) (As := [.ref (kS.1 9)]) (rest := []) X Z (s_X7_isWord l D cs ad kS K hKO hj G25 hW25 9 (by omega)) (cwV 1 X.2.2.2.2.1 gg_X7_readInto_X7_isWord rfl rfl rfl (by decide +kernel) ⟨Nat.le_of_ble_eq_true rfl, Nat.le_of_ble_eq_true rfl⟩) (by decide) hgc_25 rfl hP hA hS.2.1 hS rfl hl.1 rfl (Nat.le_of_ble_eq_true rfl) dX7_readInto_95 ⟨Nat.le_of_ble_eq_true rfl, Nat.le_of_ble_eq_true rfl⟩ (fun r_69 g_68 H locs hw_67 hP hS => ?_)
                  obtain ⟨hw_67g, hw_67⟩ := hw_67
                  rw [hw_67g] at hP
                  refine lv_if_eq (tgt := 109) hx hb dX7_readInto_98 (by decide) (fun hc_70 => ?_) (fun hc_70 => ?_)
                  · have hhc_70 := n_eq (rfl : r_69.toInt = r_69.toInt) (by decide : (0 : Int32).toInt = 0) hc_70
                    refine lv_aload_n hx hb dX7_readInto_109 rfl (lv_at hl 1 rfl) ?_
                    refine va_ldcS hx hb X.2.2.2.2.2.1 (Z.2.1 _ (List.mem_of_getElem? (i := 13) rfl)) dX7_readInto_110 ?_
                    refine s_calli (q := (RX7, TX7, 7)) (As := [.ref (kS.1 13)]) (rest := []) X Z (s_X7_isWord l D cs ad kS K hKO hj G25 hW25 13 (by omega)) (cwV 1 X.2.2.2.2.1 gg_X7_readInto_X7_isWord rfl rfl rfl (by decide +kernel) ⟨Nat.le_of_ble_eq_true rfl, Nat.le_of_ble_eq_true rfl⟩) (by decide) hgc_25 rfl hP hA hS.2.1 hS rfl hl.1 rfl (Nat.le_of_ble_eq_true rfl) dX7_readInto_112 ⟨Nat.le_of_ble_eq_true rfl, Nat.le_of_ble_eq_true rfl⟩ (fun r_73 g_72 H locs hw_71 hP hS => ?_)
                    obtain ⟨hw_71g, hw_71⟩ := hw_71
                    rw [hw_71g] at hP
                    refine lv_if_eq (tgt := 126) hx hb dX7_readInto_115 (by decide) (fun hc_74 => ?_) (fun hc_74 => ?_)
                    · have hhc_74 := n_eq (rfl : r_73.toInt = r_73.toInt) (by decide : (0 : Int32).toInt = 0) hc_74
                      refine lv_aload_n hx hb dX7_readInto_126 rfl (lv_at hl 1 rfl) ?_
                      refine lv_iconst (v := 1) hx hb dX7_readInto_127 (by decide) ?_
                      refine s_callv (q := (RX7, TX7, 7)) (As := [.int 1]) (rest := []) X Z (s_X7_blame l D cs ad kS K hKO hj G25 hW25 1) (cwV 1 X.2.2.2.2.1 gg_X7_readInto_X7_blame rfl rfl rfl (by decide +kernel) ⟨Nat.le_of_ble_eq_true rfl, Nat.le_of_ble_eq_true rfl⟩) (by decide) hgc_25 rfl hP hA hS.2.1 hS rfl hl.1 rfl (Nat.le_of_ble_eq_true rfl) dX7_readInto_128 ⟨Nat.le_of_ble_eq_true rfl, Nat.le_of_ble_eq_true rfl⟩ (fun g_76 H locs hw_75 hP hS => ?_)
                      obtain ⟨hw_75W, hw_75f⟩ := hw_75
                      have hfr_78 : ∀ j, j ≠ 1 ∧ (j < 23 ∨ 23 + 20 ≤ j) → g_76 j = g j := fun j hj => (hw_75f j (by omega)).trans (hfr25 j hj)
                      exact HJ131 g_76 _ _ ls hw_75W hfr_78 hP hS (lv_sub hl [0, 1, 2] rfl)
                    · have hhc_74 := n_ne (rfl : r_73.toInt = r_73.toInt) (by decide : (0 : Int32).toInt = 0) hc_74
                      refine lv_aload_n hx hb dX7_readInto_118 rfl (lv_at hl 1 rfl) ?_
                      refine lv_aload_n hx hb dX7_readInto_119 rfl (lv_at hl 2 rfl) ?_
                      refine s_callv (q := (RX7, TX7, 7)) (As := [.ref (ad 23)]) (rest := []) X Z (s_X7_readDue l D cs ad kS K hKO hj G25 hW25) (cwV 1 X.2.2.2.2.1 gg_X7_readInto_X7_readDue rfl rfl rfl (by decide +kernel) ⟨Nat.le_of_ble_eq_true rfl, Nat.le_of_ble_eq_true rfl⟩) (by decide) hgc_25 rfl hP hA hS.2.1 hS rfl hl.1 rfl (Nat.le_of_ble_eq_true rfl) dX7_readInto_120 ⟨Nat.le_of_ble_eq_true rfl, Nat.le_of_ble_eq_true rfl⟩ (fun g_80 H locs hw_79 hP hS => ?_)
                      obtain ⟨hw_79W, hw_79f⟩ := hw_79
                      have hfr_82 : ∀ j, j ≠ 1 ∧ (j < 23 ∨ 23 + 20 ≤ j) → g_80 j = g j := fun j hj => (hw_79f j (by omega)).trans (hfr25 j hj)
                      refine lv_goto (tgt := 131) hx hb dX7_readInto_123 (by decide) ?_
                      exact HJ131 g_80 _ _ ls hw_79W hfr_82 hP hS (lv_sub hl [0, 1, 2] rfl)
                  · have hhc_70 := n_ne (rfl : r_69.toInt = r_69.toInt) (by decide : (0 : Int32).toInt = 0) hc_70
                    refine lv_aload_n hx hb dX7_readInto_101 rfl (lv_at hl 1 rfl) ?_
                    refine lv_aload_n hx hb dX7_readInto_102 rfl (lv_at hl 2 rfl) ?_
                    refine s_callv (q := (RX7, TX7, 7)) (As := [.ref (ad 23)]) (rest := []) X Z (s_X7_readIcicle l D cs ad kS K hKO hj G25 hW25) (cwV 1 X.2.2.2.2.1 gg_X7_readInto_X7_readIcicle rfl rfl rfl (by decide +kernel) ⟨Nat.le_of_ble_eq_true rfl, Nat.le_of_ble_eq_true rfl⟩) (by decide) hgc_25 rfl hP hA hS.2.1 hS rfl hl.1 rfl (Nat.le_of_ble_eq_true rfl) dX7_readInto_103 ⟨Nat.le_of_ble_eq_true rfl, Nat.le_of_ble_eq_true rfl⟩ (fun g_84 H locs hw_83 hP hS => ?_)
                    obtain ⟨hw_83W, hw_83f⟩ := hw_83
                    have hfr_86 : ∀ j, j ≠ 1 ∧ (j < 23 ∨ 23 + 20 ≤ j) → g_84 j = g j := fun j hj => (hw_83f j (by omega)).trans (hfr25 j hj)
                    refine lv_goto (tgt := 131) hx hb dX7_readInto_106 (by decide) ?_
                    exact HJ131 g_84 _ _ ls hw_83W hfr_86 hP hS (lv_sub hl [0, 1, 2] rfl)
                · have hhc_66 := n_ne (rfl : r_65.toInt = r_65.toInt) (by decide : (0 : Int32).toInt = 0) hc_66
                  refine lv_aload_n hx hb dX7_readInto_84 rfl (lv_at hl 1 rfl) ?_
                  refine lv_aload_n hx hb dX7_readInto_85 rfl (lv_at hl 2 rfl) ?_
                  refine s_callv (q := (RX7, TX7, 7)) (As := [.ref (ad 23)]) (rest := []) X Z (s_X7_readEave l D cs ad kS K hKO hj G25 hW25) (cwV 1 X.2.2.2.2.1 gg_X7_readInto_X7_readEave rfl rfl rfl (by decide +kernel) ⟨Nat.le_of_ble_eq_true rfl, Nat.le_of_ble_eq_true rfl⟩) (by decide) hgc_25 rfl hP hA hS.2.1 hS rfl hl.1 rfl (Nat.le_of_ble_eq_true rfl) dX7_readInto_86 ⟨Nat.le_of_ble_eq_true rfl, Nat.le_of_ble_eq_true rfl⟩ (fun g_88 H locs hw_87 hP hS => ?_)
                  obtain ⟨hw_87W, hw_87f⟩ := hw_87
                  have hfr_90 : ∀ j, j ≠ 1 ∧ (j < 23 ∨ 23 + 20 ≤ j) → g_88 j = g j := fun j hj => (hw_87f j (by omega)).trans (hfr25 j hj)
                  refine lv_goto (tgt := 131) hx hb dX7_readInto_89 (by decide) ?_
                  exact HJ131 g_88 _ _ ls hw_87W hfr_90 hP hS (lv_sub hl [0, 1, 2] rfl)
              · have hhc_62 := n_ne (rfl : r_61.toInt = r_61.toInt) (by decide : (0 : Int32).toInt = 0) hc_62
                refine lv_aload_n hx hb dX7_readInto_67 rfl (lv_at hl 1 rfl) ?_
                refine lv_aload_n hx hb dX7_readInto_68 rfl (lv_at hl 2 rfl) ?_
                refine s_callv (q := (RX7, TX7, 7)) (As := [.ref (ad 23)]) (rest := []) X Z (s_X7_readDay l D cs ad kS K hKO hj G25 hW25) (cwV 1 X.2.2.2.2.1 gg_X7_readInto_X7_readDay rfl rfl rfl (by decide +kernel) ⟨Nat.le_of_ble_eq_true rfl, Nat.le_of_ble_eq_true rfl⟩) (by decide) hgc_25 rfl hP hA hS.2.1 hS rfl hl.1 rfl (Nat.le_of_ble_eq_true rfl) dX7_readInto_69 ⟨Nat.le_of_ble_eq_true rfl, Nat.le_of_ble_eq_true rfl⟩ (fun g_92 H locs hw_91 hP hS => ?_)
                obtain ⟨hw_91W, hw_91f⟩ := hw_91
                have hfr_94 : ∀ j, j ≠ 1 ∧ (j < 23 ∨ 23 + 20 ≤ j) → g_92 j = g j := fun j hj => (hw_91f j (by omega)).trans (hfr25 j hj)
                refine lv_goto (tgt := 131) hx hb dX7_readInto_72 (by decide) ?_
                exact HJ131 g_92 _ _ ls hw_91W hfr_94 hP hS (lv_sub hl [0, 1, 2] rfl)
            · have hhc_58 := n_eq (rfl : v25_2.toInt = v25_2.toInt) (by decide : (0 : Int32).toInt = 0) hc_58
              refine lv_aload_n hx hb dX7_readInto_50 rfl (lv_at hl 1 rfl) ?_
              refine lv_aload_n hx hb dX7_readInto_51 rfl (lv_at hl 2 rfl) ?_
              refine s_callv (q := (RX7, TX7, 7)) (As := [.ref (ad 23)]) (rest := []) X Z (s_X7_readFirst l D cs ad kS K hKO hj G25 hW25) (cwV 1 X.2.2.2.2.1 gg_X7_readInto_X7_readFirst rfl rfl rfl (by decide +kernel) ⟨Nat.le_of_ble_eq_true rfl, Nat.le_of_ble_eq_true rfl⟩) (by decide) hgc_25 rfl hP hA hS.2.1 hS rfl hl.1 rfl (Nat.le_of_ble_eq_true rfl) dX7_readInto_52 ⟨Nat.le_of_ble_eq_true rfl, Nat.le_of_ble_eq_true rfl⟩ (fun g_96 H locs hw_95 hP hS => ?_)
              obtain ⟨hw_95W, hw_95f⟩ := hw_95
              have hfr_98 : ∀ j, j ≠ 1 ∧ (j < 23 ∨ 23 + 20 ≤ j) → g_96 j = g j := fun j hj => (hw_95f j (by omega)).trans (hfr25 j hj)
              refine lv_goto (tgt := 131) hx hb dX7_readInto_55 (by decide) ?_
              exact HJ131 g_96 _ _ ls hw_95W hfr_98 hP hS (lv_sub hl [0, 1, 2] rfl)
  have hiv25_2 : (0 : Int32).toInt = 0 := by decide
  exact HL25 _ 0 g_17 _ _ ls (Nat.lt_succ_self _) (by omega) hw_16W hfr_19 hP hS (lv_sub hl [0, 1, 2] rfl)

theorem dX12_good_0 : decode cX12_good 0 = .ok (.aload_n 0, 1) := by decide +kernel
theorem dX12_good_1 : decode cX12_good 1 = .ok (.getfield 123, 3) := by decide +kernel
theorem dX12_good_4 : decode cX12_good 4 = .ok (.ifCond .ne 7, 3) := by decide +kernel
theorem dX12_good_7 : decode cX12_good 7 = .ok (.iconst 1, 1) := by decide +kernel
theorem dX12_good_8 : decode cX12_good 8 = .ok (.goto 4, 3) := by decide +kernel
theorem dX12_good_11 : decode cX12_good 11 = .ok (.iconst 0, 1) := by decide +kernel
theorem dX12_good_12 : decode cX12_good 12 = .ok (.ireturn, 1) := by decide +kernel
noncomputable def vX12_good : List Cond := .code yX12_good cX12_good 1 (some .boolean) :: (([.fieldLink RX12 123 "IcicleClockModel" "faultKind" "I"] : List Cond) ++ wsX120)
theorem iX12_good_12 : ∀ w ∈ wsX120, w ∈ vX12_good := fun _ h => List.mem_cons_of_mem _ (List.mem_append_right _ (h))
theorem gs_X12_good : Gd vX12_good := Gd.cons (by decide +kernel) (Gd.app (Gd.r (by decide +kernel)) gwX_12)
set_option maxHeartbeats 4000000 in
set_option maxRecDepth 100000 in
theorem s_X12_good (l : Launch) (D : va_G) (cs : Nat → ClassId) (ad : Nat → Nat) (kS : kSt) (K : sK) (hKO : KO K) (hj : wJ ad 218) (g : Nat → va_E) (hW : WF (shp ad K) ad cs g) : sI l yX12_good vX12_good { frames := 0, cells := 0, slots := 0, locals := 0 } D cs ad kS [.ref (ad 197)] g (fun r g2 => g2 = g ∧ (0 ≤ r.toInt ∧ r.toInt ≤ 1 ∧ (r.toInt ≠ 0 → gI g 197 12 = 0) ∧ (r.toInt = 0 → gI g 197 12 ≠ 0))) := by
  refine Met.startS (cc := cX12_good) (maxL := 1) (ret := (some .boolean)) RX12 rfl (by decide) rfl (Nat.le_of_ble_eq_true rfl) ?_
  intro p e s m below meth c ls X Z hP hl
  have hx := X.1
  have hb := X.2.1
  have hS : va_S (wA ad 218) s.heap s.heap [] := va_S.rf
  have hA : ∀ i, i < 218 → wA ad 218 (ad i) := fun i h => ⟨i, h, rfl⟩
  have hl : lv_has ls 1 [(0, .ref (ad 197))] := hl
  obtain ⟨fsc_1, hgc_1, hOc_1⟩ := hW.obj (i := 197) (by decide) (sh_197 ad K)
  obtain ⟨x_3, hk_2, -⟩ := hOc_1.int 12 rfl
  have hgix_3 := gI_of hgc_1 hk_2
  refine lv_aload_n hx hb dX12_good_0 rfl (lv_at hl 0 rfl) ?_
  refine q_get X iX12_good_12 hP (by decide) hgc_1 rfl 12 (by decide) (List.mem_of_getElem? (i := 1) rfl) (v := .int x_3) hk_2 dX12_good_1 ?_
  refine lv_if_ne (tgt := 11) hx hb dX12_good_4 (by decide) (fun hc_4 => ?_) (fun hc_4 => ?_)
  · have hhc_4 := n_ne (rfl : x_3.toInt = x_3.toInt) (by decide : (0 : Int32).toInt = 0) hc_4
    refine lv_iconst (v := 0) hx hb dX12_good_11 (by decide) ?_
    have hgi_5 := gI_of hgc_1 hk_2
    have hr0 : (0 : Int32).toInt = 0 := by decide
    exact q_zret X hP hS rfl ⟨rfl, (by omega)⟩ dX12_good_12
  · have hhc_4 := n_eq (rfl : x_3.toInt = x_3.toInt) (by decide : (0 : Int32).toInt = 0) hc_4
    refine lv_iconst (v := 1) hx hb dX12_good_7 (by decide) ?_
    refine lv_goto (tgt := 12) hx hb dX12_good_8 (by decide) ?_
    have hgi_6 := gI_of hgc_1 hk_2
    have hr0 : (1 : Int32).toInt = 1 := by decide
    exact q_zret X hP hS rfl ⟨rfl, (by omega)⟩ dX12_good_12

theorem dX12_errs_0 : decode cX12_errs 0 = .ok (.aload_n 0, 1) := by decide +kernel
theorem dX12_errs_1 : decode cX12_errs 1 = .ok (.invokevirtual 126, 3) := by decide +kernel
theorem dX12_errs_4 : decode cX12_errs 4 = .ok (.ifCond .ne 4, 3) := by decide +kernel
theorem dX12_errs_7 : decode cX12_errs 7 = .ok (.return_, 1) := by decide +kernel
theorem dX12_errs_8 : decode cX12_errs 8 = .ok (.aload_n 0, 1) := by decide +kernel
theorem dX12_errs_9 : decode cX12_errs 9 = .ok (.iload_n 1, 1) := by decide +kernel
theorem dX12_errs_10 : decode cX12_errs 10 = .ok (.putfield 123, 3) := by decide +kernel
theorem dX12_errs_13 : decode cX12_errs 13 = .ok (.aload_n 0, 1) := by decide +kernel
theorem dX12_errs_14 : decode cX12_errs 14 = .ok (.aload_n 0, 1) := by decide +kernel
theorem dX12_errs_15 : decode cX12_errs 15 = .ok (.getfield 99, 3) := by decide +kernel
theorem dX12_errs_18 : decode cX12_errs 18 = .ok (.putfield 27, 3) := by decide +kernel
theorem dX12_errs_21 : decode cX12_errs 21 = .ok (.return_, 1) := by decide +kernel
noncomputable def vX12_errs : List Cond := .code yX12_errs cX12_errs 2 none :: (([.methodLink RX12 126 yX12_good, .instanceMethod yX12_good, .selects RX12 yX12_good yX12_good, .initialized RX12, .fieldLink RX12 123 "IcicleClockModel" "faultKind" "I", .fieldLink RX12 99 "IcicleClockModel" "from" "I", .fieldLink RX12 27 "IcicleClockModel" "faultPlace" "I"] : List Cond) ++ (wsX120 ++ vX12_good))
theorem iX12_errs_12 : ∀ w ∈ wsX120, w ∈ vX12_errs := fun _ h => List.mem_cons_of_mem _ (List.mem_append_right _ (List.mem_append_left _ h))
theorem gs_X12_errs : Gd vX12_errs := Gd.cons (by decide +kernel) (Gd.app (Gd.r (by decide +kernel)) (Gd.app gwX_12 gs_X12_good))
theorem gg_X12_errs_X12_good : GoodIn vX12_errs (wsV RX12 126 RX12 yX12_good vX12_good) := goodIn_app (goodIn_r _ [1, 2, 3, 4] (by decide +kernel) (by decide +kernel)) (fun w h => ⟨List.mem_cons_of_mem _ (List.mem_append_right _ (List.mem_append_right _ (h))), gs_X12_good w h⟩)
set_option maxHeartbeats 4000000 in
set_option maxRecDepth 100000 in
theorem s_X12_errs (l : Launch) (D : va_G) (cs : Nat → ClassId) (ad : Nat → Nat) (kS : kSt) (K : sK) (hKO : KO K) (hj : wJ ad 218) (g : Nat → va_E) (hW : WF (shp ad K) ad cs g) (ki : Int32) (hp0 : 1 ≤ ki.toInt ∧ ki.toInt ≤ 3) : sV l yX12_errs vX12_errs { frames := 1, cells := 0, slots := 0, locals := 20 } D cs ad kS [.ref (ad 197), .int ki] g (fun g2 => WF (shp ad K) ad cs g2 ∧ (∀ j, j ≠ 197 → g2 j = g j) ∧ (gI g2 197 12 ≠ 0 ∧ gI g2 197 8 = gI g 197 8)) := by
  refine Met.startS (cc := cX12_errs) (maxL := 2) (ret := none) RX12 rfl (by decide) rfl (Nat.le_of_ble_eq_true rfl) ?_
  intro p e s m below meth c ls X Z hP hl
  have hx := X.1
  have hb := X.2.1
  have hS : va_S (wA ad 218) s.heap s.heap [] := va_S.rf
  have hA : ∀ i, i < 218 → wA ad 218 (ad i) := fun i h => ⟨i, h, rfl⟩
  have hfr : ∀ j, j ≠ 197 → g j = g j := fun _ _ => rfl
  have hl : lv_has ls 2 [(0, .ref (ad 197)), (1, .int ki)] := hl
  obtain ⟨fsc_1, hgc_1, hOc_1⟩ := hW.obj (i := 197) (by decide) (sh_197 ad K)
  obtain ⟨x_3, hk_2, -⟩ := hOc_1.int 12 rfl
  have hgix_3 := gI_of hgc_1 hk_2
  obtain ⟨x_5, hk_4, hlx_5, hhx_5⟩ := hOc_1.int 8 rfl
  have hgix_5 := gI_of hgc_1 hk_4
  refine lv_aload_n hx hb dX12_errs_0 rfl (lv_at hl 0 rfl) ?_
  have hgi_6 := gI_of hgc_1 hk_2
  have hgi_7 := gI_of hgc_1 hk_4
  refine s_calli (q := (RX12, TX12, 40)) (As := []) (rest := []) X Z (s_X12_good l D cs ad kS K hKO hj g hW) (cwV 0 X.2.2.2.2.1 gg_X12_errs_X12_good rfl rfl rfl (by decide +kernel) ⟨Nat.le_of_ble_eq_true rfl, Nat.le_of_ble_eq_true rfl⟩) (by decide) hgc_1 rfl hP hA hS.2.1 hS rfl hl.1 rfl (Nat.le_of_ble_eq_true rfl) dX12_errs_1 ⟨Nat.le_of_ble_eq_true rfl, Nat.le_of_ble_eq_true rfl⟩ (fun r_10 g_9 H locs hw_8 hP hS => ?_)
  obtain ⟨hw_8g, hw_8⟩ := hw_8
  rw [hw_8g] at hP
  refine lv_if_ne (tgt := 8) hx hb dX12_errs_4 (by decide) (fun hc_11 => ?_) (fun hc_11 => ?_)
  · have hhc_11 := n_ne (rfl : r_10.toInt = r_10.toInt) (by decide : (0 : Int32).toInt = 0) hc_11
    refine lv_aload_n hx hb dX12_errs_8 rfl (lv_at hl 0 rfl) ?_
    refine lv_iload_n hx hb dX12_errs_9 rfl (lv_at hl 1 rfl) ?_
    refine s_put X iX12_errs_12 tyX12 tyX12_ok nmX12 hP hj hA hS (by decide) hgc_1 rfl 12 (by decide) (List.mem_of_getElem? (i := 5) rfl) rfl (ty := .int) (v := .int ki) (by decide +kernel) rfl rfl dX12_errs_10 hW (sh_197 ad K) hOc_1 rfl ⟨ki, rfl, n_lo _, n_hi _⟩ (fun fsc_12 gc_12 H locs hOc_12 hkc_12 hnc_12 hgc_12 hfc_12 hWc_12 hP hS => ?_)
    have hk_13 := (hnc_12 8 (by decide)).trans hk_4
    have hfr_14 : ∀ j, j ≠ 197 → gc_12 j = g j := fun j hj => (hfc_12 j (by omega)).trans (hfr j hj)
    have hgi_15 := gI_of hgc_12 hkc_12
    have hgi_16 := gI_of hgc_12 hk_13
    refine lv_aload_n hx hb dX12_errs_13 rfl (lv_at hl 0 rfl) ?_
    refine lv_aload_n hx hb dX12_errs_14 rfl (lv_at hl 0 rfl) ?_
    obtain ⟨x_18, hk_17, hlx_18, hhx_18⟩ := hOc_12.int 9 rfl
    refine q_get X iX12_errs_12 hP (by decide) hgc_12 rfl 9 (by decide) (List.mem_of_getElem? (i := 6) rfl) (v := .int x_18) hk_17 dX12_errs_15 ?_
    refine s_put X iX12_errs_12 tyX12 tyX12_ok nmX12 hP hj hA hS (by decide) hgc_12 rfl 13 (by decide) (List.mem_of_getElem? (i := 7) rfl) rfl (ty := .int) (v := .int x_18) (by decide +kernel) rfl rfl dX12_errs_18 hWc_12 (sh_197 ad K) hOc_12 rfl ⟨x_18, rfl, n_lo _, n_hi _⟩ (fun fsc_19 gc_19 H locs hOc_19 hkc_19 hnc_19 hgc_19 hfc_19 hWc_19 hP hS => ?_)
    have hk_20 := (hnc_19 12 (by decide)).trans hkc_12
    have hk_21 := (hnc_19 8 (by decide)).trans hk_13
    have hk_22 := (hnc_19 9 (by decide)).trans hk_17
    have hfr_23 : ∀ j, j ≠ 197 → gc_19 j = g j := fun j hj => (hfc_19 j (by omega)).trans (hfr_14 j hj)
    have hgi_24 := gI_of hgc_19 hk_20
    have hgi_25 := gI_of hgc_19 hk_21
    have hgi_26 := gI_of hgc_19 hk_20
    have hgi_27 := gI_of hgc_19 hk_21
    exact q_vret X hP hS ⟨hWc_19, hfr_23, (by omega)⟩ dX12_errs_21
  · have hhc_11 := n_eq (rfl : r_10.toInt = r_10.toInt) (by decide : (0 : Int32).toInt = 0) hc_11
    have hgi_28 := gI_of hgc_1 hk_2
    have hgi_29 := gI_of hgc_1 hk_4
    exact q_vret X hP hS ⟨hW, hfr, (by omega)⟩ dX12_errs_7

theorem dX12_is_0 : decode cX12_is 0 = .ok (.aload_n 0, 1) := by decide +kernel
theorem dX12_is_1 : decode cX12_is 1 = .ok (.invokevirtual 126, 3) := by decide +kernel
theorem dX12_is_4 : decode cX12_is 4 = .ok (.ifCond .eq 31, 3) := by decide +kernel
theorem dX12_is_7 : decode cX12_is 7 = .ok (.aload_n 0, 1) := by decide +kernel
theorem dX12_is_8 : decode cX12_is 8 = .ok (.getfield 102, 3) := by decide +kernel
theorem dX12_is_11 : decode cX12_is 11 = .ok (.iconst 1, 1) := by decide +kernel
theorem dX12_is_12 : decode cX12_is 12 = .ok (.if_icmp .ne 23, 3) := by decide +kernel
theorem dX12_is_15 : decode cX12_is 15 = .ok (.aload_n 0, 1) := by decide +kernel
theorem dX12_is_16 : decode cX12_is 16 = .ok (.getfield 92, 3) := by decide +kernel
theorem dX12_is_19 : decode cX12_is 19 = .ok (.aload_n 0, 1) := by decide +kernel
theorem dX12_is_20 : decode cX12_is 20 = .ok (.getfield 99, 3) := by decide +kernel
theorem dX12_is_23 : decode cX12_is 23 = .ok (.isub, 1) := by decide +kernel
theorem dX12_is_24 : decode cX12_is 24 = .ok (.aload_n 1, 1) := by decide +kernel
theorem dX12_is_25 : decode cX12_is 25 = .ok (.invokevirtual 130, 3) := by decide +kernel
theorem dX12_is_28 : decode cX12_is 28 = .ok (.if_icmp .ne 7, 3) := by decide +kernel
theorem dX12_is_31 : decode cX12_is 31 = .ok (.iconst 1, 1) := by decide +kernel
theorem dX12_is_32 : decode cX12_is 32 = .ok (.goto 4, 3) := by decide +kernel
theorem dX12_is_35 : decode cX12_is 35 = .ok (.iconst 0, 1) := by decide +kernel
theorem dX12_is_36 : decode cX12_is 36 = .ok (.istore_n 2, 1) := by decide +kernel
theorem dX12_is_37 : decode cX12_is 37 = .ok (.iconst 0, 1) := by decide +kernel
theorem dX12_is_38 : decode cX12_is 38 = .ok (.istore_n 3, 1) := by decide +kernel
theorem dX12_is_39 : decode cX12_is 39 = .ok (.iload_n 3, 1) := by decide +kernel
theorem dX12_is_40 : decode cX12_is 40 = .ok (.aload_n 1, 1) := by decide +kernel
theorem dX12_is_41 : decode cX12_is 41 = .ok (.invokevirtual 130, 3) := by decide +kernel
theorem dX12_is_44 : decode cX12_is 44 = .ok (.if_icmp .ge 38, 3) := by decide +kernel
theorem dX12_is_47 : decode cX12_is 47 = .ok (.iload_n 2, 1) := by decide +kernel
theorem dX12_is_48 : decode cX12_is 48 = .ok (.ifCond .eq 34, 3) := by decide +kernel
theorem dX12_is_51 : decode cX12_is 51 = .ok (.aload_n 0, 1) := by decide +kernel
theorem dX12_is_52 : decode cX12_is 52 = .ok (.getfield 20, 3) := by decide +kernel
theorem dX12_is_55 : decode cX12_is 55 = .ok (.aload_n 0, 1) := by decide +kernel
theorem dX12_is_56 : decode cX12_is 56 = .ok (.getfield 99, 3) := by decide +kernel
theorem dX12_is_59 : decode cX12_is 59 = .ok (.iload_n 3, 1) := by decide +kernel
theorem dX12_is_60 : decode cX12_is 60 = .ok (.iadd, 1) := by decide +kernel
theorem dX12_is_61 : decode cX12_is 61 = .ok (.baload, 1) := by decide +kernel
theorem dX12_is_62 : decode cX12_is 62 = .ok (.aload_n 1, 1) := by decide +kernel
theorem dX12_is_63 : decode cX12_is 63 = .ok (.iload_n 3, 1) := by decide +kernel
theorem dX12_is_64 : decode cX12_is 64 = .ok (.invokevirtual 136, 3) := by decide +kernel
theorem dX12_is_67 : decode cX12_is 67 = .ok (.if_icmp .ne 7, 3) := by decide +kernel
theorem dX12_is_70 : decode cX12_is 70 = .ok (.iconst 1, 1) := by decide +kernel
theorem dX12_is_71 : decode cX12_is 71 = .ok (.goto 4, 3) := by decide +kernel
theorem dX12_is_74 : decode cX12_is 74 = .ok (.iconst 0, 1) := by decide +kernel
theorem dX12_is_75 : decode cX12_is 75 = .ok (.istore_n 2, 1) := by decide +kernel
theorem dX12_is_76 : decode cX12_is 76 = .ok (.iinc 3 1, 3) := by decide +kernel
theorem dX12_is_79 : decode cX12_is 79 = .ok (.goto (-40), 3) := by decide +kernel
theorem dX12_is_82 : decode cX12_is 82 = .ok (.iload_n 2, 1) := by decide +kernel
theorem dX12_is_83 : decode cX12_is 83 = .ok (.ireturn, 1) := by decide +kernel
noncomputable def vX12_is : List Cond := .code yX12_is cX12_is 4 (some .boolean) :: (([.methodLink RX12 126 yX12_good, .instanceMethod yX12_good, .selects RX12 yX12_good yX12_good, .initialized RX12, .fieldLink RX12 102 "IcicleClockModel" "token" "I", .fieldLink RX12 92 "IcicleClockModel" "at" "I", .fieldLink RX12 99 "IcicleClockModel" "from" "I", .methodLink RX12 130 yJ0_length_8abf5, .instanceMethod yJ0_length_8abf5, .selects RJ0 yJ0_length_8abf5 yJ0_length_8abf5, .initialized RJ0, .fieldLink RX12 20 "IcicleClockModel" "tape" "[B", .methodLink RX12 136 yJ0_charAt_5068e, .instanceMethod yJ0_charAt_5068e, .selects RJ0 yJ0_charAt_5068e yJ0_charAt_5068e] : List Cond) ++ (wsX120 ++ (vX12_good ++ (vJ0_length_8abf5 ++ vJ0_charAt_5068e))))
theorem iX12_is_12 : ∀ w ∈ wsX120, w ∈ vX12_is := fun _ h => List.mem_cons_of_mem _ (List.mem_append_right _ (List.mem_append_left _ h))
theorem gs_X12_is : Gd vX12_is := Gd.cons (by decide +kernel) (Gd.app (Gd.r (by decide +kernel)) (Gd.app gwX_12 (Gd.app gs_X12_good (Gd.app gs_J0_length_8abf5 gs_J0_charAt_5068e))))
theorem gg_X12_is_X12_good : GoodIn vX12_is (wsV RX12 126 RX12 yX12_good vX12_good) := goodIn_app (goodIn_r _ [1, 2, 3, 4] (by decide +kernel) (by decide +kernel)) (fun w h => ⟨List.mem_cons_of_mem _ (List.mem_append_right _ (List.mem_append_right _ (List.mem_append_left _ h))), gs_X12_good w h⟩)
theorem gg_X12_is_J0_length_8abf5 : GoodIn vX12_is (wsV RX12 130 RJ0 yJ0_length_8abf5 vJ0_length_8abf5) := goodIn_app (goodIn_r _ [8, 9, 10, 11] (by decide +kernel) (by decide +kernel)) (fun w h => ⟨List.mem_cons_of_mem _ (List.mem_append_right _ (List.mem_append_right _ (List.mem_append_right _ (List.mem_append_left _ h)))), gs_J0_length_8abf5 w h⟩)
theorem gg_X12_is_J0_charAt_5068e : GoodIn vX12_is (wsV RX12 136 RJ0 yJ0_charAt_5068e vJ0_charAt_5068e) := goodIn_app (goodIn_r _ [13, 14, 15, 11] (by decide +kernel) (by decide +kernel)) (fun w h => ⟨List.mem_cons_of_mem _ (List.mem_append_right _ (List.mem_append_right _ (List.mem_append_right _ (List.mem_append_right _ (h))))), gs_J0_charAt_5068e w h⟩)
set_option maxHeartbeats 4000000 in
set_option maxRecDepth 100000 in
theorem s_X12_is (l : Launch) (D : va_G) (cs : Nat → ClassId) (ad : Nat → Nat) (kS : kSt) (K : sK) (hKO : KO K) (hj : wJ ad 218) (g : Nat → va_E) (hW : WF (shp ad K) ad cs g) (q : Nat) (hp0 : q < 15) : sI l yX12_is vX12_is { frames := 4, cells := 0, slots := 0, locals := 85 } D cs ad kS [.ref (ad 197), .ref (kS.1 q)] g (fun r g2 => g2 = g ∧ (0 ≤ r.toInt ∧ r.toInt ≤ 1 ∧ r.toInt = isI kS g q)) := by
  refine Met.startS (cc := cX12_is) (maxL := 4) (ret := (some .boolean)) RX12 rfl (by decide) rfl (Nat.le_of_ble_eq_true rfl) ?_
  intro p e s m below meth c ls X Z hP hl
  have hx := X.1
  have hb := X.2.1
  have hS : va_S (wA ad 218) s.heap s.heap [] := va_S.rf
  have hA : ∀ i, i < 218 → wA ad 218 (ad i) := fun i h => ⟨i, h, rfl⟩
  have hl : lv_has ls 4 [(0, .ref (ad 197)), (1, .ref (kS.1 q))] := hl
  obtain ⟨fsc_1, hgc_1, hOc_1⟩ := hW.obj (i := 197) (by decide) (sh_197 ad K)
  obtain ⟨x_3, hk_2, hlx_3, hhx_3⟩ := hOc_1.int 10 rfl
  have hgix_3 := gI_of hgc_1 hk_2
  obtain ⟨x_5, hk_4, -⟩ := hOc_1.int 12 rfl
  have hgix_5 := gI_of hgc_1 hk_4
  obtain ⟨x_7, hk_6, hlx_7, hhx_7⟩ := hOc_1.int 8 rfl
  have hgix_7 := gI_of hgc_1 hk_6
  obtain ⟨x_9, hk_8, hlx_9, hhx_9⟩ := hOc_1.int 9 rfl
  have hgix_9 := gI_of hgc_1 hk_8
  refine lv_aload_n hx hb dX12_is_0 rfl (lv_at hl 0 rfl) ?_
  have hgi_10 := gI_of hgc_1 hk_2
  have hgi_11 := gI_of hgc_1 hk_4
  have hgi_12 := gI_of hgc_1 hk_6
  have hgi_13 := gI_of hgc_1 hk_8
  refine s_calli (q := (RX12, TX12, 40)) (As := []) (rest := []) X Z (s_X12_good l D cs ad kS K hKO hj g hW) (cwV 0 X.2.2.2.2.1 gg_X12_is_X12_good rfl rfl rfl (by decide +kernel) ⟨Nat.le_of_ble_eq_true rfl, Nat.le_of_ble_eq_true rfl⟩) (by decide) hgc_1 rfl hP hA hS.2.1 hS rfl hl.1 rfl (Nat.le_of_ble_eq_true rfl) dX12_is_1 ⟨Nat.le_of_ble_eq_true rfl, Nat.le_of_ble_eq_true rfl⟩ (fun r_16 g_15 H locs hw_14 hP hS => ?_)
  obtain ⟨hw_14g, hw_14⟩ := hw_14
  rw [hw_14g] at hP
  have HJ35 : ∀ (H : Heap) (locs : List Loc) (ls : Array Slot), isI kS g q = 0 → va_P D vwCl (wL ad g 218) H → va_S (wA ad 218) s.heap H locs → lv_has ls 4 [(0, .ref (ad 197)), (1, .ref (kS.1 q))] → W p l e ({ frames := 4, cells := 0, slots := 0, locals := 85 } : Room) s m ([.ref (ad 197), .ref (kS.1 q)] : List Value).toArray below meth c H locs 0 0 (MQ below (qI D ad 218 (fun r g2 => g2 = g ∧ (0 ≤ r.toInt ∧ r.toInt ≤ 1 ∧ r.toInt = isI kS g q))) ([.ref (ad 197), .ref (kS.1 q)] : List Value).toArray s 0 0 (wA ad 218)) (F0 m 35 ls []) := by
    intro H locs ls he35_0 hP hS hl
    have hgi_17 := gI_of hgc_1 hk_2
    have hgi_18 := gI_of hgc_1 hk_4
    have hgi_19 := gI_of hgc_1 hk_6
    have hgi_20 := gI_of hgc_1 hk_8
    refine lv_iconst (v := 0) hx hb dX12_is_35 (by decide) ?_
    refine lv_istore_n (lv' := [(2, .int 0), (0, .ref (ad 197)), (1, .ref (kS.1 q))]) hx hb dX12_is_36 rfl hl (by decide) rfl (fun ls hl => ?_)
    refine lv_iconst (v := 0) hx hb dX12_is_37 (by decide) ?_
    refine lv_istore_n (lv' := [(3, .int 0), (2, .int 0), (0, .ref (ad 197)), (1, .ref (kS.1 q))]) hx hb dX12_is_38 rfl hl (by decide) rfl (fun ls hl => ?_)
    have HL39 : ∀ (n39 : Nat) (v39_3 : Int32) (v39_2 : Int32) (H : Heap) (locs : List Loc) (ls : Array Slot), (6 - v39_3.toInt).toNat < n39 → (0 ≤ v39_3.toInt ∧ v39_3.toInt ≤ 6) → (0 ≤ v39_2.toInt ∧ v39_2.toInt ≤ 1) → (v39_2.toInt ≠ 0 → isB kS g q v39_3.toInt) → (v39_2.toInt = 0 → isI kS g q = 0) → va_P D vwCl (wL ad g 218) H → va_S (wA ad 218) s.heap H locs → lv_has ls 4 [(3, .int v39_3), (2, .int v39_2), (0, .ref (ad 197)), (1, .ref (kS.1 q))] → W p l e ({ frames := 4, cells := 0, slots := 0, locals := 85 } : Room) s m ([.ref (ad 197), .ref (kS.1 q)] : List Value).toArray below meth c H locs 0 0 (MQ below (qI D ad 218 (fun r g2 => g2 = g ∧ (0 ≤ r.toInt ∧ r.toInt ≤ 1 ∧ r.toInt = isI kS g q))) ([.ref (ad 197), .ref (kS.1 q)] : List Value).toArray s 0 0 (wA ad 218)) (F0 m 39 ls []) := by
      intro n39
      induction n39 with
      | zero =>
        intro v39_3 v39_2 H locs ls hm39 hv39_0 hv39_1 he39_0 he39_1 hP hS hl
        exact absurd hm39 (Nat.not_lt_zero _)
      | succ n39 ih39 =>
        intro v39_3 v39_2 H locs ls hm39 hv39_0 hv39_1 he39_0 he39_1 hP hS hl
        have hgi_21 := gI_of hgc_1 hk_2
        have hgi_22 := gI_of hgc_1 hk_4
        have hgi_23 := gI_of hgc_1 hk_6
        have hgi_24 := gI_of hgc_1 hk_8
        refine lv_iload_n hx hb dX12_is_39 rfl (lv_at hl 0 rfl) ?_
        refine lv_aload_n hx hb dX12_is_40 rfl (lv_at hl 3 rfl) ?_
        have hgi_25 := gI_of hgc_1 hk_2
        have hgi_26 := gI_of hgc_1 hk_4
        have hgi_27 := gI_of hgc_1 hk_6
        have hgi_28 := gI_of hgc_1 hk_8
        refine s_callt (As := []) (rest := [.int v39_3]) X Z (i := q) (by omega) (s_length l D cs ad kS K hKO hj g hW q (by omega)) (cwV 0 X.2.2.2.2.1 gg_X12_is_J0_length_8abf5 rfl rfl rfl (by decide +kernel) ⟨Nat.le_of_ble_eq_true rfl, Nat.le_of_ble_eq_true rfl⟩) hP hA hS.2.1 hS rfl hl.1 rfl (Nat.le_of_ble_eq_true rfl) dX12_is_41 ⟨Nat.le_of_ble_eq_true rfl, Nat.le_of_ble_eq_true rfl⟩ (fun r_31 g_30 H locs hw_29 hP hS => ?_)
        obtain ⟨hw_29g, hw_29⟩ := hw_29
        rw [hw_29g] at hP
        have hlenle := lenS_le q
        have HJ82 : ∀ (H : Heap) (locs : List Loc) (ls : Array Slot), (v39_2.toInt ≠ 0 → (lenS.getD q 0 : Int) ≤ v39_3.toInt) → va_P D vwCl (wL ad g 218) H → va_S (wA ad 218) s.heap H locs → lv_has ls 4 [(2, .int v39_2)] → W p l e ({ frames := 4, cells := 0, slots := 0, locals := 85 } : Room) s m ([.ref (ad 197), .ref (kS.1 q)] : List Value).toArray below meth c H locs 0 0 (MQ below (qI D ad 218 (fun r g2 => g2 = g ∧ (0 ≤ r.toInt ∧ r.toInt ≤ 1 ∧ r.toInt = isI kS g q))) ([.ref (ad 197), .ref (kS.1 q)] : List Value).toArray s 0 0 (wA ad 218)) (F0 m 82 ls []) := by
          intro H locs ls he82_0 hP hS hl
          have hgi_32 := gI_of hgc_1 hk_2
          have hgi_33 := gI_of hgc_1 hk_4
          have hgi_34 := gI_of hgc_1 hk_6
          have hgi_35 := gI_of hgc_1 hk_8
          refine lv_iload_n hx hb dX12_is_82 rfl (lv_at hl 0 rfl) ?_
          have hgi_36 := gI_of hgc_1 hk_2
          have hgi_37 := gI_of hgc_1 hk_4
          have hgi_38 := gI_of hgc_1 hk_6
          have hgi_39 := gI_of hgc_1 hk_8
          exact q_zret X hP hS (n_bool (by omega) (by omega)) ⟨rfl, ⟨by omega, by omega, by rcases (by omega : v39_2.toInt = 0 ∨ v39_2.toInt ≠ 0) with q | q; rw [he39_1 q]; exact q; rw [isI_yes (he39_0 q) (by omega)]; omega⟩⟩ dX12_is_83
        refine lv_icmp_ge (tgt := 82) hx hb dX12_is_44 (by decide) (fun hc_40 => ?_) (fun hc_40 => ?_)
        · have hhc_40 := n_le (rfl : r_31.toInt = r_31.toInt) (rfl : v39_3.toInt = v39_3.toInt) hc_40
          have hgi_41 := gI_of hgc_1 hk_2
          have hgi_42 := gI_of hgc_1 hk_4
          have hgi_43 := gI_of hgc_1 hk_6
          have hgi_44 := gI_of hgc_1 hk_8
          exact HJ82 _ _ ls (by omega) hP hS (lv_sub hl [1] rfl)
        · have hhc_40 := n_nle (rfl : r_31.toInt = r_31.toInt) (rfl : v39_3.toInt = v39_3.toInt) hc_40
          refine lv_iload_n hx hb dX12_is_47 rfl (lv_at hl 1 rfl) ?_
          refine lv_if_eq (tgt := 82) hx hb dX12_is_48 (by decide) (fun hc_45 => ?_) (fun hc_45 => ?_)
          · have hhc_45 := n_eq (rfl : v39_2.toInt = v39_2.toInt) (by decide : (0 : Int32).toInt = 0) hc_45
            have hgi_46 := gI_of hgc_1 hk_2
            have hgi_47 := gI_of hgc_1 hk_4
            have hgi_48 := gI_of hgc_1 hk_6
            have hgi_49 := gI_of hgc_1 hk_8
            exact HJ82 _ _ ls (by omega) hP hS (lv_sub hl [1] rfl)
          · have hhc_45 := n_ne (rfl : v39_2.toInt = v39_2.toInt) (by decide : (0 : Int32).toInt = 0) hc_45
            have hisb := he39_0 (by omega)
            have hisl := hisb.2.2.1
            have hcl39 := n_cl (rfl : v39_3.toInt = v39_3.toInt) (by omega)
            refine lv_aload_n hx hb dX12_is_51 rfl (lv_at hl 2 rfl) ?_
            have hk_50 := hOc_1.ref 4 rfl
            refine q_get X iX12_is_12 hP (by decide) hgc_1 rfl 4 (by decide) (List.mem_of_getElem? (i := 12) rfl) (v := .ref (ad 201)) hk_50 dX12_is_52 ?_
            refine lv_aload_n hx hb dX12_is_55 rfl (lv_at hl 2 rfl) ?_
            refine q_get X iX12_is_12 hP (by decide) hgc_1 rfl 9 (by decide) (List.mem_of_getElem? (i := 7) rfl) (v := .int x_9) hk_8 dX12_is_56 ?_
            refine lv_iload_n hx hb dX12_is_59 rfl (lv_at hl 0 rfl) ?_
            refine lv_iadd hx hb dX12_is_60 ?_
            refine lv_topi (fun z_51 ez_51 => ?_)
            have hz_51 : z_51.toInt = x_9.toInt + v39_3.toInt := n_add (rfl : x_9.toInt = x_9.toInt) (rfl : v39_3.toInt = v39_3.toInt) ez_51 (by omega) (by omega)
            obtain ⟨fc_52, hgc_52, hFc_52⟩ := hW.arr (i := 201) (by decide) (sh_201 ad K)
            refine q_bald X hP (by decide) hgc_52 (n_in (rfl : z_51.toInt = z_51.toInt) (by omega) (by omega)) dX12_is_61 ?_
            refine lv_topi (fun z_53 ez_53 => ?_)
            have hgaz_53 : gA g 201 (z_51.toNatClampNeg) = z_53.toInt := by rw [ez_53]; exact gA_of hgc_52 _
            have hcl_54 := n_cl (rfl : z_51.toInt = z_51.toInt) (by omega)
            refine lv_aload_n hx hb dX12_is_62 rfl (lv_at hl 3 rfl) ?_
            refine lv_iload_n hx hb dX12_is_63 rfl (lv_at hl 0 rfl) ?_
            have hgi_55 := gI_of hgc_1 hk_2
            have hgi_56 := gI_of hgc_1 hk_4
            have hgi_57 := gI_of hgc_1 hk_6
            have hgi_58 := gI_of hgc_1 hk_8
            refine s_callt (As := [.int v39_3]) (rest := [.int z_53]) X Z (i := q) (by omega) (s_charAtF l D cs ad kS K hKO hj g hW q v39_3 (by omega) (by omega) (by omega)) (cwV 1 X.2.2.2.2.1 gg_X12_is_J0_charAt_5068e rfl rfl rfl (by decide +kernel) ⟨Nat.le_of_ble_eq_true rfl, Nat.le_of_ble_eq_true rfl⟩) hP hA hS.2.1 hS rfl hl.1 rfl (Nat.le_of_ble_eq_true rfl) dX12_is_64 ⟨Nat.le_of_ble_eq_true rfl, Nat.le_of_ble_eq_true rfl⟩ (fun r_61 g_60 H locs hw_59 hP hS => ?_)
            obtain ⟨hw_59g, hw_59⟩ := hw_59
            rw [hw_59g] at hP
            refine lv_icmp_ne (tgt := 74) hx hb dX12_is_67 (by decide) (fun hc_62 => ?_) (fun hc_62 => ?_)
            · have hhc_62 := n_ne (rfl : z_53.toInt = z_53.toInt) (rfl : r_61.toInt = r_61.toInt) hc_62
              refine lv_iconst (v := 0) hx hb dX12_is_74 (by decide) ?_
              refine lv_istore_n (lv' := [(2, .int 0), (3, .int v39_3), (0, .ref (ad 197)), (1, .ref (kS.1 q))]) hx hb dX12_is_75 rfl hl (by decide) rfl (fun ls hl => ?_)
              obtain ⟨x_63, ex_63⟩ : ∃ y : Int32, y = v39_3 + 1 := ⟨_, rfl⟩
              have hx_63 : x_63.toInt = v39_3.toInt + 1 := n_add rfl (by decide : (1 : Int32).toInt = 1) ex_63 (by omega) (by omega)
              refine lv_iinc (v := x_63) (lv' := [(3, .int x_63), (2, .int 0), (0, .ref (ad 197)), (1, .ref (kS.1 q))]) hx hb dX12_is_76 hl (k := 1) rfl (by rw [ex_63]; rfl) (by decide) rfl (fun ls hl => ?_)
              refine lv_goto (tgt := 39) hx hb dX12_is_79 (by decide) ?_
              have hgi_64 := gI_of hgc_1 hk_2
              have hgi_65 := gI_of hgc_1 hk_4
              have hgi_66 := gI_of hgc_1 hk_6
              have hgi_67 := gI_of hgc_1 hk_8
              have hiv39_2 : (0 : Int32).toInt = 0 := by decide
              exact ih39 x_63 0 _ _ ls (by omega) (by omega) (by omega) (fun q => by exfalso; omega) (fun _ => isI_ne (j := v39_3.toNatClampNeg) (by omega) (by rw [show (gI g 197 9 + ((v39_3.toNatClampNeg : Nat) : Int)).toNat = z_51.toNatClampNeg by omega, hgaz_53, ← hw_59]; omega)) hP hS (lv_sub hl [0, 1, 2, 3] rfl)
            · have hhc_62 := n_eq (rfl : z_53.toInt = z_53.toInt) (rfl : r_61.toInt = r_61.toInt) hc_62
              refine lv_iconst (v := 1) hx hb dX12_is_70 (by decide) ?_
              refine lv_goto (tgt := 75) hx hb dX12_is_71 (by decide) ?_
              refine lv_istore_n (lv' := [(2, .int 1), (3, .int v39_3), (0, .ref (ad 197)), (1, .ref (kS.1 q))]) hx hb dX12_is_75 rfl hl (by decide) rfl (fun ls hl => ?_)
              obtain ⟨x_68, ex_68⟩ : ∃ y : Int32, y = v39_3 + 1 := ⟨_, rfl⟩
              have hx_68 : x_68.toInt = v39_3.toInt + 1 := n_add rfl (by decide : (1 : Int32).toInt = 1) ex_68 (by omega) (by omega)
              refine lv_iinc (v := x_68) (lv' := [(3, .int x_68), (2, .int 1), (0, .ref (ad 197)), (1, .ref (kS.1 q))]) hx hb dX12_is_76 hl (k := 1) rfl (by rw [ex_68]; rfl) (by decide) rfl (fun ls hl => ?_)
              refine lv_goto (tgt := 39) hx hb dX12_is_79 (by decide) ?_
              have hgi_69 := gI_of hgc_1 hk_2
              have hgi_70 := gI_of hgc_1 hk_4
              have hgi_71 := gI_of hgc_1 hk_6
              have hgi_72 := gI_of hgc_1 hk_8
              have hiv39_2 : (1 : Int32).toInt = 1 := by decide
              exact ih39 x_68 1 _ _ ls (by omega) (by omega) (by omega) (fun _ => (he39_0 (by omega)).next (a := z_53.toInt) (by omega) hx_68 (by rw [show (gI g 197 9 + v39_3.toInt).toNat = z_51.toNatClampNeg by omega]; exact hgaz_53) hw_59 (by omega)) (fun q => by exfalso; omega) hP hS (lv_sub hl [0, 1, 2, 3] rfl)
    have hgi_73 := gI_of hgc_1 hk_2
    have hgi_74 := gI_of hgc_1 hk_4
    have hgi_75 := gI_of hgc_1 hk_6
    have hgi_76 := gI_of hgc_1 hk_8
    have hiv39_3 : (0 : Int32).toInt = 0 := by decide
    have hiv39_2 : (0 : Int32).toInt = 0 := by decide
    exact HL39 _ 0 0 _ _ ls (Nat.lt_succ_self _) (by omega) (by omega) (fun q => by exfalso; omega) (fun _ => he35_0) hP hS (lv_sub hl [0, 1, 2, 3] rfl)
  refine lv_if_eq (tgt := 35) hx hb dX12_is_4 (by decide) (fun hc_77 => ?_) (fun hc_77 => ?_)
  · have hhc_77 := n_eq (rfl : r_16.toInt = r_16.toInt) (by decide : (0 : Int32).toInt = 0) hc_77
    have hgi_78 := gI_of hgc_1 hk_2
    have hgi_79 := gI_of hgc_1 hk_4
    have hgi_80 := gI_of hgc_1 hk_6
    have hgi_81 := gI_of hgc_1 hk_8
    exact HJ35 _ _ ls (isI_no (by omega)) hP hS (lv_sub hl [0, 1] rfl)
  · have hhc_77 := n_ne (rfl : r_16.toInt = r_16.toInt) (by decide : (0 : Int32).toInt = 0) hc_77
    refine lv_aload_n hx hb dX12_is_7 rfl (lv_at hl 0 rfl) ?_
    refine q_get X iX12_is_12 hP (by decide) hgc_1 rfl 10 (by decide) (List.mem_of_getElem? (i := 5) rfl) (v := .int x_3) hk_2 dX12_is_8 ?_
    refine lv_iconst (v := 1) hx hb dX12_is_11 (by decide) ?_
    refine lv_icmp_ne (tgt := 35) hx hb dX12_is_12 (by decide) (fun hc_82 => ?_) (fun hc_82 => ?_)
    · have hhc_82 := n_ne (rfl : x_3.toInt = x_3.toInt) (by decide : (1 : Int32).toInt = 1) hc_82
      have hgi_83 := gI_of hgc_1 hk_2
      have hgi_84 := gI_of hgc_1 hk_4
      have hgi_85 := gI_of hgc_1 hk_6
      have hgi_86 := gI_of hgc_1 hk_8
      exact HJ35 _ _ ls (isI_no (by omega)) hP hS (lv_sub hl [0, 1] rfl)
    · have hhc_82 := n_eq (rfl : x_3.toInt = x_3.toInt) (by decide : (1 : Int32).toInt = 1) hc_82
      refine lv_aload_n hx hb dX12_is_15 rfl (lv_at hl 0 rfl) ?_
      refine q_get X iX12_is_12 hP (by decide) hgc_1 rfl 8 (by decide) (List.mem_of_getElem? (i := 6) rfl) (v := .int x_7) hk_6 dX12_is_16 ?_
      refine lv_aload_n hx hb dX12_is_19 rfl (lv_at hl 0 rfl) ?_
      refine q_get X iX12_is_12 hP (by decide) hgc_1 rfl 9 (by decide) (List.mem_of_getElem? (i := 7) rfl) (v := .int x_9) hk_8 dX12_is_20 ?_
      refine lv_isub hx hb dX12_is_23 ?_
      refine lv_topi (fun z_87 ez_87 => ?_)
      have hz_87 : z_87.toInt = x_7.toInt - x_9.toInt := n_sub (rfl : x_7.toInt = x_7.toInt) (rfl : x_9.toInt = x_9.toInt) ez_87 (by omega) (by omega)
      refine lv_aload_n hx hb dX12_is_24 rfl (lv_at hl 1 rfl) ?_
      have hgi_88 := gI_of hgc_1 hk_2
      have hgi_89 := gI_of hgc_1 hk_4
      have hgi_90 := gI_of hgc_1 hk_6
      have hgi_91 := gI_of hgc_1 hk_8
      refine s_callt (As := []) (rest := [.int z_87]) X Z (i := q) (by omega) (s_length l D cs ad kS K hKO hj g hW q (by omega)) (cwV 0 X.2.2.2.2.1 gg_X12_is_J0_length_8abf5 rfl rfl rfl (by decide +kernel) ⟨Nat.le_of_ble_eq_true rfl, Nat.le_of_ble_eq_true rfl⟩) hP hA hS.2.1 hS rfl hl.1 rfl (Nat.le_of_ble_eq_true rfl) dX12_is_25 ⟨Nat.le_of_ble_eq_true rfl, Nat.le_of_ble_eq_true rfl⟩ (fun r_94 g_93 H locs hw_92 hP hS => ?_)
      obtain ⟨hw_92g, hw_92⟩ := hw_92
      rw [hw_92g] at hP
      have hlenle := lenS_le q
      refine lv_icmp_ne (tgt := 35) hx hb dX12_is_28 (by decide) (fun hc_95 => ?_) (fun hc_95 => ?_)
      · have hhc_95 := n_ne (rfl : z_87.toInt = z_87.toInt) (rfl : r_94.toInt = r_94.toInt) hc_95
        have hgi_96 := gI_of hgc_1 hk_2
        have hgi_97 := gI_of hgc_1 hk_4
        have hgi_98 := gI_of hgc_1 hk_6
        have hgi_99 := gI_of hgc_1 hk_8
        exact HJ35 _ _ ls (isI_no (by omega)) hP hS (lv_sub hl [0, 1] rfl)
      · have hhc_95 := n_eq (rfl : z_87.toInt = z_87.toInt) (rfl : r_94.toInt = r_94.toInt) hc_95
        refine lv_iconst (v := 1) hx hb dX12_is_31 (by decide) ?_
        refine lv_goto (tgt := 36) hx hb dX12_is_32 (by decide) ?_
        refine lv_istore_n (lv' := [(2, .int 1), (0, .ref (ad 197)), (1, .ref (kS.1 q))]) hx hb dX12_is_36 rfl hl (by decide) rfl (fun ls hl => ?_)
        refine lv_iconst (v := 0) hx hb dX12_is_37 (by decide) ?_
        refine lv_istore_n (lv' := [(3, .int 0), (2, .int 1), (0, .ref (ad 197)), (1, .ref (kS.1 q))]) hx hb dX12_is_38 rfl hl (by decide) rfl (fun ls hl => ?_)
        have HL39 : ∀ (n39 : Nat) (v39_3 : Int32) (v39_2 : Int32) (H : Heap) (locs : List Loc) (ls : Array Slot), (6 - v39_3.toInt).toNat < n39 → (0 ≤ v39_3.toInt ∧ v39_3.toInt ≤ 6) → (0 ≤ v39_2.toInt ∧ v39_2.toInt ≤ 1) → (v39_2.toInt ≠ 0 → isB kS g q v39_3.toInt) → (v39_2.toInt = 0 → isI kS g q = 0) → va_P D vwCl (wL ad g 218) H → va_S (wA ad 218) s.heap H locs → lv_has ls 4 [(3, .int v39_3), (2, .int v39_2), (0, .ref (ad 197)), (1, .ref (kS.1 q))] → W p l e ({ frames := 4, cells := 0, slots := 0, locals := 85 } : Room) s m ([.ref (ad 197), .ref (kS.1 q)] : List Value).toArray below meth c H locs 0 0 (MQ below (qI D ad 218 (fun r g2 => g2 = g ∧ (0 ≤ r.toInt ∧ r.toInt ≤ 1 ∧ r.toInt = isI kS g q))) ([.ref (ad 197), .ref (kS.1 q)] : List Value).toArray s 0 0 (wA ad 218)) (F0 m 39 ls []) := by
          intro n39
          induction n39 with
          | zero =>
            intro v39_3 v39_2 H locs ls hm39 hv39_0 hv39_1 he39_0 he39_1 hP hS hl
            exact absurd hm39 (Nat.not_lt_zero _)
          | succ n39 ih39 =>
            intro v39_3 v39_2 H locs ls hm39 hv39_0 hv39_1 he39_0 he39_1 hP hS hl
            have hgi_100 := gI_of hgc_1 hk_2
            have hgi_101 := gI_of hgc_1 hk_4
            have hgi_102 := gI_of hgc_1 hk_6
            have hgi_103 := gI_of hgc_1 hk_8
            refine lv_iload_n hx hb dX12_is_39 rfl (lv_at hl 0 rfl) ?_
            refine lv_aload_n hx hb dX12_is_40 rfl (lv_at hl 3 rfl) ?_
            have hgi_104 := gI_of hgc_1 hk_2
            have hgi_105 := gI_of hgc_1 hk_4
            have hgi_106 := gI_of hgc_1 hk_6
            have hgi_107 := gI_of hgc_1 hk_8
            refine s_callt (As := []) (rest := [.int v39_3]) X Z (i := q) (by omega) (s_length l D cs ad kS K hKO hj g hW q (by omega)) (cwV 0 X.2.2.2.2.1 gg_X12_is_J0_length_8abf5 rfl rfl rfl (by decide +kernel) ⟨Nat.le_of_ble_eq_true rfl, Nat.le_of_ble_eq_true rfl⟩) hP hA hS.2.1 hS rfl hl.1 rfl (Nat.le_of_ble_eq_true rfl) dX12_is_41 ⟨Nat.le_of_ble_eq_true rfl, Nat.le_of_ble_eq_true rfl⟩ (fun r_110 g_109 H locs hw_108 hP hS => ?_)
            obtain ⟨hw_108g, hw_108⟩ := hw_108
            rw [hw_108g] at hP
            have hlenle := lenS_le q
            have HJ82 : ∀ (H : Heap) (locs : List Loc) (ls : Array Slot), (v39_2.toInt ≠ 0 → (lenS.getD q 0 : Int) ≤ v39_3.toInt) → va_P D vwCl (wL ad g 218) H → va_S (wA ad 218) s.heap H locs → lv_has ls 4 [(2, .int v39_2)] → W p l e ({ frames := 4, cells := 0, slots := 0, locals := 85 } : Room) s m ([.ref (ad 197), .ref (kS.1 q)] : List Value).toArray below meth c H locs 0 0 (MQ below (qI D ad 218 (fun r g2 => g2 = g ∧ (0 ≤ r.toInt ∧ r.toInt ≤ 1 ∧ r.toInt = isI kS g q))) ([.ref (ad 197), .ref (kS.1 q)] : List Value).toArray s 0 0 (wA ad 218)) (F0 m 82 ls []) := by
              intro H locs ls he82_0 hP hS hl
              have hgi_111 := gI_of hgc_1 hk_2
              have hgi_112 := gI_of hgc_1 hk_4
              have hgi_113 := gI_of hgc_1 hk_6
              have hgi_114 := gI_of hgc_1 hk_8
              refine lv_iload_n hx hb dX12_is_82 rfl (lv_at hl 0 rfl) ?_
              have hgi_115 := gI_of hgc_1 hk_2
              have hgi_116 := gI_of hgc_1 hk_4
              have hgi_117 := gI_of hgc_1 hk_6
              have hgi_118 := gI_of hgc_1 hk_8
              exact q_zret X hP hS (n_bool (by omega) (by omega)) ⟨rfl, ⟨by omega, by omega, by rcases (by omega : v39_2.toInt = 0 ∨ v39_2.toInt ≠ 0) with q | q; rw [he39_1 q]; exact q; rw [isI_yes (he39_0 q) (by omega)]; omega⟩⟩ dX12_is_83
            refine lv_icmp_ge (tgt := 82) hx hb dX12_is_44 (by decide) (fun hc_119 => ?_) (fun hc_119 => ?_)
            · have hhc_119 := n_le (rfl : r_110.toInt = r_110.toInt) (rfl : v39_3.toInt = v39_3.toInt) hc_119
              have hgi_120 := gI_of hgc_1 hk_2
              have hgi_121 := gI_of hgc_1 hk_4
              have hgi_122 := gI_of hgc_1 hk_6
              have hgi_123 := gI_of hgc_1 hk_8
              exact HJ82 _ _ ls (by omega) hP hS (lv_sub hl [1] rfl)
            · have hhc_119 := n_nle (rfl : r_110.toInt = r_110.toInt) (rfl : v39_3.toInt = v39_3.toInt) hc_119
              refine lv_iload_n hx hb dX12_is_47 rfl (lv_at hl 1 rfl) ?_
              refine lv_if_eq (tgt := 82) hx hb dX12_is_48 (by decide) (fun hc_124 => ?_) (fun hc_124 => ?_)
              · have hhc_124 := n_eq (rfl : v39_2.toInt = v39_2.toInt) (by decide : (0 : Int32).toInt = 0) hc_124
                have hgi_125 := gI_of hgc_1 hk_2
                have hgi_126 := gI_of hgc_1 hk_4
                have hgi_127 := gI_of hgc_1 hk_6
                have hgi_128 := gI_of hgc_1 hk_8
                exact HJ82 _ _ ls (by omega) hP hS (lv_sub hl [1] rfl)
              · have hhc_124 := n_ne (rfl : v39_2.toInt = v39_2.toInt) (by decide : (0 : Int32).toInt = 0) hc_124
                have hisb := he39_0 (by omega)
                have hisl := hisb.2.2.1
                have hcl39 := n_cl (rfl : v39_3.toInt = v39_3.toInt) (by omega)
                refine lv_aload_n hx hb dX12_is_51 rfl (lv_at hl 2 rfl) ?_
                have hk_129 := hOc_1.ref 4 rfl
                refine q_get X iX12_is_12 hP (by decide) hgc_1 rfl 4 (by decide) (List.mem_of_getElem? (i := 12) rfl) (v := .ref (ad 201)) hk_129 dX12_is_52 ?_
                refine lv_aload_n hx hb dX12_is_55 rfl (lv_at hl 2 rfl) ?_
                refine q_get X iX12_is_12 hP (by decide) hgc_1 rfl 9 (by decide) (List.mem_of_getElem? (i := 7) rfl) (v := .int x_9) hk_8 dX12_is_56 ?_
                refine lv_iload_n hx hb dX12_is_59 rfl (lv_at hl 0 rfl) ?_
                refine lv_iadd hx hb dX12_is_60 ?_
                refine lv_topi (fun z_130 ez_130 => ?_)
                have hz_130 : z_130.toInt = x_9.toInt + v39_3.toInt := n_add (rfl : x_9.toInt = x_9.toInt) (rfl : v39_3.toInt = v39_3.toInt) ez_130 (by omega) (by omega)
                obtain ⟨fc_131, hgc_131, hFc_131⟩ := hW.arr (i := 201) (by decide) (sh_201 ad K)
                refine q_bald X hP (by decide) hgc_131 (n_in (rfl : z_130.toInt = z_130.toInt) (by omega) (by omega)) dX12_is_61 ?_
                refine lv_topi (fun z_132 ez_132 => ?_)
                have hgaz_132 : gA g 201 (z_130.toNatClampNeg) = z_132.toInt := by rw [ez_132]; exact gA_of hgc_131 _
                have hcl_133 := n_cl (rfl : z_130.toInt = z_130.toInt) (by omega)
                refine lv_aload_n hx hb dX12_is_62 rfl (lv_at hl 3 rfl) ?_
                refine lv_iload_n hx hb dX12_is_63 rfl (lv_at hl 0 rfl) ?_
                have hgi_134 := gI_of hgc_1 hk_2
                have hgi_135 := gI_of hgc_1 hk_4
                have hgi_136 := gI_of hgc_1 hk_6
                have hgi_137 := gI_of hgc_1 hk_8
                refine s_callt (As := [.int v39_3]) (rest := [.int z_132]) X Z (i := q) (by omega) (s_charAtF l D cs ad kS K hKO hj g hW q v39_3 (by omega) (by omega) (by omega)) (cwV 1 X.2.2.2.2.1 gg_X12_is_J0_charAt_5068e rfl rfl rfl (by decide +kernel) ⟨Nat.le_of_ble_eq_true rfl, Nat.le_of_ble_eq_true rfl⟩) hP hA hS.2.1 hS rfl hl.1 rfl (Nat.le_of_ble_eq_true rfl) dX12_is_64 ⟨Nat.le_of_ble_eq_true rfl, Nat.le_of_ble_eq_true rfl⟩ (fun r_140 g_139 H locs hw_138 hP hS => ?_)
                obtain ⟨hw_138g, hw_138⟩ := hw_138
                rw [hw_138g] at hP
                refine lv_icmp_ne (tgt := 74) hx hb dX12_is_67 (by decide) (fun hc_141 => ?_) (fun hc_141 => ?_)
                · have hhc_141 := n_ne (rfl : z_132.toInt = z_132.toInt) (rfl : r_140.toInt = r_140.toInt) hc_141
                  refine lv_iconst (v := 0) hx hb dX12_is_74 (by decide) ?_
                  refine lv_istore_n (lv' := [(2, .int 0), (3, .int v39_3), (0, .ref (ad 197)), (1, .ref (kS.1 q))]) hx hb dX12_is_75 rfl hl (by decide) rfl (fun ls hl => ?_)
                  obtain ⟨x_142, ex_142⟩ : ∃ y : Int32, y = v39_3 + 1 := ⟨_, rfl⟩
                  have hx_142 : x_142.toInt = v39_3.toInt + 1 := n_add rfl (by decide : (1 : Int32).toInt = 1) ex_142 (by omega) (by omega)
                  refine lv_iinc (v := x_142) (lv' := [(3, .int x_142), (2, .int 0), (0, .ref (ad 197)), (1, .ref (kS.1 q))]) hx hb dX12_is_76 hl (k := 1) rfl (by rw [ex_142]; rfl) (by decide) rfl (fun ls hl => ?_)
                  refine lv_goto (tgt := 39) hx hb dX12_is_79 (by decide) ?_
                  have hgi_143 := gI_of hgc_1 hk_2
                  have hgi_144 := gI_of hgc_1 hk_4
                  have hgi_145 := gI_of hgc_1 hk_6
                  have hgi_146 := gI_of hgc_1 hk_8
                  have hiv39_2 : (0 : Int32).toInt = 0 := by decide
                  exact ih39 x_142 0 _ _ ls (by omega) (by omega) (by omega) (fun q => by exfalso; omega) (fun _ => isI_ne (j := v39_3.toNatClampNeg) (by omega) (by rw [show (gI g 197 9 + ((v39_3.toNatClampNeg : Nat) : Int)).toNat = z_130.toNatClampNeg by omega, hgaz_132, ← hw_138]; omega)) hP hS (lv_sub hl [0, 1, 2, 3] rfl)
                · have hhc_141 := n_eq (rfl : z_132.toInt = z_132.toInt) (rfl : r_140.toInt = r_140.toInt) hc_141
                  refine lv_iconst (v := 1) hx hb dX12_is_70 (by decide) ?_
                  refine lv_goto (tgt := 75) hx hb dX12_is_71 (by decide) ?_
                  refine lv_istore_n (lv' := [(2, .int 1), (3, .int v39_3), (0, .ref (ad 197)), (1, .ref (kS.1 q))]) hx hb dX12_is_75 rfl hl (by decide) rfl (fun ls hl => ?_)
                  obtain ⟨x_147, ex_147⟩ : ∃ y : Int32, y = v39_3 + 1 := ⟨_, rfl⟩
                  have hx_147 : x_147.toInt = v39_3.toInt + 1 := n_add rfl (by decide : (1 : Int32).toInt = 1) ex_147 (by omega) (by omega)
                  refine lv_iinc (v := x_147) (lv' := [(3, .int x_147), (2, .int 1), (0, .ref (ad 197)), (1, .ref (kS.1 q))]) hx hb dX12_is_76 hl (k := 1) rfl (by rw [ex_147]; rfl) (by decide) rfl (fun ls hl => ?_)
                  refine lv_goto (tgt := 39) hx hb dX12_is_79 (by decide) ?_
                  have hgi_148 := gI_of hgc_1 hk_2
                  have hgi_149 := gI_of hgc_1 hk_4
                  have hgi_150 := gI_of hgc_1 hk_6
                  have hgi_151 := gI_of hgc_1 hk_8
                  have hiv39_2 : (1 : Int32).toInt = 1 := by decide
                  exact ih39 x_147 1 _ _ ls (by omega) (by omega) (by omega) (fun _ => (he39_0 (by omega)).next (a := z_132.toInt) (by omega) hx_147 (by rw [show (gI g 197 9 + v39_3.toInt).toNat = z_130.toNatClampNeg by omega]; exact hgaz_132) hw_138 (by omega)) (fun q => by exfalso; omega) hP hS (lv_sub hl [0, 1, 2, 3] rfl)
        have hgi_152 := gI_of hgc_1 hk_2
        have hgi_153 := gI_of hgc_1 hk_4
        have hgi_154 := gI_of hgc_1 hk_6
        have hgi_155 := gI_of hgc_1 hk_8
        have hiv39_3 : (0 : Int32).toInt = 0 := by decide
        have hiv39_2 : (1 : Int32).toInt = 1 := by decide
        exact HL39 _ 0 1 _ _ ls (Nat.lt_succ_self _) (by omega) (by omega) (fun _ => ⟨by omega, by omega, by omega, fun j h1 _ => by exfalso; omega⟩) (fun q => by exfalso; omega) hP hS (lv_sub hl [0, 1, 2, 3] rfl)

theorem dX12_takes_0 : decode cX12_takes 0 = .ok (.aload_n 0, 1) := by decide +kernel
theorem dX12_takes_1 : decode cX12_takes 1 = .ok (.aload_n 1, 1) := by decide +kernel
theorem dX12_takes_2 : decode cX12_takes 2 = .ok (.invokevirtual 140, 3) := by decide +kernel
theorem dX12_takes_5 : decode cX12_takes 5 = .ok (.istore_n 2, 1) := by decide +kernel
theorem dX12_takes_6 : decode cX12_takes 6 = .ok (.iload_n 2, 1) := by decide +kernel
theorem dX12_takes_7 : decode cX12_takes 7 = .ok (.ifCond .eq 7, 3) := by decide +kernel
theorem dX12_takes_10 : decode cX12_takes 10 = .ok (.aload_n 0, 1) := by decide +kernel
theorem dX12_takes_11 : decode cX12_takes 11 = .ok (.invokevirtual 144, 3) := by decide +kernel
theorem dX12_takes_14 : decode cX12_takes 14 = .ok (.iload_n 2, 1) := by decide +kernel
theorem dX12_takes_15 : decode cX12_takes 15 = .ok (.ireturn, 1) := by decide +kernel
noncomputable def vX12_takes : List Cond := .code yX12_takes cX12_takes 3 (some .boolean) :: (([.methodLink RX12 140 yX12_is, .instanceMethod yX12_is, .selects RX12 yX12_is yX12_is, .initialized RX12, .methodLink RX12 144 yX12_advance, .instanceMethod yX12_advance, .selects RX12 yX12_advance yX12_advance] : List Cond) ++ (vX12_is ++ vX12_advance))
theorem gs_X12_takes : Gd vX12_takes := Gd.cons (by decide +kernel) (Gd.app (Gd.r (by decide +kernel)) (Gd.app gs_X12_is gs_X12_advance))
theorem gg_X12_takes_X12_is : GoodIn vX12_takes (wsV RX12 140 RX12 yX12_is vX12_is) := goodIn_app (goodIn_r _ [1, 2, 3, 4] (by decide +kernel) (by decide +kernel)) (fun w h => ⟨List.mem_cons_of_mem _ (List.mem_append_right _ (List.mem_append_left _ h)), gs_X12_is w h⟩)
theorem gg_X12_takes_X12_advance : GoodIn vX12_takes (wsV RX12 144 RX12 yX12_advance vX12_advance) := goodIn_app (goodIn_r _ [5, 6, 7, 4] (by decide +kernel) (by decide +kernel)) (fun w h => ⟨List.mem_cons_of_mem _ (List.mem_append_right _ (List.mem_append_right _ (h))), gs_X12_advance w h⟩)
set_option maxHeartbeats 4000000 in
set_option maxRecDepth 100000 in
theorem s_X12_takes (l : Launch) (D : va_G) (cs : Nat → ClassId) (ad : Nat → Nat) (kS : kSt) (K : sK) (hKO : KO K) (hj : wJ ad 218) (g : Nat → va_E) (hW : WF (shp ad K) ad cs g) (q : Nat) (hp0 : q < 15) : sI l yX12_takes vX12_takes { frames := 5, cells := 0, slots := 0, locals := 108 } D cs ad kS [.ref (ad 197), .ref (kS.1 q)] g (fun r g2 => WF (shp ad K) ad cs g2 ∧ (∀ j, j ≠ 197 → g2 j = g j) ∧ (0 ≤ r.toInt ∧ r.toInt ≤ 1 ∧ r.toInt = isI kS g q ∧ (r.toInt = 0 → g2 = g) ∧ gI g 197 8 ≤ gI g2 197 8 ∧ gI g2 197 12 = gI g 197 12)) := by
  refine Met.startS (cc := cX12_takes) (maxL := 3) (ret := (some .boolean)) RX12 rfl (by decide) rfl (Nat.le_of_ble_eq_true rfl) ?_
  intro p e s m below meth c ls X Z hP hl
  have hx := X.1
  have hb := X.2.1
  have hS : va_S (wA ad 218) s.heap s.heap [] := va_S.rf
  have hA : ∀ i, i < 218 → wA ad 218 (ad i) := fun i h => ⟨i, h, rfl⟩
  have hfr : ∀ j, j ≠ 197 → g j = g j := fun _ _ => rfl
  have hl : lv_has ls 3 [(0, .ref (ad 197)), (1, .ref (kS.1 q))] := hl
  obtain ⟨fsc_1, hgc_1, hOc_1⟩ := hW.obj (i := 197) (by decide) (sh_197 ad K)
  obtain ⟨x_3, hk_2, -⟩ := hOc_1.int 12 rfl
  have hgix_3 := gI_of hgc_1 hk_2
  obtain ⟨x_5, hk_4, hlx_5, hhx_5⟩ := hOc_1.int 8 rfl
  have hgix_5 := gI_of hgc_1 hk_4
  refine lv_aload_n hx hb dX12_takes_0 rfl (lv_at hl 0 rfl) ?_
  refine lv_aload_n hx hb dX12_takes_1 rfl (lv_at hl 1 rfl) ?_
  have hgi_6 := gI_of hgc_1 hk_2
  have hgi_7 := gI_of hgc_1 hk_4
  refine s_calli (q := (RX12, TX12, 40)) (As := [.ref (kS.1 q)]) (rest := []) X Z (s_X12_is l D cs ad kS K hKO hj g hW q (by omega)) (cwV 1 X.2.2.2.2.1 gg_X12_takes_X12_is rfl rfl rfl (by decide +kernel) ⟨Nat.le_of_ble_eq_true rfl, Nat.le_of_ble_eq_true rfl⟩) (by decide) hgc_1 rfl hP hA hS.2.1 hS rfl hl.1 rfl (Nat.le_of_ble_eq_true rfl) dX12_takes_2 ⟨Nat.le_of_ble_eq_true rfl, Nat.le_of_ble_eq_true rfl⟩ (fun r_10 g_9 H locs hw_8 hP hS => ?_)
  obtain ⟨hw_8g, hw_8⟩ := hw_8
  rw [hw_8g] at hP
  refine lv_istore_n (lv' := [(2, .int r_10), (0, .ref (ad 197)), (1, .ref (kS.1 q))]) hx hb dX12_takes_5 rfl hl (by decide) rfl (fun ls hl => ?_)
  refine lv_iload_n hx hb dX12_takes_6 rfl (lv_at hl 0 rfl) ?_
  refine lv_if_eq (tgt := 14) hx hb dX12_takes_7 (by decide) (fun hc_11 => ?_) (fun hc_11 => ?_)
  · have hhc_11 := n_eq (rfl : r_10.toInt = r_10.toInt) (by decide : (0 : Int32).toInt = 0) hc_11
    refine lv_iload_n hx hb dX12_takes_14 rfl (lv_at hl 0 rfl) ?_
    have hgi_12 := gI_of hgc_1 hk_2
    have hgi_13 := gI_of hgc_1 hk_4
    exact q_zret X hP hS (n_bool (by omega) (by omega)) ⟨hW, hfr, ⟨by omega, by omega, by omega, fun _ => rfl, by omega, by omega⟩⟩ dX12_takes_15
  · have hhc_11 := n_ne (rfl : r_10.toInt = r_10.toInt) (by decide : (0 : Int32).toInt = 0) hc_11
    refine lv_aload_n hx hb dX12_takes_10 rfl (lv_at hl 1 rfl) ?_
    have hgi_14 := gI_of hgc_1 hk_2
    have hgi_15 := gI_of hgc_1 hk_4
    refine s_callv (q := (RX12, TX12, 40)) (As := []) (rest := []) X Z (s_X12_advance l D cs ad kS K hKO hj g hW) (cwV 0 X.2.2.2.2.1 gg_X12_takes_X12_advance rfl rfl rfl (by decide +kernel) ⟨Nat.le_of_ble_eq_true rfl, Nat.le_of_ble_eq_true rfl⟩) (by decide) hgc_1 rfl hP hA hS.2.1 hS rfl hl.1 rfl (Nat.le_of_ble_eq_true rfl) dX12_takes_11 ⟨Nat.le_of_ble_eq_true rfl, Nat.le_of_ble_eq_true rfl⟩ (fun g_17 H locs hw_16 hP hS => ?_)
    obtain ⟨hw_16W, hw_16f, hw_16⟩ := hw_16
    have hfr_19 : ∀ j, j ≠ 197 → g_17 j = g j := fun j hj => (hw_16f j (by omega)).trans (hfr j hj)
    refine lv_iload_n hx hb dX12_takes_14 rfl (lv_at hl 0 rfl) ?_
    obtain ⟨fsc_20, hgc_20, hOc_20⟩ := hw_16W.obj (i := 197) (by decide) (sh_197 ad K)
    obtain ⟨x_22, hk_21, -⟩ := hOc_20.int 12 rfl
    have hgix_22 := gI_of hgc_20 hk_21
    obtain ⟨x_25, hk_24, hlx_25, hhx_25⟩ := hOc_20.int 8 rfl
    have hgix_25 := gI_of hgc_20 hk_24
    exact q_zret X hP hS (n_bool (by omega) (by omega)) ⟨hw_16W, hfr_19, ⟨by omega, by omega, by omega, fun h => by exfalso; omega, by omega, by omega⟩⟩ dX12_takes_15

theorem dX12_needs_0 : decode cX12_needs 0 = .ok (.aload_n 0, 1) := by decide +kernel
theorem dX12_needs_1 : decode cX12_needs 1 = .ok (.aload_n 1, 1) := by decide +kernel
theorem dX12_needs_2 : decode cX12_needs 2 = .ok (.invokevirtual 147, 3) := by decide +kernel
theorem dX12_needs_5 : decode cX12_needs 5 = .ok (.ifCond .ne 8, 3) := by decide +kernel
theorem dX12_needs_8 : decode cX12_needs 8 = .ok (.aload_n 0, 1) := by decide +kernel
theorem dX12_needs_9 : decode cX12_needs 9 = .ok (.iconst 1, 1) := by decide +kernel
theorem dX12_needs_10 : decode cX12_needs 10 = .ok (.invokevirtual 150, 3) := by decide +kernel
theorem dX12_needs_13 : decode cX12_needs 13 = .ok (.return_, 1) := by decide +kernel
noncomputable def vX12_needs : List Cond := .code yX12_needs cX12_needs 2 none :: (([.methodLink RX12 147 yX12_takes, .instanceMethod yX12_takes, .selects RX12 yX12_takes yX12_takes, .initialized RX12, .methodLink RX12 150 yX12_errs, .instanceMethod yX12_errs, .selects RX12 yX12_errs yX12_errs] : List Cond) ++ (vX12_takes ++ vX12_errs))
theorem gs_X12_needs : Gd vX12_needs := Gd.cons (by decide +kernel) (Gd.app (Gd.r (by decide +kernel)) (Gd.app gs_X12_takes gs_X12_errs))
theorem gg_X12_needs_X12_takes : GoodIn vX12_needs (wsV RX12 147 RX12 yX12_takes vX12_takes) := goodIn_app (goodIn_r _ [1, 2, 3, 4] (by decide +kernel) (by decide +kernel)) (fun w h => ⟨List.mem_cons_of_mem _ (List.mem_append_right _ (List.mem_append_left _ h)), gs_X12_takes w h⟩)
theorem gg_X12_needs_X12_errs : GoodIn vX12_needs (wsV RX12 150 RX12 yX12_errs vX12_errs) := goodIn_app (goodIn_r _ [5, 6, 7, 4] (by decide +kernel) (by decide +kernel)) (fun w h => ⟨List.mem_cons_of_mem _ (List.mem_append_right _ (List.mem_append_right _ (h))), gs_X12_errs w h⟩)
set_option maxHeartbeats 4000000 in
set_option maxRecDepth 100000 in
theorem s_X12_needs (l : Launch) (D : va_G) (cs : Nat → ClassId) (ad : Nat → Nat) (kS : kSt) (K : sK) (hKO : KO K) (hj : wJ ad 218) (g : Nat → va_E) (hW : WF (shp ad K) ad cs g) (q : Nat) (hp0 : q < 15) : sV l yX12_needs vX12_needs { frames := 6, cells := 0, slots := 0, locals := 130 } D cs ad kS [.ref (ad 197), .ref (kS.1 q)] g (fun g2 => WF (shp ad K) ad cs g2 ∧ (∀ j, j ≠ 197 → g2 j = g j) ∧ (gI g 197 8 ≤ gI g2 197 8)) := by
  refine Met.startS (cc := cX12_needs) (maxL := 2) (ret := none) RX12 rfl (by decide) rfl (Nat.le_of_ble_eq_true rfl) ?_
  intro p e s m below meth c ls X Z hP hl
  have hx := X.1
  have hb := X.2.1
  have hS : va_S (wA ad 218) s.heap s.heap [] := va_S.rf
  have hA : ∀ i, i < 218 → wA ad 218 (ad i) := fun i h => ⟨i, h, rfl⟩
  have hfr : ∀ j, j ≠ 197 → g j = g j := fun _ _ => rfl
  have hl : lv_has ls 2 [(0, .ref (ad 197)), (1, .ref (kS.1 q))] := hl
  obtain ⟨fsc_1, hgc_1, hOc_1⟩ := hW.obj (i := 197) (by decide) (sh_197 ad K)
  obtain ⟨x_3, hk_2, -⟩ := hOc_1.int 12 rfl
  have hgix_3 := gI_of hgc_1 hk_2
  obtain ⟨x_5, hk_4, hlx_5, hhx_5⟩ := hOc_1.int 8 rfl
  have hgix_5 := gI_of hgc_1 hk_4
  refine lv_aload_n hx hb dX12_needs_0 rfl (lv_at hl 0 rfl) ?_
  refine lv_aload_n hx hb dX12_needs_1 rfl (lv_at hl 1 rfl) ?_
  have hgi_6 := gI_of hgc_1 hk_2
  have hgi_7 := gI_of hgc_1 hk_4
  refine s_calli (q := (RX12, TX12, 40)) (As := [.ref (kS.1 q)]) (rest := []) X Z (s_X12_takes l D cs ad kS K hKO hj g hW q (by omega)) (cwV 1 X.2.2.2.2.1 gg_X12_needs_X12_takes rfl rfl rfl (by decide +kernel) ⟨Nat.le_of_ble_eq_true rfl, Nat.le_of_ble_eq_true rfl⟩) (by decide) hgc_1 rfl hP hA hS.2.1 hS rfl hl.1 rfl (Nat.le_of_ble_eq_true rfl) dX12_needs_2 ⟨Nat.le_of_ble_eq_true rfl, Nat.le_of_ble_eq_true rfl⟩ (fun r_10 g_9 H locs hw_8 hP hS => ?_)
  obtain ⟨hw_8W, hw_8f, hw_8⟩ := hw_8
  have hfr_11 : ∀ j, j ≠ 197 → g_9 j = g j := fun j hj => (hw_8f j (by omega)).trans (hfr j hj)
  have HJ13 : ∀ (G13 : Nat → va_E) (H : Heap) (locs : List Loc) (ls : Array Slot), gI g 197 8 ≤ gI G13 197 8 → WF (shp ad K) ad cs G13 → (∀ j, j ≠ 197 → G13 j = g j) → va_P D vwCl (wL ad G13 218) H → va_S (wA ad 218) s.heap H locs → lv_has ls 2 [] → W p l e ({ frames := 6, cells := 0, slots := 0, locals := 130 } : Room) s m ([.ref (ad 197), .ref (kS.1 q)] : List Value).toArray below meth c H locs 0 0 (MQ below (qV D ad 218 (fun g2 => WF (shp ad K) ad cs g2 ∧ (∀ j, j ≠ 197 → g2 j = g j) ∧ (gI g 197 8 ≤ gI g2 197 8))) ([.ref (ad 197), .ref (kS.1 q)] : List Value).toArray s 0 0 (wA ad 218)) (F0 m 13 ls []) := by
    intro G13 H locs ls he13_0 hW13 hfr13 hP hS hl
    obtain ⟨fsc_12, hgc_12, hOc_12⟩ := hW13.obj (i := 197) (by decide) (sh_197 ad K)
    obtain ⟨x_14, hk_13, -⟩ := hOc_12.int 12 rfl
    have hgix_14 := gI_of hgc_12 hk_13
    obtain ⟨x_17, hk_16, hlx_17, hhx_17⟩ := hOc_12.int 8 rfl
    have hgix_17 := gI_of hgc_12 hk_16
    have hgi_19 := gI_of hgc_12 hk_13
    have hgi_20 := gI_of hgc_12 hk_16
    exact q_vret X hP hS ⟨hW13, hfr13, (by omega)⟩ dX12_needs_13
  refine lv_if_ne (tgt := 13) hx hb dX12_needs_5 (by decide) (fun hc_21 => ?_) (fun hc_21 => ?_)
  · have hhc_21 := n_ne (rfl : r_10.toInt = r_10.toInt) (by decide : (0 : Int32).toInt = 0) hc_21
    obtain ⟨fsc_22, hgc_22, hOc_22⟩ := hw_8W.obj (i := 197) (by decide) (sh_197 ad K)
    obtain ⟨x_24, hk_23, -⟩ := hOc_22.int 12 rfl
    have hgix_24 := gI_of hgc_22 hk_23
    obtain ⟨x_27, hk_26, hlx_27, hhx_27⟩ := hOc_22.int 8 rfl
    have hgix_27 := gI_of hgc_22 hk_26
    exact HJ13 g_9 _ _ ls (by omega) hw_8W hfr_11 hP hS (lv_sub hl [] rfl)
  · have hhc_21 := n_eq (rfl : r_10.toInt = r_10.toInt) (by decide : (0 : Int32).toInt = 0) hc_21
    refine lv_aload_n hx hb dX12_needs_8 rfl (lv_at hl 0 rfl) ?_
    refine lv_iconst (v := 1) hx hb dX12_needs_9 (by decide) ?_
    obtain ⟨fsc_29, hgc_29, hOc_29⟩ := hw_8W.obj (i := 197) (by decide) (sh_197 ad K)
    obtain ⟨x_31, hk_30, -⟩ := hOc_29.int 12 rfl
    have hgix_31 := gI_of hgc_29 hk_30
    obtain ⟨x_34, hk_33, hlx_34, hhx_34⟩ := hOc_29.int 8 rfl
    have hgix_34 := gI_of hgc_29 hk_33
    have hqk_36 : (1 : Int32).toInt = 1 := by decide
    refine s_callv (q := (RX12, TX12, 40)) (As := [.int 1]) (rest := []) X Z (s_X12_errs l D cs ad kS K hKO hj g_9 hw_8W 1 (by omega)) (cwV 1 X.2.2.2.2.1 gg_X12_needs_X12_errs rfl rfl rfl (by decide +kernel) ⟨Nat.le_of_ble_eq_true rfl, Nat.le_of_ble_eq_true rfl⟩) (by decide) hgc_29 rfl hP hA hS.2.1 hS rfl hl.1 rfl (Nat.le_of_ble_eq_true rfl) dX12_needs_10 ⟨Nat.le_of_ble_eq_true rfl, Nat.le_of_ble_eq_true rfl⟩ (fun g_38 H locs hw_37 hP hS => ?_)
    obtain ⟨hw_37W, hw_37f, hw_37⟩ := hw_37
    have hfr_40 : ∀ j, j ≠ 197 → g_38 j = g j := fun j hj => (hw_37f j (by omega)).trans (hfr_11 j hj)
    obtain ⟨fsc_41, hgc_41, hOc_41⟩ := hw_37W.obj (i := 197) (by decide) (sh_197 ad K)
    obtain ⟨x_43, hk_42, -⟩ := hOc_41.int 12 rfl
    have hgix_43 := gI_of hgc_41 hk_42
    obtain ⟨x_46, hk_45, hlx_46, hhx_46⟩ := hOc_41.int 8 rfl
    have hgix_46 := gI_of hgc_41 hk_45
    exact HJ13 g_38 _ _ ls (by omega) hw_37W hfr_40 hP hS (lv_sub hl [] rfl)

theorem dX12_number_0 : decode cX12_number 0 = .ok (.aload_n 0, 1) := by decide +kernel
theorem dX12_number_1 : decode cX12_number 1 = .ok (.invokevirtual 126, 3) := by decide +kernel
theorem dX12_number_4 : decode cX12_number 4 = .ok (.ifCond .eq 16, 3) := by decide +kernel
theorem dX12_number_7 : decode cX12_number 7 = .ok (.aload_n 0, 1) := by decide +kernel
theorem dX12_number_8 : decode cX12_number 8 = .ok (.getfield 102, 3) := by decide +kernel
theorem dX12_number_11 : decode cX12_number 11 = .ok (.iconst 2, 1) := by decide +kernel
theorem dX12_number_12 : decode cX12_number 12 = .ok (.if_icmp .eq 8, 3) := by decide +kernel
theorem dX12_number_15 : decode cX12_number 15 = .ok (.aload_n 0, 1) := by decide +kernel
theorem dX12_number_16 : decode cX12_number 16 = .ok (.iconst 1, 1) := by decide +kernel
theorem dX12_number_17 : decode cX12_number 17 = .ok (.invokevirtual 150, 3) := by decide +kernel
theorem dX12_number_20 : decode cX12_number 20 = .ok (.aload_n 0, 1) := by decide +kernel
theorem dX12_number_21 : decode cX12_number 21 = .ok (.invokevirtual 126, 3) := by decide +kernel
theorem dX12_number_24 : decode cX12_number 24 = .ok (.ifCond .eq 23, 3) := by decide +kernel
theorem dX12_number_27 : decode cX12_number 27 = .ok (.aload_n 0, 1) := by decide +kernel
theorem dX12_number_28 : decode cX12_number 28 = .ok (.getfield 113, 3) := by decide +kernel
theorem dX12_number_31 : decode cX12_number 31 = .ok (.i2l, 1) := by decide +kernel
theorem dX12_number_32 : decode cX12_number 32 = .ok (.iload_n 1, 1) := by decide +kernel
theorem dX12_number_33 : decode cX12_number 33 = .ok (.i2l, 1) := by decide +kernel
theorem dX12_number_34 : decode cX12_number 34 = .ok (.iload_n 2, 1) := by decide +kernel
theorem dX12_number_35 : decode cX12_number 35 = .ok (.i2l, 1) := by decide +kernel
theorem dX12_number_36 : decode cX12_number 36 = .ok (.invokestatic 82, 3) := by decide +kernel
theorem dX12_number_39 : decode cX12_number 39 = .ok (.ifCond .ne 8, 3) := by decide +kernel
theorem dX12_number_42 : decode cX12_number 42 = .ok (.aload_n 0, 1) := by decide +kernel
theorem dX12_number_43 : decode cX12_number 43 = .ok (.iconst 2, 1) := by decide +kernel
theorem dX12_number_44 : decode cX12_number 44 = .ok (.invokevirtual 150, 3) := by decide +kernel
theorem dX12_number_47 : decode cX12_number 47 = .ok (.aload_n 0, 1) := by decide +kernel
theorem dX12_number_48 : decode cX12_number 48 = .ok (.invokevirtual 126, 3) := by decide +kernel
theorem dX12_number_51 : decode cX12_number 51 = .ok (.ifCond .ne 5, 3) := by decide +kernel
theorem dX12_number_54 : decode cX12_number 54 = .ok (.iconst 0, 1) := by decide +kernel
theorem dX12_number_55 : decode cX12_number 55 = .ok (.ireturn, 1) := by decide +kernel
theorem dX12_number_56 : decode cX12_number 56 = .ok (.aload_n 0, 1) := by decide +kernel
theorem dX12_number_57 : decode cX12_number 57 = .ok (.getfield 113, 3) := by decide +kernel
theorem dX12_number_60 : decode cX12_number 60 = .ok (.istore_n 3, 1) := by decide +kernel
theorem dX12_number_61 : decode cX12_number 61 = .ok (.aload_n 0, 1) := by decide +kernel
theorem dX12_number_62 : decode cX12_number 62 = .ok (.invokevirtual 144, 3) := by decide +kernel
theorem dX12_number_65 : decode cX12_number 65 = .ok (.iload_n 3, 1) := by decide +kernel
theorem dX12_number_66 : decode cX12_number 66 = .ok (.ireturn, 1) := by decide +kernel
noncomputable def vX12_number : List Cond := .code yX12_number cX12_number 4 (some .int) :: (([.methodLink RX12 126 yX12_good, .instanceMethod yX12_good, .selects RX12 yX12_good yX12_good, .initialized RX12, .fieldLink RX12 102 "IcicleClockModel" "token" "I", .methodLink RX12 150 yX12_errs, .instanceMethod yX12_errs, .selects RX12 yX12_errs yX12_errs, .fieldLink RX12 113 "IcicleClockModel" "value" "I", .methodLink RX12 82 yX12_in, .static yX12_in, .methodLink RX12 144 yX12_advance, .instanceMethod yX12_advance, .selects RX12 yX12_advance yX12_advance] : List Cond) ++ (wsX120 ++ (vX12_good ++ (vX12_errs ++ (vX12_in ++ vX12_advance)))))
theorem iX12_number_12 : ∀ w ∈ wsX120, w ∈ vX12_number := fun _ h => List.mem_cons_of_mem _ (List.mem_append_right _ (List.mem_append_left _ h))
theorem gs_X12_number : Gd vX12_number := Gd.cons (by decide +kernel) (Gd.app (Gd.r (by decide +kernel)) (Gd.app gwX_12 (Gd.app gs_X12_good (Gd.app gs_X12_errs (Gd.app gs_X12_in gs_X12_advance)))))
theorem gg_X12_number_X12_good : GoodIn vX12_number (wsV RX12 126 RX12 yX12_good vX12_good) := goodIn_app (goodIn_r _ [1, 2, 3, 4] (by decide +kernel) (by decide +kernel)) (fun w h => ⟨List.mem_cons_of_mem _ (List.mem_append_right _ (List.mem_append_right _ (List.mem_append_left _ h))), gs_X12_good w h⟩)
theorem gg_X12_number_X12_errs : GoodIn vX12_number (wsV RX12 150 RX12 yX12_errs vX12_errs) := goodIn_app (goodIn_r _ [6, 7, 8, 4] (by decide +kernel) (by decide +kernel)) (fun w h => ⟨List.mem_cons_of_mem _ (List.mem_append_right _ (List.mem_append_right _ (List.mem_append_right _ (List.mem_append_left _ h)))), gs_X12_errs w h⟩)
theorem gg_X12_number_X12_in : GoodIn vX12_number (wsS RX12 82 yX12_in vX12_in) := goodIn_app (goodIn_r _ [10, 11, 4] (by decide +kernel) (by decide +kernel)) (fun w h => ⟨List.mem_cons_of_mem _ (List.mem_append_right _ (List.mem_append_right _ (List.mem_append_right _ (List.mem_append_right _ (List.mem_append_left _ h))))), gs_X12_in w h⟩)
theorem gg_X12_number_X12_advance : GoodIn vX12_number (wsV RX12 144 RX12 yX12_advance vX12_advance) := goodIn_app (goodIn_r _ [12, 13, 14, 4] (by decide +kernel) (by decide +kernel)) (fun w h => ⟨List.mem_cons_of_mem _ (List.mem_append_right _ (List.mem_append_right _ (List.mem_append_right _ (List.mem_append_right _ (List.mem_append_right _ (h)))))), gs_X12_advance w h⟩)
set_option maxHeartbeats 4000000 in
set_option maxRecDepth 100000 in
theorem s_X12_number (l : Launch) (D : va_G) (cs : Nat → ClassId) (ad : Nat → Nat) (kS : kSt) (K : sK) (hKO : KO K) (hj : wJ ad 218) (g : Nat → va_E) (hW : WF (shp ad K) ad cs g) (lo : Int32) (hi : Int32) : sI l yX12_number vX12_number { frames := 2, cells := 0, slots := 0, locals := 46 } D cs ad kS [.ref (ad 197), .int lo, .int hi] g (fun r g2 => WF (shp ad K) ad cs g2 ∧ (∀ j, j ≠ 197 → g2 j = g j) ∧ (gI g 197 8 ≤ gI g2 197 8 ∧ (r.toInt = 0 ∨ (lo.toInt ≤ r.toInt ∧ r.toInt ≤ hi.toInt)))) := by
  refine Met.startS (cc := cX12_number) (maxL := 4) (ret := (some .int)) RX12 rfl (by decide) rfl (Nat.le_of_ble_eq_true rfl) ?_
  intro p e s m below meth c ls X Z hP hl
  have hx := X.1
  have hb := X.2.1
  have hS : va_S (wA ad 218) s.heap s.heap [] := va_S.rf
  have hA : ∀ i, i < 218 → wA ad 218 (ad i) := fun i h => ⟨i, h, rfl⟩
  have hfr : ∀ j, j ≠ 197 → g j = g j := fun _ _ => rfl
  have hl : lv_has ls 4 [(0, .ref (ad 197)), (1, .int lo), (2, .int hi)] := hl
  obtain ⟨fsc_1, hgc_1, hOc_1⟩ := hW.obj (i := 197) (by decide) (sh_197 ad K)
  obtain ⟨x_3, hk_2, -⟩ := hOc_1.int 11 rfl
  have hgix_3 := gI_of hgc_1 hk_2
  obtain ⟨x_5, hk_4, -⟩ := hOc_1.int 12 rfl
  have hgix_5 := gI_of hgc_1 hk_4
  obtain ⟨x_7, hk_6, hlx_7, hhx_7⟩ := hOc_1.int 8 rfl
  have hgix_7 := gI_of hgc_1 hk_6
  refine lv_aload_n hx hb dX12_number_0 rfl (lv_at hl 0 rfl) ?_
  have hgi_8 := gI_of hgc_1 hk_2
  have hgi_9 := gI_of hgc_1 hk_4
  have hgi_10 := gI_of hgc_1 hk_6
  refine s_calli (q := (RX12, TX12, 40)) (As := []) (rest := []) X Z (s_X12_good l D cs ad kS K hKO hj g hW) (cwV 0 X.2.2.2.2.1 gg_X12_number_X12_good rfl rfl rfl (by decide +kernel) ⟨Nat.le_of_ble_eq_true rfl, Nat.le_of_ble_eq_true rfl⟩) (by decide) hgc_1 rfl hP hA hS.2.1 hS rfl hl.1 rfl (Nat.le_of_ble_eq_true rfl) dX12_number_1 ⟨Nat.le_of_ble_eq_true rfl, Nat.le_of_ble_eq_true rfl⟩ (fun r_13 g_12 H locs hw_11 hP hS => ?_)
  obtain ⟨hw_11g, hw_11⟩ := hw_11
  rw [hw_11g] at hP
  have HJ20 : ∀ (G20 : Nat → va_E) (H : Heap) (locs : List Loc) (ls : Array Slot), gI g 197 8 ≤ gI G20 197 8 → WF (shp ad K) ad cs G20 → (∀ j, j ≠ 197 → G20 j = g j) → va_P D vwCl (wL ad G20 218) H → va_S (wA ad 218) s.heap H locs → lv_has ls 4 [(0, .ref (ad 197)), (1, .int lo), (2, .int hi)] → W p l e ({ frames := 2, cells := 0, slots := 0, locals := 46 } : Room) s m ([.ref (ad 197), .int lo, .int hi] : List Value).toArray below meth c H locs 0 0 (MQ below (qI D ad 218 (fun r g2 => WF (shp ad K) ad cs g2 ∧ (∀ j, j ≠ 197 → g2 j = g j) ∧ (gI g 197 8 ≤ gI g2 197 8 ∧ (r.toInt = 0 ∨ (lo.toInt ≤ r.toInt ∧ r.toInt ≤ hi.toInt))))) ([.ref (ad 197), .int lo, .int hi] : List Value).toArray s 0 0 (wA ad 218)) (F0 m 20 ls []) := by
    intro G20 H locs ls he20_0 hW20 hfr20 hP hS hl
    obtain ⟨fsc_14, hgc_14, hOc_14⟩ := hW20.obj (i := 197) (by decide) (sh_197 ad K)
    obtain ⟨x_16, hk_15, -⟩ := hOc_14.int 11 rfl
    have hgix_16 := gI_of hgc_14 hk_15
    obtain ⟨x_19, hk_18, -⟩ := hOc_14.int 12 rfl
    have hgix_19 := gI_of hgc_14 hk_18
    obtain ⟨x_22, hk_21, hlx_22, hhx_22⟩ := hOc_14.int 8 rfl
    have hgix_22 := gI_of hgc_14 hk_21
    refine lv_aload_n hx hb dX12_number_20 rfl (lv_at hl 0 rfl) ?_
    have hgi_24 := gI_of hgc_14 hk_15
    have hgi_25 := gI_of hgc_14 hk_18
    have hgi_26 := gI_of hgc_14 hk_21
    refine s_calli (q := (RX12, TX12, 40)) (As := []) (rest := []) X Z (s_X12_good l D cs ad kS K hKO hj G20 hW20) (cwV 0 X.2.2.2.2.1 gg_X12_number_X12_good rfl rfl rfl (by decide +kernel) ⟨Nat.le_of_ble_eq_true rfl, Nat.le_of_ble_eq_true rfl⟩) (by decide) hgc_14 rfl hP hA hS.2.1 hS rfl hl.1 rfl (Nat.le_of_ble_eq_true rfl) dX12_number_21 ⟨Nat.le_of_ble_eq_true rfl, Nat.le_of_ble_eq_true rfl⟩ (fun r_29 g_28 H locs hw_27 hP hS => ?_)
    obtain ⟨hw_27g, hw_27⟩ := hw_27
    rw [hw_27g] at hP
    have HJ47 : ∀ (G47 : Nat → va_E) (H : Heap) (locs : List Loc) (ls : Array Slot), gI g 197 8 ≤ gI G47 197 8 → (gI G47 197 12 ≠ 0 ∨ (lo.toInt ≤ gI G47 197 11 ∧ gI G47 197 11 ≤ hi.toInt)) → WF (shp ad K) ad cs G47 → (∀ j, j ≠ 197 → G47 j = g j) → va_P D vwCl (wL ad G47 218) H → va_S (wA ad 218) s.heap H locs → lv_has ls 4 [(0, .ref (ad 197))] → W p l e ({ frames := 2, cells := 0, slots := 0, locals := 46 } : Room) s m ([.ref (ad 197), .int lo, .int hi] : List Value).toArray below meth c H locs 0 0 (MQ below (qI D ad 218 (fun r g2 => WF (shp ad K) ad cs g2 ∧ (∀ j, j ≠ 197 → g2 j = g j) ∧ (gI g 197 8 ≤ gI g2 197 8 ∧ (r.toInt = 0 ∨ (lo.toInt ≤ r.toInt ∧ r.toInt ≤ hi.toInt))))) ([.ref (ad 197), .int lo, .int hi] : List Value).toArray s 0 0 (wA ad 218)) (F0 m 47 ls []) := by
      intro G47 H locs ls he47_0 he47_1 hW47 hfr47 hP hS hl
      obtain ⟨fsc_30, hgc_30, hOc_30⟩ := hW47.obj (i := 197) (by decide) (sh_197 ad K)
      obtain ⟨x_32, hk_31, -⟩ := hOc_30.int 11 rfl
      have hgix_32 := gI_of hgc_30 hk_31
      obtain ⟨x_35, hk_34, -⟩ := hOc_30.int 12 rfl
      have hgix_35 := gI_of hgc_30 hk_34
      obtain ⟨x_38, hk_37, hlx_38, hhx_38⟩ := hOc_30.int 8 rfl
      have hgix_38 := gI_of hgc_30 hk_37
      refine lv_aload_n hx hb dX12_number_47 rfl (lv_at hl 0 rfl) ?_
      have hgi_40 := gI_of hgc_30 hk_31
      have hgi_41 := gI_of hgc_30 hk_34
      have hgi_42 := gI_of hgc_30 hk_37
      refine s_calli (q := (RX12, TX12, 40)) (As := []) (rest := []) X Z (s_X12_good l D cs ad kS K hKO hj G47 hW47) (cwV 0 X.2.2.2.2.1 gg_X12_number_X12_good rfl rfl rfl (by decide +kernel) ⟨Nat.le_of_ble_eq_true rfl, Nat.le_of_ble_eq_true rfl⟩) (by decide) hgc_30 rfl hP hA hS.2.1 hS rfl hl.1 rfl (Nat.le_of_ble_eq_true rfl) dX12_number_48 ⟨Nat.le_of_ble_eq_true rfl, Nat.le_of_ble_eq_true rfl⟩ (fun r_45 g_44 H locs hw_43 hP hS => ?_)
      obtain ⟨hw_43g, hw_43⟩ := hw_43
      rw [hw_43g] at hP
      refine lv_if_ne (tgt := 56) hx hb dX12_number_51 (by decide) (fun hc_46 => ?_) (fun hc_46 => ?_)
      · have hhc_46 := n_ne (rfl : r_45.toInt = r_45.toInt) (by decide : (0 : Int32).toInt = 0) hc_46
        refine lv_aload_n hx hb dX12_number_56 rfl (lv_at hl 0 rfl) ?_
        refine q_get X iX12_number_12 hP (by decide) hgc_30 rfl 11 (by decide) (List.mem_of_getElem? (i := 9) rfl) (v := .int x_32) hk_31 dX12_number_57 ?_
        refine lv_istore_n (lv' := [(3, .int x_32), (0, .ref (ad 197))]) hx hb dX12_number_60 rfl hl (by decide) rfl (fun ls hl => ?_)
        refine lv_aload_n hx hb dX12_number_61 rfl (lv_at hl 1 rfl) ?_
        have hgi_47 := gI_of hgc_30 hk_31
        have hgi_48 := gI_of hgc_30 hk_34
        have hgi_49 := gI_of hgc_30 hk_37
        refine s_callv (q := (RX12, TX12, 40)) (As := []) (rest := []) X Z (s_X12_advance l D cs ad kS K hKO hj G47 hW47) (cwV 0 X.2.2.2.2.1 gg_X12_number_X12_advance rfl rfl rfl (by decide +kernel) ⟨Nat.le_of_ble_eq_true rfl, Nat.le_of_ble_eq_true rfl⟩) (by decide) hgc_30 rfl hP hA hS.2.1 hS rfl hl.1 rfl (Nat.le_of_ble_eq_true rfl) dX12_number_62 ⟨Nat.le_of_ble_eq_true rfl, Nat.le_of_ble_eq_true rfl⟩ (fun g_51 H locs hw_50 hP hS => ?_)
        obtain ⟨hw_50W, hw_50f, hw_50⟩ := hw_50
        have hfr_53 : ∀ j, j ≠ 197 → g_51 j = g j := fun j hj => (hw_50f j (by omega)).trans (hfr47 j hj)
        refine lv_iload_n hx hb dX12_number_65 rfl (lv_at hl 0 rfl) ?_
        obtain ⟨fsc_54, hgc_54, hOc_54⟩ := hw_50W.obj (i := 197) (by decide) (sh_197 ad K)
        obtain ⟨x_56, hk_55, -⟩ := hOc_54.int 11 rfl
        have hgix_56 := gI_of hgc_54 hk_55
        obtain ⟨x_59, hk_58, -⟩ := hOc_54.int 12 rfl
        have hgix_59 := gI_of hgc_54 hk_58
        obtain ⟨x_62, hk_61, hlx_62, hhx_62⟩ := hOc_54.int 8 rfl
        have hgix_62 := gI_of hgc_54 hk_61
        exact q_iret X hP hS ⟨hw_50W, hfr_53, (by omega)⟩ dX12_number_66
      · have hhc_46 := n_eq (rfl : r_45.toInt = r_45.toInt) (by decide : (0 : Int32).toInt = 0) hc_46
        refine lv_iconst (v := 0) hx hb dX12_number_54 (by decide) ?_
        have hgi_64 := gI_of hgc_30 hk_31
        have hgi_65 := gI_of hgc_30 hk_34
        have hgi_66 := gI_of hgc_30 hk_37
        have hr0 : (0 : Int32).toInt = 0 := by decide
        exact q_iret X hP hS ⟨hW47, hfr47, (by omega)⟩ dX12_number_55
    refine lv_if_eq (tgt := 47) hx hb dX12_number_24 (by decide) (fun hc_67 => ?_) (fun hc_67 => ?_)
    · have hhc_67 := n_eq (rfl : r_29.toInt = r_29.toInt) (by decide : (0 : Int32).toInt = 0) hc_67
      have hgi_68 := gI_of hgc_14 hk_15
      have hgi_69 := gI_of hgc_14 hk_18
      have hgi_70 := gI_of hgc_14 hk_21
      exact HJ47 G20 _ _ ls (by omega) (by omega) hW20 hfr20 hP hS (lv_sub hl [0] rfl)
    · have hhc_67 := n_ne (rfl : r_29.toInt = r_29.toInt) (by decide : (0 : Int32).toInt = 0) hc_67
      refine lv_aload_n hx hb dX12_number_27 rfl (lv_at hl 0 rfl) ?_
      refine q_get X iX12_number_12 hP (by decide) hgc_14 rfl 11 (by decide) (List.mem_of_getElem? (i := 9) rfl) (v := .int x_16) hk_15 dX12_number_28 ?_
      refine lv_i2l hx hb dX12_number_31 rfl ?_
      refine lv_topl (fun z_71 ez_71 => ?_)
      have hz_71 : z_71.toInt = x_16.toInt := ez_71 ▸ j_of rfl
      have := n_hi x_16
      have := n_lo x_16
      refine lv_iload_n hx hb dX12_number_32 rfl (lv_at hl 1 rfl) ?_
      refine lv_i2l hx hb dX12_number_33 rfl ?_
      refine lv_topl (fun z_72 ez_72 => ?_)
      have hz_72 : z_72.toInt = lo.toInt := ez_72 ▸ j_of rfl
      have := n_hi lo
      have := n_lo lo
      refine lv_iload_n hx hb dX12_number_34 rfl (lv_at hl 2 rfl) ?_
      refine lv_i2l hx hb dX12_number_35 rfl ?_
      refine lv_topl (fun z_73 ez_73 => ?_)
      have hz_73 : z_73.toInt = hi.toInt := ez_73 ▸ j_of rfl
      have := n_hi hi
      have := n_lo hi
      have hgi_74 := gI_of hgc_14 hk_15
      have hgi_75 := gI_of hgc_14 hk_18
      have hgi_76 := gI_of hgc_14 hk_21
      refine s_callSi (As := [.long z_71, .long z_72, .long z_73]) (rest := []) X Z (s_X12_in l D cs ad kS K hKO hj G20 hW20 z_71 z_72 z_73) (cwS 3 X.2.2.2.2.1 gg_X12_number_X12_in rfl rfl rfl (by decide +kernel) ⟨Nat.le_of_ble_eq_true rfl, Nat.le_of_ble_eq_true rfl⟩) hP hA hS.2.1 hS rfl hl.1 rfl (Nat.le_of_ble_eq_true rfl) dX12_number_36 ⟨Nat.le_of_ble_eq_true rfl, Nat.le_of_ble_eq_true rfl⟩ (fun r_79 g_78 H locs hw_77 hP hS => ?_)
      obtain ⟨hw_77g, hw_77⟩ := hw_77
      rw [hw_77g] at hP
      refine lv_if_ne (tgt := 47) hx hb dX12_number_39 (by decide) (fun hc_80 => ?_) (fun hc_80 => ?_)
      · have hhc_80 := n_ne (rfl : r_79.toInt = r_79.toInt) (by decide : (0 : Int32).toInt = 0) hc_80
        have hgi_81 := gI_of hgc_14 hk_15
        have hgi_82 := gI_of hgc_14 hk_18
        have hgi_83 := gI_of hgc_14 hk_21
        exact HJ47 G20 _ _ ls (by omega) (by omega) hW20 hfr20 hP hS (lv_sub hl [0] rfl)
      · have hhc_80 := n_eq (rfl : r_79.toInt = r_79.toInt) (by decide : (0 : Int32).toInt = 0) hc_80
        refine lv_aload_n hx hb dX12_number_42 rfl (lv_at hl 0 rfl) ?_
        refine lv_iconst (v := 2) hx hb dX12_number_43 (by decide) ?_
        have hgi_84 := gI_of hgc_14 hk_15
        have hgi_85 := gI_of hgc_14 hk_18
        have hgi_86 := gI_of hgc_14 hk_21
        have hqk_87 : (2 : Int32).toInt = 2 := by decide
        refine s_callv (q := (RX12, TX12, 40)) (As := [.int 2]) (rest := []) X Z (s_X12_errs l D cs ad kS K hKO hj G20 hW20 2 (by omega)) (cwV 1 X.2.2.2.2.1 gg_X12_number_X12_errs rfl rfl rfl (by decide +kernel) ⟨Nat.le_of_ble_eq_true rfl, Nat.le_of_ble_eq_true rfl⟩) (by decide) hgc_14 rfl hP hA hS.2.1 hS rfl hl.1 rfl (Nat.le_of_ble_eq_true rfl) dX12_number_44 ⟨Nat.le_of_ble_eq_true rfl, Nat.le_of_ble_eq_true rfl⟩ (fun g_89 H locs hw_88 hP hS => ?_)
        obtain ⟨hw_88W, hw_88f, hw_88⟩ := hw_88
        have hfr_91 : ∀ j, j ≠ 197 → g_89 j = g j := fun j hj => (hw_88f j (by omega)).trans (hfr20 j hj)
        obtain ⟨fsc_92, hgc_92, hOc_92⟩ := hw_88W.obj (i := 197) (by decide) (sh_197 ad K)
        obtain ⟨x_94, hk_93, -⟩ := hOc_92.int 11 rfl
        have hgix_94 := gI_of hgc_92 hk_93
        obtain ⟨x_97, hk_96, -⟩ := hOc_92.int 12 rfl
        have hgix_97 := gI_of hgc_92 hk_96
        obtain ⟨x_100, hk_99, hlx_100, hhx_100⟩ := hOc_92.int 8 rfl
        have hgix_100 := gI_of hgc_92 hk_99
        exact HJ47 g_89 _ _ ls (by omega) (by omega) hw_88W hfr_91 hP hS (lv_sub hl [0] rfl)
  refine lv_if_eq (tgt := 20) hx hb dX12_number_4 (by decide) (fun hc_102 => ?_) (fun hc_102 => ?_)
  · have hhc_102 := n_eq (rfl : r_13.toInt = r_13.toInt) (by decide : (0 : Int32).toInt = 0) hc_102
    have hgi_103 := gI_of hgc_1 hk_2
    have hgi_104 := gI_of hgc_1 hk_4
    have hgi_105 := gI_of hgc_1 hk_6
    exact HJ20 g _ _ ls (by omega) hW hfr hP hS (lv_sub hl [0, 1, 2] rfl)
  · have hhc_102 := n_ne (rfl : r_13.toInt = r_13.toInt) (by decide : (0 : Int32).toInt = 0) hc_102
    refine lv_aload_n hx hb dX12_number_7 rfl (lv_at hl 0 rfl) ?_
    obtain ⟨x_107, hk_106, hlx_107, hhx_107⟩ := hOc_1.int 10 rfl
    refine q_get X iX12_number_12 hP (by decide) hgc_1 rfl 10 (by decide) (List.mem_of_getElem? (i := 5) rfl) (v := .int x_107) hk_106 dX12_number_8 ?_
    refine lv_iconst (v := 2) hx hb dX12_number_11 (by decide) ?_
    refine lv_icmp_eq (tgt := 20) hx hb dX12_number_12 (by decide) (fun hc_108 => ?_) (fun hc_108 => ?_)
    · have hhc_108 := n_eq (rfl : x_107.toInt = x_107.toInt) (by decide : (2 : Int32).toInt = 2) hc_108
      have hgi_109 := gI_of hgc_1 hk_2
      have hgi_110 := gI_of hgc_1 hk_4
      have hgi_111 := gI_of hgc_1 hk_6
      exact HJ20 g _ _ ls (by omega) hW hfr hP hS (lv_sub hl [0, 1, 2] rfl)
    · have hhc_108 := n_ne (rfl : x_107.toInt = x_107.toInt) (by decide : (2 : Int32).toInt = 2) hc_108
      refine lv_aload_n hx hb dX12_number_15 rfl (lv_at hl 0 rfl) ?_
      refine lv_iconst (v := 1) hx hb dX12_number_16 (by decide) ?_
      have hgi_112 := gI_of hgc_1 hk_2
      have hgi_113 := gI_of hgc_1 hk_4
      have hgi_114 := gI_of hgc_1 hk_6
      have hqk_115 : (1 : Int32).toInt = 1 := by decide
      refine s_callv (q := (RX12, TX12, 40)) (As := [.int 1]) (rest := []) X Z (s_X12_errs l D cs ad kS K hKO hj g hW 1 (by omega)) (cwV 1 X.2.2.2.2.1 gg_X12_number_X12_errs rfl rfl rfl (by decide +kernel) ⟨Nat.le_of_ble_eq_true rfl, Nat.le_of_ble_eq_true rfl⟩) (by decide) hgc_1 rfl hP hA hS.2.1 hS rfl hl.1 rfl (Nat.le_of_ble_eq_true rfl) dX12_number_17 ⟨Nat.le_of_ble_eq_true rfl, Nat.le_of_ble_eq_true rfl⟩ (fun g_117 H locs hw_116 hP hS => ?_)
      obtain ⟨hw_116W, hw_116f, hw_116⟩ := hw_116
      have hfr_119 : ∀ j, j ≠ 197 → g_117 j = g j := fun j hj => (hw_116f j (by omega)).trans (hfr j hj)
      obtain ⟨fsc_120, hgc_120, hOc_120⟩ := hw_116W.obj (i := 197) (by decide) (sh_197 ad K)
      obtain ⟨x_122, hk_121, -⟩ := hOc_120.int 11 rfl
      have hgix_122 := gI_of hgc_120 hk_121
      obtain ⟨x_125, hk_124, -⟩ := hOc_120.int 12 rfl
      have hgix_125 := gI_of hgc_120 hk_124
      obtain ⟨x_128, hk_127, hlx_128, hhx_128⟩ := hOc_120.int 8 rfl
      have hgix_128 := gI_of hgc_120 hk_127
      exact HJ20 g_117 _ _ ls (by omega) hw_116W hfr_119 hP hS (lv_sub hl [0, 1, 2] rfl)

theorem dX12_told_0 : decode cX12_told 0 = .ok (.aload_n 0, 1) := by decide +kernel
theorem dX12_told_1 : decode cX12_told 1 = .ok (.aload_n 1, 1) := by decide +kernel
theorem dX12_told_2 : decode cX12_told 2 = .ok (.invokevirtual 154, 3) := by decide +kernel
theorem dX12_told_5 : decode cX12_told 5 = .ok (.aload_n 0, 1) := by decide +kernel
theorem dX12_told_6 : decode cX12_told 6 = .ok (.iload_n 2, 1) := by decide +kernel
theorem dX12_told_7 : decode cX12_told 7 = .ok (.iload_n 3, 1) := by decide +kernel
theorem dX12_told_8 : decode cX12_told 8 = .ok (.invokevirtual 158, 3) := by decide +kernel
theorem dX12_told_11 : decode cX12_told 11 = .ok (.ireturn, 1) := by decide +kernel
noncomputable def vX12_told : List Cond := .code yX12_told cX12_told 4 (some .int) :: (([.methodLink RX12 154 yX12_needs, .instanceMethod yX12_needs, .selects RX12 yX12_needs yX12_needs, .initialized RX12, .methodLink RX12 158 yX12_number, .instanceMethod yX12_number, .selects RX12 yX12_number yX12_number] : List Cond) ++ (vX12_needs ++ vX12_number))
theorem gs_X12_told : Gd vX12_told := Gd.cons (by decide +kernel) (Gd.app (Gd.r (by decide +kernel)) (Gd.app gs_X12_needs gs_X12_number))
theorem gg_X12_told_X12_needs : GoodIn vX12_told (wsV RX12 154 RX12 yX12_needs vX12_needs) := goodIn_app (goodIn_r _ [1, 2, 3, 4] (by decide +kernel) (by decide +kernel)) (fun w h => ⟨List.mem_cons_of_mem _ (List.mem_append_right _ (List.mem_append_left _ h)), gs_X12_needs w h⟩)
theorem gg_X12_told_X12_number : GoodIn vX12_told (wsV RX12 158 RX12 yX12_number vX12_number) := goodIn_app (goodIn_r _ [5, 6, 7, 4] (by decide +kernel) (by decide +kernel)) (fun w h => ⟨List.mem_cons_of_mem _ (List.mem_append_right _ (List.mem_append_right _ (h))), gs_X12_number w h⟩)
set_option maxHeartbeats 4000000 in
set_option maxRecDepth 100000 in
theorem s_X12_told (l : Launch) (D : va_G) (cs : Nat → ClassId) (ad : Nat → Nat) (kS : kSt) (K : sK) (hKO : KO K) (hj : wJ ad 218) (g : Nat → va_E) (hW : WF (shp ad K) ad cs g) (q : Nat) (lo : Int32) (hi : Int32) (hp0 : q < 15) : sI l yX12_told vX12_told { frames := 7, cells := 0, slots := 0, locals := 151 } D cs ad kS [.ref (ad 197), .ref (kS.1 q), .int lo, .int hi] g (fun r g2 => WF (shp ad K) ad cs g2 ∧ (∀ j, j ≠ 197 → g2 j = g j) ∧ (gI g 197 8 ≤ gI g2 197 8 ∧ (r.toInt = 0 ∨ (lo.toInt ≤ r.toInt ∧ r.toInt ≤ hi.toInt)))) := by
  refine Met.startS (cc := cX12_told) (maxL := 4) (ret := (some .int)) RX12 rfl (by decide) rfl (Nat.le_of_ble_eq_true rfl) ?_
  intro p e s m below meth c ls X Z hP hl
  have hx := X.1
  have hb := X.2.1
  have hS : va_S (wA ad 218) s.heap s.heap [] := va_S.rf
  have hA : ∀ i, i < 218 → wA ad 218 (ad i) := fun i h => ⟨i, h, rfl⟩
  have hfr : ∀ j, j ≠ 197 → g j = g j := fun _ _ => rfl
  have hl : lv_has ls 4 [(0, .ref (ad 197)), (1, .ref (kS.1 q)), (2, .int lo), (3, .int hi)] := hl
  obtain ⟨fsc_1, hgc_1, hOc_1⟩ := hW.obj (i := 197) (by decide) (sh_197 ad K)
  obtain ⟨x_3, hk_2, hlx_3, hhx_3⟩ := hOc_1.int 8 rfl
  have hgix_3 := gI_of hgc_1 hk_2
  refine lv_aload_n hx hb dX12_told_0 rfl (lv_at hl 0 rfl) ?_
  refine lv_aload_n hx hb dX12_told_1 rfl (lv_at hl 1 rfl) ?_
  have hgi_4 := gI_of hgc_1 hk_2
  refine s_callv (q := (RX12, TX12, 40)) (As := [.ref (kS.1 q)]) (rest := []) X Z (s_X12_needs l D cs ad kS K hKO hj g hW q (by omega)) (cwV 1 X.2.2.2.2.1 gg_X12_told_X12_needs rfl rfl rfl (by decide +kernel) ⟨Nat.le_of_ble_eq_true rfl, Nat.le_of_ble_eq_true rfl⟩) (by decide) hgc_1 rfl hP hA hS.2.1 hS rfl hl.1 rfl (Nat.le_of_ble_eq_true rfl) dX12_told_2 ⟨Nat.le_of_ble_eq_true rfl, Nat.le_of_ble_eq_true rfl⟩ (fun g_6 H locs hw_5 hP hS => ?_)
  obtain ⟨hw_5W, hw_5f, hw_5⟩ := hw_5
  have hfr_8 : ∀ j, j ≠ 197 → g_6 j = g j := fun j hj => (hw_5f j (by omega)).trans (hfr j hj)
  refine lv_aload_n hx hb dX12_told_5 rfl (lv_at hl 0 rfl) ?_
  refine lv_iload_n hx hb dX12_told_6 rfl (lv_at hl 2 rfl) ?_
  refine lv_iload_n hx hb dX12_told_7 rfl (lv_at hl 3 rfl) ?_
  obtain ⟨fsc_9, hgc_9, hOc_9⟩ := hw_5W.obj (i := 197) (by decide) (sh_197 ad K)
  obtain ⟨x_11, hk_10, hlx_11, hhx_11⟩ := hOc_9.int 8 rfl
  have hgix_11 := gI_of hgc_9 hk_10
  refine s_calli (q := (RX12, TX12, 40)) (As := [.int lo, .int hi]) (rest := []) X Z (s_X12_number l D cs ad kS K hKO hj g_6 hw_5W lo hi) (cwV 2 X.2.2.2.2.1 gg_X12_told_X12_number rfl rfl rfl (by decide +kernel) ⟨Nat.le_of_ble_eq_true rfl, Nat.le_of_ble_eq_true rfl⟩) (by decide) hgc_9 rfl hP hA hS.2.1 hS rfl hl.1 rfl (Nat.le_of_ble_eq_true rfl) dX12_told_8 ⟨Nat.le_of_ble_eq_true rfl, Nat.le_of_ble_eq_true rfl⟩ (fun r_15 g_14 H locs hw_13 hP hS => ?_)
  obtain ⟨hw_13W, hw_13f, hw_13⟩ := hw_13
  have hfr_16 : ∀ j, j ≠ 197 → g_14 j = g j := fun j hj => (hw_13f j (by omega)).trans (hfr_8 j hj)
  obtain ⟨fsc_17, hgc_17, hOc_17⟩ := hw_13W.obj (i := 197) (by decide) (sh_197 ad K)
  obtain ⟨x_19, hk_18, hlx_19, hhx_19⟩ := hOc_17.int 8 rfl
  have hgix_19 := gI_of hgc_17 hk_18
  exact q_iret X hP hS ⟨hw_13W, hfr_16, (by omega)⟩ dX12_told_11

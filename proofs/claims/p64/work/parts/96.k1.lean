theorem dX11_image_0 : decode cX11_image 0 = .ok (.iload_n 1, 1) := by decide +kernel
theorem dX11_image_1 : decode cX11_image 1 = .ok (.ifCond .lt 8, 3) := by decide +kernel
theorem dX11_image_4 : decode cX11_image 4 = .ok (.iload_n 1, 1) := by decide +kernel
theorem dX11_image_5 : decode cX11_image 5 = .ok (.iconst 3, 1) := by decide +kernel
theorem dX11_image_6 : decode cX11_image 6 = .ok (.if_icmp .lt 6, 3) := by decide +kernel
theorem dX11_image_12 : decode cX11_image 12 = .ok (.aload_n 0, 1) := by decide +kernel
theorem dX11_image_13 : decode cX11_image 13 = .ok (.getfield 26, 3) := by decide +kernel
theorem dX11_image_16 : decode cX11_image 16 = .ok (.iload_n 1, 1) := by decide +kernel
theorem dX11_image_17 : decode cX11_image 17 = .ok (.aaload, 1) := by decide +kernel
theorem dX11_image_18 : decode cX11_image 18 = .ok (.aload_n 0, 1) := by decide +kernel
theorem dX11_image_19 : decode cX11_image 19 = .ok (.getfield 19, 3) := by decide +kernel
theorem dX11_image_22 : decode cX11_image 22 = .ok (.invokevirtual 105, 3) := by decide +kernel
theorem dX11_image_25 : decode cX11_image 25 = .ok (.aload_n 0, 1) := by decide +kernel
theorem dX11_image_26 : decode cX11_image 26 = .ok (.getfield 30, 3) := by decide +kernel
theorem dX11_image_29 : decode cX11_image 29 = .ok (.iload_n 1, 1) := by decide +kernel
theorem dX11_image_30 : decode cX11_image 30 = .ok (.iconst 1, 1) := by decide +kernel
theorem dX11_image_31 : decode cX11_image 31 = .ok (.bastore, 1) := by decide +kernel
theorem dX11_image_32 : decode cX11_image 32 = .ok (.iconst 0, 1) := by decide +kernel
theorem dX11_image_33 : decode cX11_image 33 = .ok (.ireturn, 1) := by decide +kernel
theorem dX11_image_9 : decode cX11_image 9 = .ok (.bipush (-2), 2) := by decide +kernel
theorem dX11_image_11 : decode cX11_image 11 = .ok (.ireturn, 1) := by decide +kernel
noncomputable def vX11_image : List Cond := .code yX11_image cX11_image 2 (some .int) :: (([.fieldLink RX11 26 "IcicleClock" "images" "[LIcicleClock$Street;", .fieldLink RX11 19 "IcicleClock" "now" "LIcicleClock$Street;", .methodLink RX11 105 yX6_copyFrom, .instanceMethod yX6_copyFrom, .selects RX6 yX6_copyFrom yX6_copyFrom, .initialized RX6, .fieldLink RX11 30 "IcicleClock" "kept" "[Z"] : List Cond) ++ (wsX110 ++ vX6_copyFrom))
theorem iX11_image_11 : ∀ w ∈ wsX110, w ∈ vX11_image := fun _ h => List.mem_cons_of_mem _ (List.mem_append_right _ (List.mem_append_left _ h))
theorem gs_X11_image : Gd vX11_image := Gd.cons (by decide +kernel) (Gd.app (Gd.r (by decide +kernel)) (Gd.app gwX_11 gs_X6_copyFrom))
theorem gg_X11_image_X6_copyFrom : GoodIn vX11_image (wsV RX11 105 RX6 yX6_copyFrom vX6_copyFrom) := goodIn_app (goodIn_r _ [3, 4, 5, 6] (by decide +kernel) (by decide +kernel)) (fun w h => ⟨List.mem_cons_of_mem _ (List.mem_append_right _ (List.mem_append_right _ (h))), gs_X6_copyFrom w h⟩)
set_option maxHeartbeats 4000000 in
set_option maxRecDepth 100000 in
theorem s_X11_image (l : Launch) (D : va_G) (cs : Nat → ClassId) (ad : Nat → Nat) (kS : kSt) (K : sK) (hKO : KO K) (hj : wJ ad 218) (g : Nat → va_E) (hW : WF (shp ad K) ad cs g) (kk : Int32) : sI l yX11_image vX11_image { frames := 5, cells := 0, slots := 0, locals := 108 } D cs ad kS [.ref (ad 0), .int kk] g (fun r g2 => ((r.toInt = 0 → WF (shp ad (kKept (K) kk.toNatClampNeg 1)) ad cs g2) ∧ (r.toInt ≠ 0 → WF (shp ad (K)) ad cs g2)) ∧ (∀ j, j ≠ 104 ∧ (j < 44 ∨ 44 + 20 ≤ j) ∧ (j < 64 ∨ 64 + 20 ≤ j) ∧ (j < 84 ∨ 84 + 20 ≤ j) → g2 j = g j) ∧ ((0 ≤ kk.toInt ∧ kk.toInt ≤ 2 → r.toInt = 0) ∧ (kk.toInt < 0 ∨ 2 < kk.toInt → r.toInt = -2))) := by
  refine Met.startS (cc := cX11_image) (maxL := 2) (ret := (some .int)) RX11 rfl (by decide) rfl (Nat.le_of_ble_eq_true rfl) ?_
  intro p e s m below meth c ls X Z hP hl
  have hx := X.1
  have hb := X.2.1
  have hS : va_S (wA ad 218) s.heap s.heap [] := va_S.rf
  have hA : ∀ i, i < 218 → wA ad 218 (ad i) := fun i h => ⟨i, h, rfl⟩
  have hfr : ∀ j, j ≠ 104 ∧ (j < 44 ∨ 44 + 20 ≤ j) ∧ (j < 64 ∨ 64 + 20 ≤ j) ∧ (j < 84 ∨ 84 + 20 ≤ j) → g j = g j := fun _ _ => rfl
  have hl : lv_has ls 2 [(0, .ref (ad 0)), (1, .int kk)] := hl
  refine lv_iload_n hx hb dX11_image_0 rfl (lv_at hl 1 rfl) ?_
  have HJ9 : ∀ (G9 : Nat → va_E) (H : Heap) (locs : List Loc) (ls : Array Slot), (kk.toInt < 0 ∨ 2 < kk.toInt) → WF (shp ad K) ad cs G9 → (∀ j, j ≠ 104 ∧ (j < 44 ∨ 44 + 20 ≤ j) ∧ (j < 64 ∨ 64 + 20 ≤ j) ∧ (j < 84 ∨ 84 + 20 ≤ j) → G9 j = g j) → va_P D vwCl (wL ad G9 218) H → va_S (wA ad 218) s.heap H locs → lv_has ls 2 [] → W p l e ({ frames := 5, cells := 0, slots := 0, locals := 108 } : Room) s m ([.ref (ad 0), .int kk] : List Value).toArray below meth c H locs 0 0 (MQ below (qI D ad 218 (fun r g2 => ((r.toInt = 0 → WF (shp ad (kKept (K) kk.toNatClampNeg 1)) ad cs g2) ∧ (r.toInt ≠ 0 → WF (shp ad (K)) ad cs g2)) ∧ (∀ j, j ≠ 104 ∧ (j < 44 ∨ 44 + 20 ≤ j) ∧ (j < 64 ∨ 64 + 20 ≤ j) ∧ (j < 84 ∨ 84 + 20 ≤ j) → g2 j = g j) ∧ ((0 ≤ kk.toInt ∧ kk.toInt ≤ 2 → r.toInt = 0) ∧ (kk.toInt < 0 ∨ 2 < kk.toInt → r.toInt = -2)))) ([.ref (ad 0), .int kk] : List Value).toArray s 0 0 (wA ad 218)) (F0 m 9 ls []) := by
    intro G9 H locs ls he9_0 hW9 hfr9 hP hS hl
    refine lv_bipush (v := (-2)) hx hb dX11_image_9 (by decide) ?_
    have hw0 : ((-2) : Int32).toInt = -2 := by decide
    have hr0 : ((-2) : Int32).toInt = -2 := by decide
    exact q_iret X hP hS ⟨⟨fun q => by exfalso; omega, fun _ => hW9⟩, hfr9, (by omega)⟩ dX11_image_11
  refine lv_if_lt (tgt := 9) hx hb dX11_image_1 (by decide) (fun hc_1 => ?_) (fun hc_1 => ?_)
  · have hhc_1 := n_lt (rfl : kk.toInt = kk.toInt) (by decide : (0 : Int32).toInt = 0) hc_1
    exact HJ9 g _ _ ls (by omega) hW hfr hP hS (lv_sub hl [] rfl)
  · have hhc_1 := n_nlt (rfl : kk.toInt = kk.toInt) (by decide : (0 : Int32).toInt = 0) hc_1
    refine lv_iload_n hx hb dX11_image_4 rfl (lv_at hl 1 rfl) ?_
    refine lv_iconst (v := 3) hx hb dX11_image_5 (by decide) ?_
    refine lv_icmp_lt (tgt := 12) hx hb dX11_image_6 (by decide) (fun hc_2 => ?_) (fun hc_2 => ?_)
    · have hhc_2 := n_lt (rfl : kk.toInt = kk.toInt) (by decide : (3 : Int32).toInt = 3) hc_2
      refine lv_aload_n hx hb dX11_image_12 rfl (lv_at hl 0 rfl) ?_
      obtain ⟨fsc_3, hgc_3, hOc_3⟩ := hW.obj (i := 0) (by decide) (sh_0 ad K)
      have hk_4 := hOc_3.ref 3 rfl
      refine q_get X iX11_image_11 hP (by decide) hgc_3 rfl 3 (by decide) (List.mem_of_getElem? (i := 1) rfl) (v := .ref (ad 43)) hk_4 dX11_image_13 ?_
      refine lv_iload_n hx hb dX11_image_16 rfl (lv_at hl 1 rfl) ?_
      obtain ⟨fc_5, hgc_5, hFc_5⟩ := hW.aref (i := 43) (by decide) (sh_43 ad K)
      obtain ⟨e_6, h_e_6, e_e_6⟩ : ∃ q : Nat, q < 3 ∧ kk.toNatClampNeg = q := ⟨_, by have := n_cl (rfl : kk.toInt = kk.toInt) (by omega); omega, rfl⟩
      obtain ⟨b_7, e_b_7, hb_b_7⟩ : ∃ q : Nat, q = 44 + 20 * e_6 ∧ (q = 3 ∨ q = 23 ∨ q = 44 ∨ q = 64 ∨ q = 84) := ⟨_, rfl, by omega⟩
      refine s_aald X hP 5 rfl rfl (by decide) hgc_5 (n_in (rfl : kk.toInt = kk.toInt) (by omega) (by omega)) (v := ad b_7) (by rw [e_e_6, hFc_5 _ h_e_6, e_b_7]) dX11_image_17 ?_
      refine lv_aload_n hx hb dX11_image_18 rfl (lv_at hl 0 rfl) ?_
      have hk_8 := hOc_3.ref 1 rfl
      refine q_get X iX11_image_11 hP (by decide) hgc_3 rfl 1 (by decide) (List.mem_of_getElem? (i := 2) rfl) (v := .ref (ad 3)) hk_8 dX11_image_19 ?_
      obtain ⟨fsc_12, hgc_12, hOc_12⟩ := hW.obj (i := b_7) (by omega) (shS_0 ad K hb_b_7)
      refine s_callv (q := (RX6, TX6, 18)) (As := [.ref (ad 3)]) (rest := []) X Z (s_X6_copyFrom l D cs ad kS K hKO hj g hW b_7 3 (by omega) (by omega) (by omega)) (cwV 1 X.2.2.2.2.1 gg_X11_image_X6_copyFrom rfl rfl rfl (by decide +kernel) ⟨Nat.le_of_ble_eq_true rfl, Nat.le_of_ble_eq_true rfl⟩) (by omega) hgc_12 rfl hP hA hS.2.1 hS rfl hl.1 rfl (Nat.le_of_ble_eq_true rfl) dX11_image_22 ⟨Nat.le_of_ble_eq_true rfl, Nat.le_of_ble_eq_true rfl⟩ (fun g_10 H locs hw_9 hP hS => ?_)
      obtain ⟨hw_9W, hw_9f⟩ := hw_9
      have hfr_13 : ∀ j, j ≠ 104 ∧ (j < 44 ∨ 44 + 20 ≤ j) ∧ (j < 64 ∨ 64 + 20 ≤ j) ∧ (j < 84 ∨ 84 + 20 ≤ j) → g_10 j = g j := fun j hj => (hw_9f j (by omega)).trans (hfr j hj)
      have hg_14 := (hw_9f 0 (by omega)).trans hgc_3
      have hg_15 := (hw_9f 43 (by omega)).trans hgc_5
      refine lv_aload_n hx hb dX11_image_25 rfl (lv_at hl 0 rfl) ?_
      have hk_16 := hOc_3.ref 4 rfl
      refine q_get X iX11_image_11 hP (by decide) hg_14 rfl 4 (by decide) (List.mem_of_getElem? (i := 7) rfl) (v := .ref (ad 104)) hk_16 dX11_image_26 ?_
      refine lv_iload_n hx hb dX11_image_29 rfl (lv_at hl 1 rfl) ?_
      refine lv_iconst (v := 1) hx hb dX11_image_30 (by decide) ?_
      obtain ⟨fc_17, hgc_17, hFc_17⟩ := hw_9W.arr (i := 104) (by decide) (sh_104 ad K)
      refine s_zastK (Sh' := shp ad (kKept K kk.toNatClampNeg 1)) X hP hj hA hS (by decide) hgc_17 (n_in (rfl : kk.toInt = kk.toInt) (by omega) (by omega)) dX11_image_31 hw_9W sx_kept (sh_104 ad _) (by rw [show vp_nar .boolean (1 : Int32) = 1 by decide]; exact rP.upK hFc_17) (fun fc_18 gc_18 H locs ec_18 hFc_18 hgc_18 hfc_18 hWc_18 hP hS => ?_)
      have hKOKn_19 : KO (kKept K kk.toNatClampNeg 1) := hKO.kept (by decide) (by decide)
      have hg_21 := (hfc_18 0 (by decide)).trans hg_14
      have hg_22 := (hfc_18 43 (by decide)).trans hg_15
      have hfr_20 : ∀ j, j ≠ 104 ∧ (j < 44 ∨ 44 + 20 ≤ j) ∧ (j < 64 ∨ 64 + 20 ≤ j) ∧ (j < 84 ∨ 84 + 20 ≤ j) → gc_18 j = g j := fun j hj => (hfc_18 j (by omega)).trans (hfr_13 j hj)
      refine lv_iconst (v := 0) hx hb dX11_image_32 (by decide) ?_
      have hw0 : (0 : Int32).toInt = 0 := by decide
      have hr0 : (0 : Int32).toInt = 0 := by decide
      exact q_iret X hP hS ⟨⟨fun _ => hWc_18, fun q => by exfalso; omega⟩, hfr_20, (by omega)⟩ dX11_image_33
    · have hhc_2 := n_nlt (rfl : kk.toInt = kk.toInt) (by decide : (3 : Int32).toInt = 3) hc_2
      exact HJ9 g _ _ ls (by omega) hW hfr hP hS (lv_sub hl [] rfl)

theorem dX11_back_0 : decode cX11_back 0 = .ok (.iload_n 1, 1) := by decide +kernel
theorem dX11_back_1 : decode cX11_back 1 = .ok (.ifCond .lt 8, 3) := by decide +kernel
theorem dX11_back_4 : decode cX11_back 4 = .ok (.iload_n 1, 1) := by decide +kernel
theorem dX11_back_5 : decode cX11_back 5 = .ok (.iconst 3, 1) := by decide +kernel
theorem dX11_back_6 : decode cX11_back 6 = .ok (.if_icmp .lt 6, 3) := by decide +kernel
theorem dX11_back_12 : decode cX11_back 12 = .ok (.aload_n 0, 1) := by decide +kernel
theorem dX11_back_13 : decode cX11_back 13 = .ok (.getfield 30, 3) := by decide +kernel
theorem dX11_back_16 : decode cX11_back 16 = .ok (.iload_n 1, 1) := by decide +kernel
theorem dX11_back_17 : decode cX11_back 17 = .ok (.baload, 1) := by decide +kernel
theorem dX11_back_18 : decode cX11_back 18 = .ok (.ifCond .ne 6, 3) := by decide +kernel
theorem dX11_back_21 : decode cX11_back 21 = .ok (.bipush (-6), 2) := by decide +kernel
theorem dX11_back_23 : decode cX11_back 23 = .ok (.ireturn, 1) := by decide +kernel
theorem dX11_back_24 : decode cX11_back 24 = .ok (.aload_n 0, 1) := by decide +kernel
theorem dX11_back_25 : decode cX11_back 25 = .ok (.getfield 19, 3) := by decide +kernel
theorem dX11_back_28 : decode cX11_back 28 = .ok (.aload_n 0, 1) := by decide +kernel
theorem dX11_back_29 : decode cX11_back 29 = .ok (.getfield 26, 3) := by decide +kernel
theorem dX11_back_32 : decode cX11_back 32 = .ok (.iload_n 1, 1) := by decide +kernel
theorem dX11_back_33 : decode cX11_back 33 = .ok (.aaload, 1) := by decide +kernel
theorem dX11_back_34 : decode cX11_back 34 = .ok (.invokevirtual 105, 3) := by decide +kernel
theorem dX11_back_37 : decode cX11_back 37 = .ok (.aload_n 0, 1) := by decide +kernel
theorem dX11_back_38 : decode cX11_back 38 = .ok (.getfield 44, 3) := by decide +kernel
theorem dX11_back_41 : decode cX11_back 41 = .ok (.aload_n 0, 1) := by decide +kernel
theorem dX11_back_42 : decode cX11_back 42 = .ok (.getfield 19, 3) := by decide +kernel
theorem dX11_back_45 : decode cX11_back 45 = .ok (.invokevirtual 109, 3) := by decide +kernel
theorem dX11_back_48 : decode cX11_back 48 = .ok (.iconst 0, 1) := by decide +kernel
theorem dX11_back_49 : decode cX11_back 49 = .ok (.ireturn, 1) := by decide +kernel
theorem dX11_back_9 : decode cX11_back 9 = .ok (.bipush (-2), 2) := by decide +kernel
theorem dX11_back_11 : decode cX11_back 11 = .ok (.ireturn, 1) := by decide +kernel
noncomputable def vX11_back : List Cond := .code yX11_back cX11_back 2 (some .int) :: (([.fieldLink RX11 30 "IcicleClock" "kept" "[Z", .fieldLink RX11 19 "IcicleClock" "now" "LIcicleClock$Street;", .fieldLink RX11 26 "IcicleClock" "images" "[LIcicleClock$Street;", .methodLink RX11 105 yX6_copyFrom, .instanceMethod yX6_copyFrom, .selects RX6 yX6_copyFrom yX6_copyFrom, .initialized RX6, .fieldLink RX11 44 "IcicleClock" "winter" "LIcicleClock$Winter;", .methodLink RX11 109 yX10_passOver, .instanceMethod yX10_passOver, .selects RX10 yX10_passOver yX10_passOver, .initialized RX10] : List Cond) ++ (wsX110 ++ (vX6_copyFrom ++ vX10_passOver)))
theorem iX11_back_11 : ∀ w ∈ wsX110, w ∈ vX11_back := fun _ h => List.mem_cons_of_mem _ (List.mem_append_right _ (List.mem_append_left _ h))
theorem gs_X11_back : Gd vX11_back := Gd.cons (by decide +kernel) (Gd.app (Gd.r (by decide +kernel)) (Gd.app gwX_11 (Gd.app gs_X6_copyFrom gs_X10_passOver)))
theorem gg_X11_back_X6_copyFrom : GoodIn vX11_back (wsV RX11 105 RX6 yX6_copyFrom vX6_copyFrom) := goodIn_app (goodIn_r _ [4, 5, 6, 7] (by decide +kernel) (by decide +kernel)) (fun w h => ⟨List.mem_cons_of_mem _ (List.mem_append_right _ (List.mem_append_right _ (List.mem_append_left _ h))), gs_X6_copyFrom w h⟩)
theorem gg_X11_back_X10_passOver : GoodIn vX11_back (wsV RX11 109 RX10 yX10_passOver vX10_passOver) := goodIn_app (goodIn_r _ [9, 10, 11, 12] (by decide +kernel) (by decide +kernel)) (fun w h => ⟨List.mem_cons_of_mem _ (List.mem_append_right _ (List.mem_append_right _ (List.mem_append_right _ (h)))), gs_X10_passOver w h⟩)
set_option maxHeartbeats 4000000 in
set_option maxRecDepth 100000 in
theorem s_X11_back (l : Launch) (D : va_G) (cs : Nat → ClassId) (ad : Nat → Nat) (kS : kSt) (K : sK) (hKO : KO K) (hj : wJ ad 218) (g : Nat → va_E) (hW : WF (shp ad K) ad cs g) (kk : Int32) : sI l yX11_back vX11_back { frames := 5, cells := 0, slots := 0, locals := 108 } D cs ad kS [.ref (ad 0), .int kk] g (fun r g2 => WF (shp ad K) ad cs g2 ∧ (∀ j, (j < 3 ∨ 3 + 20 ≤ j) ∧ j ≠ 115 → g2 j = g j) ∧ ((kk.toInt < 0 ∨ 2 < kk.toInt → r.toInt = -2) ∧ (0 ≤ kk.toInt ∧ kk.toInt ≤ 2 → (K.1 kk.toNatClampNeg).toInt = 0 → r.toInt = -6) ∧ (0 ≤ kk.toInt ∧ kk.toInt ≤ 2 → (K.1 kk.toNatClampNeg).toInt ≠ 0 → r.toInt = 0))) := by
  refine Met.startS (cc := cX11_back) (maxL := 2) (ret := (some .int)) RX11 rfl (by decide) rfl (Nat.le_of_ble_eq_true rfl) ?_
  intro p e s m below meth c ls X Z hP hl
  have hx := X.1
  have hb := X.2.1
  have hS : va_S (wA ad 218) s.heap s.heap [] := va_S.rf
  have hA : ∀ i, i < 218 → wA ad 218 (ad i) := fun i h => ⟨i, h, rfl⟩
  have hfr : ∀ j, (j < 3 ∨ 3 + 20 ≤ j) ∧ j ≠ 115 → g j = g j := fun _ _ => rfl
  have hl : lv_has ls 2 [(0, .ref (ad 0)), (1, .int kk)] := hl
  refine lv_iload_n hx hb dX11_back_0 rfl (lv_at hl 1 rfl) ?_
  have HJ9 : ∀ (G9 : Nat → va_E) (H : Heap) (locs : List Loc) (ls : Array Slot), (kk.toInt < 0 ∨ 2 < kk.toInt) → WF (shp ad K) ad cs G9 → (∀ j, (j < 3 ∨ 3 + 20 ≤ j) ∧ j ≠ 115 → G9 j = g j) → va_P D vwCl (wL ad G9 218) H → va_S (wA ad 218) s.heap H locs → lv_has ls 2 [] → W p l e ({ frames := 5, cells := 0, slots := 0, locals := 108 } : Room) s m ([.ref (ad 0), .int kk] : List Value).toArray below meth c H locs 0 0 (MQ below (qI D ad 218 (fun r g2 => WF (shp ad K) ad cs g2 ∧ (∀ j, (j < 3 ∨ 3 + 20 ≤ j) ∧ j ≠ 115 → g2 j = g j) ∧ ((kk.toInt < 0 ∨ 2 < kk.toInt → r.toInt = -2) ∧ (0 ≤ kk.toInt ∧ kk.toInt ≤ 2 → (K.1 kk.toNatClampNeg).toInt = 0 → r.toInt = -6) ∧ (0 ≤ kk.toInt ∧ kk.toInt ≤ 2 → (K.1 kk.toNatClampNeg).toInt ≠ 0 → r.toInt = 0)))) ([.ref (ad 0), .int kk] : List Value).toArray s 0 0 (wA ad 218)) (F0 m 9 ls []) := by
    intro G9 H locs ls he9_0 hW9 hfr9 hP hS hl
    refine lv_bipush (v := (-2)) hx hb dX11_back_9 (by decide) ?_
    have hr0 : ((-2) : Int32).toInt = -2 := by decide
    exact q_iret X hP hS ⟨hW9, hfr9, ⟨fun q0 => by omega, fun q0 q1 => by omega, fun q0 q1 => by omega⟩⟩ dX11_back_11
  refine lv_if_lt (tgt := 9) hx hb dX11_back_1 (by decide) (fun hc_1 => ?_) (fun hc_1 => ?_)
  · have hhc_1 := n_lt (rfl : kk.toInt = kk.toInt) (by decide : (0 : Int32).toInt = 0) hc_1
    exact HJ9 g _ _ ls (by omega) hW hfr hP hS (lv_sub hl [] rfl)
  · have hhc_1 := n_nlt (rfl : kk.toInt = kk.toInt) (by decide : (0 : Int32).toInt = 0) hc_1
    refine lv_iload_n hx hb dX11_back_4 rfl (lv_at hl 1 rfl) ?_
    refine lv_iconst (v := 3) hx hb dX11_back_5 (by decide) ?_
    refine lv_icmp_lt (tgt := 12) hx hb dX11_back_6 (by decide) (fun hc_2 => ?_) (fun hc_2 => ?_)
    · have hhc_2 := n_lt (rfl : kk.toInt = kk.toInt) (by decide : (3 : Int32).toInt = 3) hc_2
      refine lv_aload_n hx hb dX11_back_12 rfl (lv_at hl 0 rfl) ?_
      obtain ⟨fsc_3, hgc_3, hOc_3⟩ := hW.obj (i := 0) (by decide) (sh_0 ad K)
      have hk_4 := hOc_3.ref 4 rfl
      refine q_get X iX11_back_11 hP (by decide) hgc_3 rfl 4 (by decide) (List.mem_of_getElem? (i := 1) rfl) (v := .ref (ad 104)) hk_4 dX11_back_13 ?_
      refine lv_iload_n hx hb dX11_back_16 rfl (lv_at hl 1 rfl) ?_
      obtain ⟨fc_5, hgc_5, hFc_5⟩ := hW.arr (i := 104) (by decide) (sh_104 ad K)
      refine q_zald X hP (by decide) hgc_5 (n_in (rfl : kk.toInt = kk.toInt) (by omega) (by omega)) dX11_back_17 ?_
      refine lv_topi (fun z_6 ez_6 => ?_)
      have hqz_6 : z_6.toInt = (K.1 (kk.toNatClampNeg)).toInt := ez_6 ▸ hFc_5 _
      have hcz_6 := n_cl (rfl : kk.toInt = kk.toInt) (by omega)
      have hKOz_6 := hKO (kk.toNatClampNeg)
      have hz_6 : 0 ≤ z_6.toInt ∧ z_6.toInt ≤ 1 := by omega
      refine lv_if_ne (tgt := 24) hx hb dX11_back_18 (by decide) (fun hc_7 => ?_) (fun hc_7 => ?_)
      · have hhc_7 := n_ne (rfl : z_6.toInt = z_6.toInt) (by decide : (0 : Int32).toInt = 0) hc_7
        refine lv_aload_n hx hb dX11_back_24 rfl (lv_at hl 0 rfl) ?_
        have hk_8 := hOc_3.ref 1 rfl
        refine q_get X iX11_back_11 hP (by decide) hgc_3 rfl 1 (by decide) (List.mem_of_getElem? (i := 2) rfl) (v := .ref (ad 3)) hk_8 dX11_back_25 ?_
        refine lv_aload_n hx hb dX11_back_28 rfl (lv_at hl 0 rfl) ?_
        have hk_9 := hOc_3.ref 3 rfl
        refine q_get X iX11_back_11 hP (by decide) hgc_3 rfl 3 (by decide) (List.mem_of_getElem? (i := 3) rfl) (v := .ref (ad 43)) hk_9 dX11_back_29 ?_
        refine lv_iload_n hx hb dX11_back_32 rfl (lv_at hl 1 rfl) ?_
        obtain ⟨fc_10, hgc_10, hFc_10⟩ := hW.aref (i := 43) (by decide) (sh_43 ad K)
        obtain ⟨e_11, h_e_11, e_e_11⟩ : ∃ q : Nat, q < 3 ∧ kk.toNatClampNeg = q := ⟨_, by have := n_cl (rfl : kk.toInt = kk.toInt) (by omega); omega, rfl⟩
        obtain ⟨b_12, e_b_12, hb_b_12⟩ : ∃ q : Nat, q = 44 + 20 * e_11 ∧ (q = 3 ∨ q = 23 ∨ q = 44 ∨ q = 64 ∨ q = 84) := ⟨_, rfl, by omega⟩
        refine s_aald X hP 5 rfl rfl (by decide) hgc_10 (n_in (rfl : kk.toInt = kk.toInt) (by omega) (by omega)) (v := ad b_12) (by rw [e_e_11, hFc_10 _ h_e_11, e_b_12]) dX11_back_33 ?_
        obtain ⟨fsc_16, hgc_16, hOc_16⟩ := hW.obj (i := 3) (by decide) (sh_3 ad K)
        refine s_callv (q := (RX6, TX6, 18)) (As := [.ref (ad b_12)]) (rest := []) X Z (s_X6_copyFrom l D cs ad kS K hKO hj g hW 3 b_12 (by omega) (by omega) (by omega)) (cwV 1 X.2.2.2.2.1 gg_X11_back_X6_copyFrom rfl rfl rfl (by decide +kernel) ⟨Nat.le_of_ble_eq_true rfl, Nat.le_of_ble_eq_true rfl⟩) (by decide) hgc_16 rfl hP hA hS.2.1 hS rfl hl.1 rfl (Nat.le_of_ble_eq_true rfl) dX11_back_34 ⟨Nat.le_of_ble_eq_true rfl, Nat.le_of_ble_eq_true rfl⟩ (fun g_14 H locs hw_13 hP hS => ?_)
        obtain ⟨hw_13W, hw_13f⟩ := hw_13
        have hfr_17 : ∀ j, (j < 3 ∨ 3 + 20 ≤ j) ∧ j ≠ 115 → g_14 j = g j := fun j hj => (hw_13f j (by omega)).trans (hfr j hj)
        have hg_18 := (hw_13f 0 (by omega)).trans hgc_3
        have hg_19 := (hw_13f 104 (by omega)).trans hgc_5
        have hg_20 := (hw_13f 43 (by omega)).trans hgc_10
        refine lv_aload_n hx hb dX11_back_37 rfl (lv_at hl 0 rfl) ?_
        have hk_21 := hOc_3.ref 6 rfl
        refine q_get X iX11_back_11 hP (by decide) hg_18 rfl 6 (by decide) (List.mem_of_getElem? (i := 8) rfl) (v := .ref (ad 114)) hk_21 dX11_back_38 ?_
        refine lv_aload_n hx hb dX11_back_41 rfl (lv_at hl 0 rfl) ?_
        refine q_get X iX11_back_11 hP (by decide) hg_18 rfl 1 (by decide) (List.mem_of_getElem? (i := 2) rfl) (v := .ref (ad 3)) hk_8 dX11_back_42 ?_
        obtain ⟨fsc_25, hgc_25, hOc_25⟩ := hw_13W.obj (i := 114) (by decide) (sh_114 ad K)
        refine s_callv (q := (RX10, TX10, 4)) (As := [.ref (ad 3)]) (rest := []) X Z (s_X10_passOver l D cs ad kS K hKO hj g_14 hw_13W 114 (by omega)) (cwV 1 X.2.2.2.2.1 gg_X11_back_X10_passOver rfl rfl rfl (by decide +kernel) ⟨Nat.le_of_ble_eq_true rfl, Nat.le_of_ble_eq_true rfl⟩) (by decide) hgc_25 rfl hP hA hS.2.1 hS rfl hl.1 rfl (Nat.le_of_ble_eq_true rfl) dX11_back_45 ⟨Nat.le_of_ble_eq_true rfl, Nat.le_of_ble_eq_true rfl⟩ (fun g_23 H locs hw_22 hP hS => ?_)
        obtain ⟨hw_22W, hw_22f⟩ := hw_22
        have hfr_26 : ∀ j, (j < 3 ∨ 3 + 20 ≤ j) ∧ j ≠ 115 → g_23 j = g j := fun j hj => (hw_22f j (by omega)).trans (hfr_17 j hj)
        have hg_27 := (hw_22f 0 (by omega)).trans hg_18
        have hg_28 := (hw_22f 104 (by omega)).trans hg_19
        have hg_29 := (hw_22f 43 (by omega)).trans hg_20
        have hg_30 := (hw_22f 114 (by omega)).trans hgc_25
        refine lv_iconst (v := 0) hx hb dX11_back_48 (by decide) ?_
        have hr0 : (0 : Int32).toInt = 0 := by decide
        exact q_iret X hP hS ⟨hw_22W, hfr_26, ⟨fun q0 => by omega, fun q0 q1 => by omega, fun q0 q1 => by omega⟩⟩ dX11_back_49
      · have hhc_7 := n_eq (rfl : z_6.toInt = z_6.toInt) (by decide : (0 : Int32).toInt = 0) hc_7
        refine lv_bipush (v := (-6)) hx hb dX11_back_21 (by decide) ?_
        have hr0 : ((-6) : Int32).toInt = -6 := by decide
        exact q_iret X hP hS ⟨hW, hfr, ⟨fun q0 => by omega, fun q0 q1 => by omega, fun q0 q1 => by omega⟩⟩ dX11_back_23
    · have hhc_2 := n_nlt (rfl : kk.toInt = kk.toInt) (by decide : (3 : Int32).toInt = 3) hc_2
      exact HJ9 g _ _ ls (by omega) hW hfr hP hS (lv_sub hl [] rfl)

theorem dX5_lay_0 : decode cX5_lay 0 = .ok (.aload_n 0, 1) := by decide +kernel
theorem dX5_lay_1 : decode cX5_lay 1 = .ok (.getfield 9, 3) := by decide +kernel
theorem dX5_lay_4 : decode cX5_lay 4 = .ok (.lconst 0, 1) := by decide +kernel
theorem dX5_lay_5 : decode cX5_lay 5 = .ok (.invokestatic 15, 3) := by decide +kernel
theorem dX5_lay_8 : decode cX5_lay 8 = .ok (.aload_n 0, 1) := by decide +kernel
theorem dX5_lay_9 : decode cX5_lay 9 = .ok (.iconst 1, 1) := by decide +kernel
theorem dX5_lay_10 : decode cX5_lay 10 = .ok (.putfield 21, 3) := by decide +kernel
theorem dX5_lay_13 : decode cX5_lay 13 = .ok (.aload_n 0, 1) := by decide +kernel
theorem dX5_lay_14 : decode cX5_lay 14 = .ok (.iload_n 1, 1) := by decide +kernel
theorem dX5_lay_15 : decode cX5_lay 15 = .ok (.putfield 25, 3) := by decide +kernel
theorem dX5_lay_18 : decode cX5_lay 18 = .ok (.aload_n 0, 1) := by decide +kernel
theorem dX5_lay_19 : decode cX5_lay 19 = .ok (.iload_n 2, 1) := by decide +kernel
theorem dX5_lay_20 : decode cX5_lay 20 = .ok (.putfield 29, 3) := by decide +kernel
theorem dX5_lay_23 : decode cX5_lay 23 = .ok (.return_, 1) := by decide +kernel
noncomputable def vX5_lay : List Cond := .code yX5_lay cX5_lay 3 none :: (([.fieldLink RX5 9 "IcicleClock$Slot" "numbers" "[J", .methodLink RX5 15 yJ7_fill_d0a16, .static yJ7_fill_d0a16, .initialized RJ7, .fieldLink RX5 21 "IcicleClock$Slot" "laid" "Z", .fieldLink RX5 25 "IcicleClock$Slot" "width" "I", .fieldLink RX5 29 "IcicleClock$Slot" "held" "I"] : List Cond) ++ (wsX50 ++ vJ7_fill_d0a16))
theorem iX5_lay_5 : ∀ w ∈ wsX50, w ∈ vX5_lay := fun _ h => List.mem_cons_of_mem _ (List.mem_append_right _ (List.mem_append_left _ h))
theorem gs_X5_lay : Gd vX5_lay := Gd.cons (by decide +kernel) (Gd.app (Gd.r (by decide +kernel)) (Gd.app gwX_5 gs_J7_fill_d0a16))
theorem gg_X5_lay_J7_fill_d0a16 : GoodIn vX5_lay (va_wsS RX5 15 yJ7_fill_d0a16 vJ7_fill_d0a16) := goodIn_app (goodIn_r _ [2, 3, 4] (by decide +kernel) (by decide +kernel)) (fun w h => ⟨List.mem_cons_of_mem _ (List.mem_append_right _ (List.mem_append_right _ (h))), gs_J7_fill_d0a16 w h⟩)
set_option maxHeartbeats 4000000 in
set_option maxRecDepth 100000 in
theorem s_X5_lay (l : Launch) (D : va_G) (cs : Nat → ClassId) (ad : Nat → Nat) (kS : kSt) (K : sK) (hKO : KO K) (hj : wJ ad 218) (g : Nat → va_E) (hW : WF (shp ad K) ad cs g) (jj : Nat) (wd : Int32) (nn : Int32) (hp0 : jj < 4) (hp1 : 0 ≤ wd.toInt ∧ wd.toInt ≤ 3) (hp2 : 0 ≤ nn.toInt ∧ nn.toInt ≤ 60) : sV l yX5_lay vX5_lay { frames := 1, cells := 0, slots := 0, locals := 24 } D cs ad kS [.ref (ad (106 + 2 * jj)), .int wd, .int nn] g (fun g2 => (WF (shp ad (kHeld (kWid (kLaid (K) jj 1) jj wd) jj nn)) ad cs g2) ∧ (∀ j, j ≠ 106 + 2 * jj ∧ j ≠ 107 + 2 * jj → g2 j = g j)) := by
  refine Met.startS (cc := cX5_lay) (maxL := 3) (ret := none) RX5 rfl (by decide) rfl (Nat.le_of_ble_eq_true rfl) ?_
  intro p e s m below meth c ls X Z hP hl
  have hx := X.1
  have hb := X.2.1
  have hS : va_S (wA ad 218) s.heap s.heap [] := va_S.rf
  have hA : ∀ i, i < 218 → wA ad 218 (ad i) := fun i h => ⟨i, h, rfl⟩
  have hfr : ∀ j, j ≠ 106 + 2 * jj ∧ j ≠ 107 + 2 * jj → g j = g j := fun _ _ => rfl
  have hj_jj := hp0
  have hl : lv_has ls 3 [(0, .ref (ad (106 + 2 * jj))), (1, .int wd), (2, .int nn)] := hl
  refine lv_aload_n hx hb dX5_lay_0 rfl (lv_at hl 0 rfl) ?_
  obtain ⟨fsc_1, hgc_1, hOc_1⟩ := hW.obj (i := (106 + 2 * jj)) (by omega) (shJ_0 ad K hj_jj)
  have hk_2 := hOc_1.ref 0 rfl
  refine q_get X iX5_lay_5 hP (by omega) hgc_1 rfl 0 (by decide) (List.mem_of_getElem? (i := 1) rfl) (v := .ref (ad (107 + 2 * jj))) hk_2 dX5_lay_1 ?_
  refine lv_lconst (v := 0) hx hb dX5_lay_4 (by decide) ?_
  refine s_callSv (As := [.ref (ad (107 + 2 * jj)), .long 0]) (rest := []) X Z (s_fill_J l D cs ad kS K hKO hj g hW jj 0 (by omega)) (va_cwS 2 X.2.2.2.2.1 gg_X5_lay_J7_fill_d0a16 rfl rfl rfl (by decide +kernel) ⟨Nat.le_of_ble_eq_true rfl, Nat.le_of_ble_eq_true rfl⟩) hP hA hS.2.1 hS rfl hl.1 rfl (Nat.le_of_ble_eq_true rfl) dX5_lay_5 ⟨Nat.le_of_ble_eq_true rfl, Nat.le_of_ble_eq_true rfl⟩ (fun g_4 H locs hw_3 hP hS => ?_)
  obtain ⟨hw_3W, hw_3f⟩ := hw_3
  have hfr_6 : ∀ j, j ≠ 106 + 2 * jj ∧ j ≠ 107 + 2 * jj → g_4 j = g j := fun j hj => (hw_3f j (by omega)).trans (hfr j hj)
  have hg_7 := (hw_3f (106 + 2 * jj) (by omega)).trans hgc_1
  refine lv_aload_n hx hb dX5_lay_8 rfl (lv_at hl 0 rfl) ?_
  refine lv_iconst (v := 1) hx hb dX5_lay_9 (by decide) ?_
  have hKOKn_9 : KO (kLaid K jj 1) := hKO.laid (by decide) (by decide)
  refine s_putK (Sh' := shp ad (kLaid K jj 1)) X iX5_lay_5 tyX5 tyX5_ok nmX5 hP hj hA hS (by omega) hg_7 rfl 1 (by decide) (List.mem_of_getElem? (i := 5) rfl) rfl (ty := .boolean) (v := .int 1) (by decide +kernel) rfl rfl dX5_lay_10 hw_3W hOc_1 (sx_laid hj_jj) (shJ_0 ad _ hj_jj) (Eq.trans (b := 4) rfl rfl) rfl l4_1 ⟨1, rfl, Int.le_of_eq (congrArg Int32.toInt upd_eq'), Int.le_of_eq (congrArg Int32.toInt upd_eq').symm⟩ (fun fsc_8 gc_8 H locs hOc_8 hkc_8 hnc_8 hgc_8 hfc_8 hWc_8 hP hS => ?_)
  have hk_10 := (hnc_8 0 (by decide)).trans hk_2
  have hfr_11 : ∀ j, j ≠ 106 + 2 * jj ∧ j ≠ 107 + 2 * jj → gc_8 j = g j := fun j hj => (hfc_8 j (by omega)).trans (hfr_6 j hj)
  refine lv_aload_n hx hb dX5_lay_13 rfl (lv_at hl 0 rfl) ?_
  refine lv_iload_n hx hb dX5_lay_14 rfl (lv_at hl 1 rfl) ?_
  have hKOKn_13 : KO (kWid (kLaid K jj 1) jj wd) := hKOKn_9.wid
  refine s_putK (Sh' := shp ad (kWid (kLaid K jj 1) jj wd)) X iX5_lay_5 tyX5 tyX5_ok nmX5 hP hj hA hS (by omega) hgc_8 rfl 2 (by decide) (List.mem_of_getElem? (i := 6) rfl) rfl (ty := .int) (v := .int wd) (by decide +kernel) rfl rfl dX5_lay_15 hWc_8 hOc_8 (sx_wid hj_jj) (shJ_0 ad _ hj_jj) (Eq.trans (b := 4) rfl rfl) rfl l4_2 ⟨wd, rfl, Int.le_of_eq (congrArg Int32.toInt upd_eq'), Int.le_of_eq (congrArg Int32.toInt upd_eq').symm⟩ (fun fsc_12 gc_12 H locs hOc_12 hkc_12 hnc_12 hgc_12 hfc_12 hWc_12 hP hS => ?_)
  have hk_14 := (hnc_12 1 (by decide)).trans hkc_8
  have hk_15 := (hnc_12 0 (by decide)).trans hk_10
  have hfr_16 : ∀ j, j ≠ 106 + 2 * jj ∧ j ≠ 107 + 2 * jj → gc_12 j = g j := fun j hj => (hfc_12 j (by omega)).trans (hfr_11 j hj)
  refine lv_aload_n hx hb dX5_lay_18 rfl (lv_at hl 0 rfl) ?_
  refine lv_iload_n hx hb dX5_lay_19 rfl (lv_at hl 2 rfl) ?_
  have hKOKn_18 : KO (kHeld (kWid (kLaid K jj 1) jj wd) jj nn) := hKOKn_13.held (by omega) (by omega)
  refine s_putK (Sh' := shp ad (kHeld (kWid (kLaid K jj 1) jj wd) jj nn)) X iX5_lay_5 tyX5 tyX5_ok nmX5 hP hj hA hS (by omega) hgc_12 rfl 3 (by decide) (List.mem_of_getElem? (i := 7) rfl) rfl (ty := .int) (v := .int nn) (by decide +kernel) rfl rfl dX5_lay_20 hWc_12 hOc_12 (sx_held hj_jj) (shJ_0 ad _ hj_jj) (Eq.trans (b := 4) rfl rfl) rfl l4_3 ⟨nn, rfl, Int.le_of_eq (congrArg Int32.toInt upd_eq'), Int.le_of_eq (congrArg Int32.toInt upd_eq').symm⟩ (fun fsc_17 gc_17 H locs hOc_17 hkc_17 hnc_17 hgc_17 hfc_17 hWc_17 hP hS => ?_)
  have hk_19 := (hnc_17 2 (by decide)).trans hkc_12
  have hk_20 := (hnc_17 1 (by decide)).trans hk_14
  have hk_21 := (hnc_17 0 (by decide)).trans hk_15
  have hfr_22 : ∀ j, j ≠ 106 + 2 * jj ∧ j ≠ 107 + 2 * jj → gc_17 j = g j := fun j hj => (hfc_17 j (by omega)).trans (hfr_16 j hj)
  exact q_vret X hP hS ⟨hWc_17, hfr_22⟩ dX5_lay_23

set_option maxHeartbeats 4000000 in
set_option maxRecDepth 100000 in
theorem s_X11_isSlotF (l : Launch) (D : va_G) (cs : Nat → ClassId) (ad : Nat → Nat) (kS : kSt) (K : sK) (hKO : KO K) (hj : wJ ad 218) (g : Nat → va_E) (hW : WF (shp ad K) ad cs g) (sl : Int32) : sI l yX11_isSlot vX11_isSlot { frames := 0, cells := 0, slots := 0, locals := 0 } D cs ad kS [.int sl] g (fun r g2 => g2 = g ∧ (0 ≤ r.toInt ∧ r.toInt ≤ 1 ∧ (r.toInt ≠ 0 → 0 ≤ sl.toInt ∧ sl.toInt ≤ 3) ∧ (r.toInt = 0 → sl.toInt < 0 ∨ 3 < sl.toInt))) := by
  refine Met.startS (cc := cX11_isSlot) (maxL := 1) (ret := (some .boolean)) RX11 rfl (by decide) rfl (Nat.le_of_ble_eq_true rfl) ?_
  intro p e s m below meth c ls X Z hP hl
  have hx := X.1
  have hb := X.2.1
  have hS : va_S (wA ad 218) s.heap s.heap [] := va_S.rf
  have hA : ∀ i, i < 218 → wA ad 218 (ad i) := fun i h => ⟨i, h, rfl⟩
  have hl : lv_has ls 1 [(0, .int sl)] := hl
  refine lv_iload_n hx hb dX11_isSlot_0 rfl (lv_at hl 0 rfl) ?_
  have HJ13 : ∀ (H : Heap) (locs : List Loc) (ls : Array Slot), (sl.toInt < 0 ∨ 3 < sl.toInt) → va_P D vwCl (wL ad g 218) H → va_S (wA ad 218) s.heap H locs → lv_has ls 1 [] → W p l e ({ frames := 0, cells := 0, slots := 0, locals := 0 } : Room) s m ([.int sl] : List Value).toArray below meth c H locs 0 0 (MQ below (qI D ad 218 (fun r g2 => g2 = g ∧ (0 ≤ r.toInt ∧ r.toInt ≤ 1 ∧ (r.toInt ≠ 0 → 0 ≤ sl.toInt ∧ sl.toInt ≤ 3) ∧ (r.toInt = 0 → sl.toInt < 0 ∨ 3 < sl.toInt)))) ([.int sl] : List Value).toArray s 0 0 (wA ad 218)) (F0 m 13 ls []) := by
    intro H locs ls he13_0 hP hS hl
    refine lv_iconst (v := 0) hx hb dX11_isSlot_13 (by decide) ?_
    have hr0 : (0 : Int32).toInt = 0 := by decide
    exact q_zret X hP hS rfl ⟨rfl, (by omega)⟩ dX11_isSlot_14
  refine lv_if_lt (tgt := 13) hx hb dX11_isSlot_1 (by decide) (fun hc_1 => ?_) (fun hc_1 => ?_)
  · have hhc_1 := n_lt (rfl : sl.toInt = sl.toInt) (by decide : (0 : Int32).toInt = 0) hc_1
    exact HJ13 _ _ ls (by omega) hP hS (lv_sub hl [] rfl)
  · have hhc_1 := n_nlt (rfl : sl.toInt = sl.toInt) (by decide : (0 : Int32).toInt = 0) hc_1
    refine lv_iload_n hx hb dX11_isSlot_4 rfl (lv_at hl 0 rfl) ?_
    refine lv_iconst (v := 4) hx hb dX11_isSlot_5 (by decide) ?_
    refine lv_icmp_ge (tgt := 13) hx hb dX11_isSlot_6 (by decide) (fun hc_2 => ?_) (fun hc_2 => ?_)
    · have hhc_2 := n_le (by decide : (4 : Int32).toInt = 4) (rfl : sl.toInt = sl.toInt) hc_2
      exact HJ13 _ _ ls (by omega) hP hS (lv_sub hl [] rfl)
    · have hhc_2 := n_nle (by decide : (4 : Int32).toInt = 4) (rfl : sl.toInt = sl.toInt) hc_2
      refine lv_iconst (v := 1) hx hb dX11_isSlot_9 (by decide) ?_
      refine lv_goto (tgt := 14) hx hb dX11_isSlot_10 (by decide) ?_
      have hr0 : (1 : Int32).toInt = 1 := by decide
      exact q_zret X hP hS rfl ⟨rfl, (by omega)⟩ dX11_isSlot_14

theorem dX11_row_0 : decode cX11_row 0 = .ok (.iload_n 1, 1) := by decide +kernel
theorem dX11_row_1 : decode cX11_row 1 = .ok (.invokestatic 377, 3) := by decide +kernel
theorem dX11_row_4 : decode cX11_row 4 = .ok (.ifCond .eq 18, 3) := by decide +kernel
theorem dX11_row_7 : decode cX11_row 7 = .ok (.iload_n 2, 1) := by decide +kernel
theorem dX11_row_8 : decode cX11_row 8 = .ok (.ifCond .lt 14, 3) := by decide +kernel
theorem dX11_row_11 : decode cX11_row 11 = .ok (.iload_n 2, 1) := by decide +kernel
theorem dX11_row_12 : decode cX11_row 12 = .ok (.iconst 4, 1) := by decide +kernel
theorem dX11_row_13 : decode cX11_row 13 = .ok (.if_icmp .ge 9, 3) := by decide +kernel
theorem dX11_row_16 : decode cX11_row 16 = .ok (.iload_n 3, 1) := by decide +kernel
theorem dX11_row_17 : decode cX11_row 17 = .ok (.bipush 60, 2) := by decide +kernel
theorem dX11_row_19 : decode cX11_row 19 = .ok (.if_icmp .le 6, 3) := by decide +kernel
theorem dX11_row_25 : decode cX11_row 25 = .ok (.iload_n 3, 1) := by decide +kernel
theorem dX11_row_26 : decode cX11_row 26 = .ok (.ifCond .ge 6, 3) := by decide +kernel
theorem dX11_row_29 : decode cX11_row 29 = .ok (.bipush (-3), 2) := by decide +kernel
theorem dX11_row_31 : decode cX11_row 31 = .ok (.ireturn, 1) := by decide +kernel
theorem dX11_row_32 : decode cX11_row 32 = .ok (.aload_n 0, 1) := by decide +kernel
theorem dX11_row_33 : decode cX11_row 33 = .ok (.getfield 36, 3) := by decide +kernel
theorem dX11_row_36 : decode cX11_row 36 = .ok (.iload_n 1, 1) := by decide +kernel
theorem dX11_row_37 : decode cX11_row 37 = .ok (.aaload, 1) := by decide +kernel
theorem dX11_row_38 : decode cX11_row 38 = .ok (.iload_n 2, 1) := by decide +kernel
theorem dX11_row_39 : decode cX11_row 39 = .ok (.iload_n 3, 1) := by decide +kernel
theorem dX11_row_40 : decode cX11_row 40 = .ok (.invokevirtual 380, 3) := by decide +kernel
theorem dX11_row_43 : decode cX11_row 43 = .ok (.iconst 0, 1) := by decide +kernel
theorem dX11_row_44 : decode cX11_row 44 = .ok (.ireturn, 1) := by decide +kernel
theorem dX11_row_22 : decode cX11_row 22 = .ok (.bipush (-2), 2) := by decide +kernel
theorem dX11_row_24 : decode cX11_row 24 = .ok (.ireturn, 1) := by decide +kernel
noncomputable def vX11_row : List Cond := .code yX11_row cX11_row 4 (some .int) :: (([.methodLink RX11 377 yX11_isSlot, .static yX11_isSlot, .initialized RX11, .fieldLink RX11 36 "IcicleClock" "slots" "[LIcicleClock$Slot;", .methodLink RX11 380 yX5_lay, .instanceMethod yX5_lay, .selects RX5 yX5_lay yX5_lay, .initialized RX5] : List Cond) ++ (wsX110 ++ (vX11_isSlot ++ vX5_lay)))
theorem iX11_row_11 : ∀ w ∈ wsX110, w ∈ vX11_row := fun _ h => List.mem_cons_of_mem _ (List.mem_append_right _ (List.mem_append_left _ h))
theorem gs_X11_row : Gd vX11_row := Gd.cons (by decide +kernel) (Gd.app (Gd.r (by decide +kernel)) (Gd.app gwX_11 (Gd.app gs_X11_isSlot gs_X5_lay)))
theorem gg_X11_row_X11_isSlot : GoodIn vX11_row (wsS RX11 377 yX11_isSlot vX11_isSlot) := goodIn_app (goodIn_r _ [1, 2, 3] (by decide +kernel) (by decide +kernel)) (fun w h => ⟨List.mem_cons_of_mem _ (List.mem_append_right _ (List.mem_append_right _ (List.mem_append_left _ h))), gs_X11_isSlot w h⟩)
theorem gg_X11_row_X5_lay : GoodIn vX11_row (wsV RX11 380 RX5 yX5_lay vX5_lay) := goodIn_app (goodIn_r _ [5, 6, 7, 8] (by decide +kernel) (by decide +kernel)) (fun w h => ⟨List.mem_cons_of_mem _ (List.mem_append_right _ (List.mem_append_right _ (List.mem_append_right _ (h)))), gs_X5_lay w h⟩)
set_option maxHeartbeats 4000000 in
set_option maxRecDepth 100000 in
theorem s_X11_row (l : Launch) (D : va_G) (cs : Nat → ClassId) (ad : Nat → Nat) (kS : kSt) (K : sK) (hKO : KO K) (hj : wJ ad 218) (g : Nat → va_E) (hW : WF (shp ad K) ad cs g) (sl : Int32) (wd : Int32) (nn : Int32) : sI l yX11_row vX11_row { frames := 2, cells := 0, slots := 0, locals := 46 } D cs ad kS [.ref (ad 0), .int sl, .int wd, .int nn] g (fun r g2 => ((r.toInt = 0 → WF (shp ad (kHeld (kWid (kLaid (K) sl.toNatClampNeg 1) sl.toNatClampNeg wd) sl.toNatClampNeg nn)) ad cs g2) ∧ (r.toInt ≠ 0 → WF (shp ad (K)) ad cs g2)) ∧ (∀ j, j ≠ 106 ∧ j ≠ 107 ∧ j ≠ 108 ∧ j ≠ 109 ∧ j ≠ 110 ∧ j ≠ 111 ∧ j ≠ 112 ∧ j ≠ 113 → g2 j = g j) ∧ ((sl.toInt < 0 ∨ 3 < sl.toInt ∨ wd.toInt < 0 ∨ 3 < wd.toInt ∨ 60 < nn.toInt → r.toInt = -2) ∧ (0 ≤ sl.toInt ∧ sl.toInt ≤ 3 ∧ 0 ≤ wd.toInt ∧ wd.toInt ≤ 3 ∧ nn.toInt < 0 → r.toInt = -3) ∧ (0 ≤ sl.toInt ∧ sl.toInt ≤ 3 ∧ 0 ≤ wd.toInt ∧ wd.toInt ≤ 3 ∧ 0 ≤ nn.toInt ∧ nn.toInt ≤ 60 → r.toInt = 0))) := by
  refine Met.startS (cc := cX11_row) (maxL := 4) (ret := (some .int)) RX11 rfl (by decide) rfl (Nat.le_of_ble_eq_true rfl) ?_
  intro p e s m below meth c ls X Z hP hl
  have hx := X.1
  have hb := X.2.1
  have hS : va_S (wA ad 218) s.heap s.heap [] := va_S.rf
  have hA : ∀ i, i < 218 → wA ad 218 (ad i) := fun i h => ⟨i, h, rfl⟩
  have hfr : ∀ j, j ≠ 106 ∧ j ≠ 107 ∧ j ≠ 108 ∧ j ≠ 109 ∧ j ≠ 110 ∧ j ≠ 111 ∧ j ≠ 112 ∧ j ≠ 113 → g j = g j := fun _ _ => rfl
  have hl : lv_has ls 4 [(0, .ref (ad 0)), (1, .int sl), (2, .int wd), (3, .int nn)] := hl
  refine lv_iload_n hx hb dX11_row_0 rfl (lv_at hl 1 rfl) ?_
  refine s_callSi (As := [.int sl]) (rest := []) X Z (s_X11_isSlotF l D cs ad kS K hKO hj g hW sl) (cwS 1 X.2.2.2.2.1 gg_X11_row_X11_isSlot rfl rfl rfl (by decide +kernel) ⟨Nat.le_of_ble_eq_true rfl, Nat.le_of_ble_eq_true rfl⟩) hP hA hS.2.1 hS rfl hl.1 rfl (Nat.le_of_ble_eq_true rfl) dX11_row_1 ⟨Nat.le_of_ble_eq_true rfl, Nat.le_of_ble_eq_true rfl⟩ (fun r_3 g_2 H locs hw_1 hP hS => ?_)
  obtain ⟨hw_1g, hw_1⟩ := hw_1
  rw [hw_1g] at hP
  have HJ22 : ∀ (G22 : Nat → va_E) (H : Heap) (locs : List Loc) (ls : Array Slot), (sl.toInt < 0 ∨ 3 < sl.toInt ∨ wd.toInt < 0 ∨ 3 < wd.toInt ∨ 60 < nn.toInt) → WF (shp ad K) ad cs G22 → (∀ j, j ≠ 106 ∧ j ≠ 107 ∧ j ≠ 108 ∧ j ≠ 109 ∧ j ≠ 110 ∧ j ≠ 111 ∧ j ≠ 112 ∧ j ≠ 113 → G22 j = g j) → va_P D vwCl (wL ad G22 218) H → va_S (wA ad 218) s.heap H locs → lv_has ls 4 [] → W p l e ({ frames := 2, cells := 0, slots := 0, locals := 46 } : Room) s m ([.ref (ad 0), .int sl, .int wd, .int nn] : List Value).toArray below meth c H locs 0 0 (MQ below (qI D ad 218 (fun r g2 => ((r.toInt = 0 → WF (shp ad (kHeld (kWid (kLaid (K) sl.toNatClampNeg 1) sl.toNatClampNeg wd) sl.toNatClampNeg nn)) ad cs g2) ∧ (r.toInt ≠ 0 → WF (shp ad (K)) ad cs g2)) ∧ (∀ j, j ≠ 106 ∧ j ≠ 107 ∧ j ≠ 108 ∧ j ≠ 109 ∧ j ≠ 110 ∧ j ≠ 111 ∧ j ≠ 112 ∧ j ≠ 113 → g2 j = g j) ∧ ((sl.toInt < 0 ∨ 3 < sl.toInt ∨ wd.toInt < 0 ∨ 3 < wd.toInt ∨ 60 < nn.toInt → r.toInt = -2) ∧ (0 ≤ sl.toInt ∧ sl.toInt ≤ 3 ∧ 0 ≤ wd.toInt ∧ wd.toInt ≤ 3 ∧ nn.toInt < 0 → r.toInt = -3) ∧ (0 ≤ sl.toInt ∧ sl.toInt ≤ 3 ∧ 0 ≤ wd.toInt ∧ wd.toInt ≤ 3 ∧ 0 ≤ nn.toInt ∧ nn.toInt ≤ 60 → r.toInt = 0)))) ([.ref (ad 0), .int sl, .int wd, .int nn] : List Value).toArray s 0 0 (wA ad 218)) (F0 m 22 ls []) := by
    intro G22 H locs ls he22_0 hW22 hfr22 hP hS hl
    refine lv_bipush (v := (-2)) hx hb dX11_row_22 (by decide) ?_
    have hw0 : ((-2) : Int32).toInt = -2 := by decide
    have hr0 : ((-2) : Int32).toInt = -2 := by decide
    exact q_iret X hP hS ⟨⟨fun q => by exfalso; omega, fun _ => hW22⟩, hfr22, ⟨fun q0 => by omega, fun q0 => by omega, fun q0 => by omega⟩⟩ dX11_row_24
  refine lv_if_eq (tgt := 22) hx hb dX11_row_4 (by decide) (fun hc_4 => ?_) (fun hc_4 => ?_)
  · have hhc_4 := n_eq (rfl : r_3.toInt = r_3.toInt) (by decide : (0 : Int32).toInt = 0) hc_4
    exact HJ22 g _ _ ls (by omega) hW hfr hP hS (lv_sub hl [] rfl)
  · have hhc_4 := n_ne (rfl : r_3.toInt = r_3.toInt) (by decide : (0 : Int32).toInt = 0) hc_4
    refine lv_iload_n hx hb dX11_row_7 rfl (lv_at hl 2 rfl) ?_
    refine lv_if_lt (tgt := 22) hx hb dX11_row_8 (by decide) (fun hc_5 => ?_) (fun hc_5 => ?_)
    · have hhc_5 := n_lt (rfl : wd.toInt = wd.toInt) (by decide : (0 : Int32).toInt = 0) hc_5
      exact HJ22 g _ _ ls (by omega) hW hfr hP hS (lv_sub hl [] rfl)
    · have hhc_5 := n_nlt (rfl : wd.toInt = wd.toInt) (by decide : (0 : Int32).toInt = 0) hc_5
      refine lv_iload_n hx hb dX11_row_11 rfl (lv_at hl 2 rfl) ?_
      refine lv_iconst (v := 4) hx hb dX11_row_12 (by decide) ?_
      refine lv_icmp_ge (tgt := 22) hx hb dX11_row_13 (by decide) (fun hc_6 => ?_) (fun hc_6 => ?_)
      · have hhc_6 := n_le (by decide : (4 : Int32).toInt = 4) (rfl : wd.toInt = wd.toInt) hc_6
        exact HJ22 g _ _ ls (by omega) hW hfr hP hS (lv_sub hl [] rfl)
      · have hhc_6 := n_nle (by decide : (4 : Int32).toInt = 4) (rfl : wd.toInt = wd.toInt) hc_6
        refine lv_iload_n hx hb dX11_row_16 rfl (lv_at hl 3 rfl) ?_
        refine lv_bipush (v := 60) hx hb dX11_row_17 (by decide) ?_
        refine lv_icmp_le (tgt := 25) hx hb dX11_row_19 (by decide) (fun hc_7 => ?_) (fun hc_7 => ?_)
        · have hhc_7 := n_le (rfl : nn.toInt = nn.toInt) (by decide : (60 : Int32).toInt = 60) hc_7
          refine lv_iload_n hx hb dX11_row_25 rfl (lv_at hl 3 rfl) ?_
          refine lv_if_ge (tgt := 32) hx hb dX11_row_26 (by decide) (fun hc_8 => ?_) (fun hc_8 => ?_)
          · have hhc_8 := n_le (by decide : (0 : Int32).toInt = 0) (rfl : nn.toInt = nn.toInt) hc_8
            refine lv_aload_n hx hb dX11_row_32 rfl (lv_at hl 0 rfl) ?_
            obtain ⟨fsc_9, hgc_9, hOc_9⟩ := hW.obj (i := 0) (by decide) (sh_0 ad K)
            have hk_10 := hOc_9.ref 5 rfl
            refine q_get X iX11_row_11 hP (by decide) hgc_9 rfl 5 (by decide) (List.mem_of_getElem? (i := 4) rfl) (v := .ref (ad 105)) hk_10 dX11_row_33 ?_
            refine lv_iload_n hx hb dX11_row_36 rfl (lv_at hl 1 rfl) ?_
            obtain ⟨fc_11, hgc_11, hFc_11⟩ := hW.aref (i := 105) (by decide) (sh_105 ad K)
            obtain ⟨e_12, h_e_12, e_e_12⟩ : ∃ q : Nat, q < 4 ∧ sl.toNatClampNeg = q := ⟨_, by have := n_cl (rfl : sl.toInt = sl.toInt) (by omega); omega, rfl⟩
            refine s_aald X hP 4 rfl rfl (by decide) hgc_11 (n_in (rfl : sl.toInt = sl.toInt) (by omega) (by omega)) (v := ad (106 + 2 * e_12)) (by rw [e_e_12]; exact hFc_11 _ h_e_12) dX11_row_37 ?_
            have hj_e_12 := h_e_12
            refine lv_iload_n hx hb dX11_row_38 rfl (lv_at hl 2 rfl) ?_
            refine lv_iload_n hx hb dX11_row_39 rfl (lv_at hl 3 rfl) ?_
            obtain ⟨fsc_16, hgc_16, hOc_16⟩ := hW.obj (i := (106 + 2 * e_12)) (by omega) (shJ_0 ad K hj_e_12)
            refine s_callv (q := (RX5, TX5, 4)) (As := [.int wd, .int nn]) (rest := []) X Z (s_X5_lay l D cs ad kS K hKO hj g hW e_12 wd nn (by omega) (by omega) (by omega)) (cwV 2 X.2.2.2.2.1 gg_X11_row_X5_lay rfl rfl rfl (by decide +kernel) ⟨Nat.le_of_ble_eq_true rfl, Nat.le_of_ble_eq_true rfl⟩) (by omega) hgc_16 rfl hP hA hS.2.1 hS rfl hl.1 rfl (Nat.le_of_ble_eq_true rfl) dX11_row_40 ⟨Nat.le_of_ble_eq_true rfl, Nat.le_of_ble_eq_true rfl⟩ (fun g_14 H locs hw_13 hP hS => ?_)
            obtain ⟨hw_13W, hw_13f⟩ := hw_13
            have hfr_17 : ∀ j, j ≠ 106 ∧ j ≠ 107 ∧ j ≠ 108 ∧ j ≠ 109 ∧ j ≠ 110 ∧ j ≠ 111 ∧ j ≠ 112 ∧ j ≠ 113 → g_14 j = g j := fun j hj => (hw_13f j (by omega)).trans (hfr j hj)
            have hg_18 := (hw_13f 0 (by omega)).trans hgc_9
            have hg_19 := (hw_13f 105 (by omega)).trans hgc_11
            rw [← e_e_12] at hw_13W
            refine lv_iconst (v := 0) hx hb dX11_row_43 (by decide) ?_
            have hw0 : (0 : Int32).toInt = 0 := by decide
            have hr0 : (0 : Int32).toInt = 0 := by decide
            exact q_iret X hP hS ⟨⟨fun _ => hw_13W, fun q => by exfalso; omega⟩, hfr_17, ⟨fun q0 => by omega, fun q0 => by omega, fun q0 => by omega⟩⟩ dX11_row_44
          · have hhc_8 := n_nle (by decide : (0 : Int32).toInt = 0) (rfl : nn.toInt = nn.toInt) hc_8
            refine lv_bipush (v := (-3)) hx hb dX11_row_29 (by decide) ?_
            have hw0 : ((-3) : Int32).toInt = -3 := by decide
            have hr0 : ((-3) : Int32).toInt = -3 := by decide
            exact q_iret X hP hS ⟨⟨fun q => by exfalso; omega, fun _ => hW⟩, hfr, ⟨fun q0 => by omega, fun q0 => by omega, fun q0 => by omega⟩⟩ dX11_row_31
        · have hhc_7 := n_nle (rfl : nn.toInt = nn.toInt) (by decide : (60 : Int32).toInt = 60) hc_7
          exact HJ22 g _ _ ls (by omega) hW hfr hP hS (lv_sub hl [] rfl)

theorem dX11_write_0 : decode cX11_write 0 = .ok (.iload_n 1, 1) := by decide +kernel
theorem dX11_write_1 : decode cX11_write 1 = .ok (.invokestatic 377, 3) := by decide +kernel
theorem dX11_write_4 : decode cX11_write 4 = .ok (.ifCond .ne 6, 3) := by decide +kernel
theorem dX11_write_7 : decode cX11_write 7 = .ok (.bipush (-2), 2) := by decide +kernel
theorem dX11_write_9 : decode cX11_write 9 = .ok (.ireturn, 1) := by decide +kernel
theorem dX11_write_10 : decode cX11_write 10 = .ok (.aload_n 0, 1) := by decide +kernel
theorem dX11_write_11 : decode cX11_write 11 = .ok (.getfield 36, 3) := by decide +kernel
theorem dX11_write_14 : decode cX11_write 14 = .ok (.iload_n 1, 1) := by decide +kernel
theorem dX11_write_15 : decode cX11_write 15 = .ok (.aaload, 1) := by decide +kernel
theorem dX11_write_16 : decode cX11_write 16 = .ok (.astore 5, 2) := by decide +kernel
theorem dX11_write_18 : decode cX11_write 18 = .ok (.aload 5, 2) := by decide +kernel
theorem dX11_write_20 : decode cX11_write 20 = .ok (.getfield 384, 3) := by decide +kernel
theorem dX11_write_23 : decode cX11_write 23 = .ok (.ifCond .ne 6, 3) := by decide +kernel
theorem dX11_write_26 : decode cX11_write 26 = .ok (.bipush (-6), 2) := by decide +kernel
theorem dX11_write_28 : decode cX11_write 28 = .ok (.ireturn, 1) := by decide +kernel
theorem dX11_write_29 : decode cX11_write 29 = .ok (.iload_n 2, 1) := by decide +kernel
theorem dX11_write_30 : decode cX11_write 30 = .ok (.ifCond .lt 12, 3) := by decide +kernel
theorem dX11_write_33 : decode cX11_write 33 = .ok (.iload_n 2, 1) := by decide +kernel
theorem dX11_write_34 : decode cX11_write 34 = .ok (.aload 5, 2) := by decide +kernel
theorem dX11_write_36 : decode cX11_write 36 = .ok (.getfield 388, 3) := by decide +kernel
theorem dX11_write_39 : decode cX11_write 39 = .ok (.if_icmp .lt 6, 3) := by decide +kernel
theorem dX11_write_45 : decode cX11_write 45 = .ok (.aload 5, 2) := by decide +kernel
theorem dX11_write_47 : decode cX11_write 47 = .ok (.getfield 391, 3) := by decide +kernel
theorem dX11_write_50 : decode cX11_write 50 = .ok (.iload_n 2, 1) := by decide +kernel
theorem dX11_write_51 : decode cX11_write 51 = .ok (.aload 5, 2) := by decide +kernel
theorem dX11_write_53 : decode cX11_write 53 = .ok (.lload_n 3, 1) := by decide +kernel
theorem dX11_write_54 : decode cX11_write 54 = .ok (.invokevirtual 394, 3) := by decide +kernel
theorem dX11_write_57 : decode cX11_write 57 = .ok (.lastore, 1) := by decide +kernel
theorem dX11_write_58 : decode cX11_write 58 = .ok (.iconst 0, 1) := by decide +kernel
theorem dX11_write_59 : decode cX11_write 59 = .ok (.ireturn, 1) := by decide +kernel
theorem dX11_write_42 : decode cX11_write 42 = .ok (.bipush (-7), 2) := by decide +kernel
theorem dX11_write_44 : decode cX11_write 44 = .ok (.ireturn, 1) := by decide +kernel
noncomputable def vX11_write : List Cond := .code yX11_write cX11_write 6 (some .int) :: (([.methodLink RX11 377 yX11_isSlot, .static yX11_isSlot, .initialized RX11, .fieldLink RX11 36 "IcicleClock" "slots" "[LIcicleClock$Slot;", .fieldLink RX11 384 "IcicleClock$Slot" "laid" "Z", .fieldLink RX11 388 "IcicleClock$Slot" "held" "I", .fieldLink RX11 391 "IcicleClock$Slot" "numbers" "[J", .methodLink RX11 394 yX5_cut, .instanceMethod yX5_cut, .selects RX5 yX5_cut yX5_cut, .initialized RX5] : List Cond) ++ (wsX110 ++ (wsX50 ++ (vX11_isSlot ++ vX5_cut))))
theorem iX11_write_11 : ∀ w ∈ wsX110, w ∈ vX11_write := fun _ h => List.mem_cons_of_mem _ (List.mem_append_right _ (List.mem_append_left _ h))
theorem iX11_write_5 : ∀ w ∈ wsX50, w ∈ vX11_write := fun _ h => List.mem_cons_of_mem _ (List.mem_append_right _ (List.mem_append_right _ (List.mem_append_left _ h)))
theorem gs_X11_write : Gd vX11_write := Gd.cons (by decide +kernel) (Gd.app (Gd.r (by decide +kernel)) (Gd.app gwX_11 (Gd.app gwX_5 (Gd.app gs_X11_isSlot gs_X5_cut))))
theorem gg_X11_write_X11_isSlot : GoodIn vX11_write (wsS RX11 377 yX11_isSlot vX11_isSlot) := goodIn_app (goodIn_r _ [1, 2, 3] (by decide +kernel) (by decide +kernel)) (fun w h => ⟨List.mem_cons_of_mem _ (List.mem_append_right _ (List.mem_append_right _ (List.mem_append_right _ (List.mem_append_left _ h)))), gs_X11_isSlot w h⟩)
theorem gg_X11_write_X5_cut : GoodIn vX11_write (wsV RX11 394 RX5 yX5_cut vX5_cut) := goodIn_app (goodIn_r _ [8, 9, 10, 11] (by decide +kernel) (by decide +kernel)) (fun w h => ⟨List.mem_cons_of_mem _ (List.mem_append_right _ (List.mem_append_right _ (List.mem_append_right _ (List.mem_append_right _ (h))))), gs_X5_cut w h⟩)
set_option maxHeartbeats 4000000 in
set_option maxRecDepth 100000 in
theorem s_X11_write (l : Launch) (D : va_G) (cs : Nat → ClassId) (ad : Nat → Nat) (kS : kSt) (K : sK) (hKO : KO K) (hj : wJ ad 218) (g : Nat → va_E) (hW : WF (shp ad K) ad cs g) (sl : Int32) (ix : Int32) (vv : Int64) : sI l yX11_write vX11_write { frames := 1, cells := 0, slots := 0, locals := 22 } D cs ad kS [.ref (ad 0), .int sl, .int ix, .long vv] g (fun r g2 => WF (shp ad K) ad cs g2 ∧ (∀ j, j ≠ 107 ∧ j ≠ 109 ∧ j ≠ 111 ∧ j ≠ 113 → g2 j = g j) ∧ ((sl.toInt < 0 ∨ 3 < sl.toInt → r.toInt = -2) ∧ (0 ≤ sl.toInt ∧ sl.toInt ≤ 3 → (K.2.1 sl.toNatClampNeg).toInt = 0 → r.toInt = -6) ∧ (0 ≤ sl.toInt ∧ sl.toInt ≤ 3 → ¬ (K.2.1 sl.toNatClampNeg).toInt = 0 → ix.toInt < 0 ∨ (K.2.2.2.1 sl.toNatClampNeg).toInt ≤ ix.toInt → r.toInt = -7) ∧ (0 ≤ sl.toInt ∧ sl.toInt ≤ 3 → ¬ (K.2.1 sl.toNatClampNeg).toInt = 0 → 0 ≤ ix.toInt ∧ ix.toInt < (K.2.2.2.1 sl.toNatClampNeg).toInt → r.toInt = 0))) := by
  refine Met.startS (cc := cX11_write) (maxL := 6) (ret := (some .int)) RX11 rfl (by decide) rfl (Nat.le_of_ble_eq_true rfl) ?_
  intro p e s m below meth c ls X Z hP hl
  have hx := X.1
  have hb := X.2.1
  have hS : va_S (wA ad 218) s.heap s.heap [] := va_S.rf
  have hA : ∀ i, i < 218 → wA ad 218 (ad i) := fun i h => ⟨i, h, rfl⟩
  have hfr : ∀ j, j ≠ 107 ∧ j ≠ 109 ∧ j ≠ 111 ∧ j ≠ 113 → g j = g j := fun _ _ => rfl
  have hl : lv_has ls 6 [(0, .ref (ad 0)), (1, .int sl), (2, .int ix), (3, .long vv)] := hl
  refine lv_iload_n hx hb dX11_write_0 rfl (lv_at hl 1 rfl) ?_
  refine s_callSi (As := [.int sl]) (rest := []) X Z (s_X11_isSlotF l D cs ad kS K hKO hj g hW sl) (cwS 1 X.2.2.2.2.1 gg_X11_write_X11_isSlot rfl rfl rfl (by decide +kernel) ⟨Nat.le_of_ble_eq_true rfl, Nat.le_of_ble_eq_true rfl⟩) hP hA hS.2.1 hS rfl hl.1 rfl (Nat.le_of_ble_eq_true rfl) dX11_write_1 ⟨Nat.le_of_ble_eq_true rfl, Nat.le_of_ble_eq_true rfl⟩ (fun r_3 g_2 H locs hw_1 hP hS => ?_)
  obtain ⟨hw_1g, hw_1⟩ := hw_1
  rw [hw_1g] at hP
  refine lv_if_ne (tgt := 10) hx hb dX11_write_4 (by decide) (fun hc_4 => ?_) (fun hc_4 => ?_)
  · have hhc_4 := n_ne (rfl : r_3.toInt = r_3.toInt) (by decide : (0 : Int32).toInt = 0) hc_4
    refine lv_aload_n hx hb dX11_write_10 rfl (lv_at hl 0 rfl) ?_
    obtain ⟨fsc_5, hgc_5, hOc_5⟩ := hW.obj (i := 0) (by decide) (sh_0 ad K)
    have hk_6 := hOc_5.ref 5 rfl
    refine q_get X iX11_write_11 hP (by decide) hgc_5 rfl 5 (by decide) (List.mem_of_getElem? (i := 4) rfl) (v := .ref (ad 105)) hk_6 dX11_write_11 ?_
    refine lv_iload_n hx hb dX11_write_14 rfl (lv_at hl 1 rfl) ?_
    obtain ⟨fc_7, hgc_7, hFc_7⟩ := hW.aref (i := 105) (by decide) (sh_105 ad K)
    obtain ⟨e_8, h_e_8, e_e_8⟩ : ∃ q : Nat, q < 4 ∧ sl.toNatClampNeg = q := ⟨_, by have := n_cl (rfl : sl.toInt = sl.toInt) (by omega); omega, rfl⟩
    refine s_aald X hP 4 rfl rfl (by decide) hgc_7 (n_in (rfl : sl.toInt = sl.toInt) (by omega) (by omega)) (v := ad (106 + 2 * e_8)) (by rw [e_e_8]; exact hFc_7 _ h_e_8) dX11_write_15 ?_
    have hj_e_8 := h_e_8
    have hkeq_9 : (K.2.1 sl.toNatClampNeg).toInt = (K.2.1 e_8).toInt := by rw [e_e_8]
    have hkeq_10 : (K.2.2.1 sl.toNatClampNeg).toInt = (K.2.2.1 e_8).toInt := by rw [e_e_8]
    have hkeq_11 : (K.2.2.2.1 sl.toNatClampNeg).toInt = (K.2.2.2.1 e_8).toInt := by rw [e_e_8]
    refine lv_astore (lv' := [(5, .ref (ad (106 + 2 * e_8))), (0, .ref (ad 0)), (1, .int sl), (2, .int ix), (3, .long vv)]) hx hb dX11_write_16 hl (by decide) rfl (fun ls hl => ?_)
    refine lv_aload hx hb dX11_write_18 (lv_at hl 0 rfl) ?_
    obtain ⟨fsc_12, hgc_12, hOc_12⟩ := hW.obj (i := (106 + 2 * e_8)) (by omega) (shJ_0 ad K hj_e_8)
    obtain ⟨x_14, hk_13, hlx_14, hhx_14⟩ := hOc_12.int 1 rfl
    have hqx_14 := hKO e_8
    refine q_get X iX11_write_5 hP (by omega) hgc_12 rfl 1 (by decide) (List.mem_of_getElem? (i := 5) rfl) (v := .int x_14) hk_13 dX11_write_20 ?_
    refine lv_if_ne (tgt := 29) hx hb dX11_write_23 (by decide) (fun hc_15 => ?_) (fun hc_15 => ?_)
    · have hhc_15 := n_ne (rfl : x_14.toInt = x_14.toInt) (by decide : (0 : Int32).toInt = 0) hc_15
      refine lv_iload_n hx hb dX11_write_29 rfl (lv_at hl 3 rfl) ?_
      have HJ42 : ∀ (G42 : Nat → va_E) (H : Heap) (locs : List Loc) (ls : Array Slot), (ix.toInt < 0 ∨ (K.2.2.2.1 sl.toNatClampNeg).toInt ≤ ix.toInt) → WF (shp ad K) ad cs G42 → (∀ j, j ≠ 107 ∧ j ≠ 109 ∧ j ≠ 111 ∧ j ≠ 113 → G42 j = g j) → G42 0 = .inr (11, fsc_5) → G42 105 = .inl (cs 4, 4, .inr (.inr (.inr (.inr fc_7)))) → va_P D vwCl (wL ad G42 218) H → va_S (wA ad 218) s.heap H locs → lv_has ls 6 [] → W p l e ({ frames := 1, cells := 0, slots := 0, locals := 22 } : Room) s m ([.ref (ad 0), .int sl, .int ix, .long vv] : List Value).toArray below meth c H locs 0 0 (MQ below (qI D ad 218 (fun r g2 => WF (shp ad K) ad cs g2 ∧ (∀ j, j ≠ 107 ∧ j ≠ 109 ∧ j ≠ 111 ∧ j ≠ 113 → g2 j = g j) ∧ ((sl.toInt < 0 ∨ 3 < sl.toInt → r.toInt = -2) ∧ (0 ≤ sl.toInt ∧ sl.toInt ≤ 3 → (K.2.1 sl.toNatClampNeg).toInt = 0 → r.toInt = -6) ∧ (0 ≤ sl.toInt ∧ sl.toInt ≤ 3 → ¬ (K.2.1 sl.toNatClampNeg).toInt = 0 → ix.toInt < 0 ∨ (K.2.2.2.1 sl.toNatClampNeg).toInt ≤ ix.toInt → r.toInt = -7) ∧ (0 ≤ sl.toInt ∧ sl.toInt ≤ 3 → ¬ (K.2.1 sl.toNatClampNeg).toInt = 0 → 0 ≤ ix.toInt ∧ ix.toInt < (K.2.2.2.1 sl.toNatClampNeg).toInt → r.toInt = 0)))) ([.ref (ad 0), .int sl, .int ix, .long vv] : List Value).toArray s 0 0 (wA ad 218)) (F0 m 42 ls []) := by
        intro G42 H locs ls he42_0 hW42 hfr42 hg42_0 hg42_1 hP hS hl
        refine lv_bipush (v := (-7)) hx hb dX11_write_42 (by decide) ?_
        have hr0 : ((-7) : Int32).toInt = -7 := by decide
        exact q_iret X hP hS ⟨hW42, hfr42, ⟨fun q0 => by omega, fun q0 q1 => by omega, fun q0 q1 q2 => by omega, fun q0 q1 q2 => by omega⟩⟩ dX11_write_44
      refine lv_if_lt (tgt := 42) hx hb dX11_write_30 (by decide) (fun hc_16 => ?_) (fun hc_16 => ?_)
      · have hhc_16 := n_lt (rfl : ix.toInt = ix.toInt) (by decide : (0 : Int32).toInt = 0) hc_16
        exact HJ42 g _ _ ls (by omega) hW hfr hgc_5 hgc_7 hP hS (lv_sub hl [] rfl)
      · have hhc_16 := n_nlt (rfl : ix.toInt = ix.toInt) (by decide : (0 : Int32).toInt = 0) hc_16
        refine lv_iload_n hx hb dX11_write_33 rfl (lv_at hl 3 rfl) ?_
        refine lv_aload hx hb dX11_write_34 (lv_at hl 0 rfl) ?_
        obtain ⟨x_18, hk_17, hlx_18, hhx_18⟩ := hOc_12.int 3 rfl
        have hqx_18 := hKO e_8
        refine q_get X iX11_write_5 hP (by omega) hgc_12 rfl 3 (by decide) (List.mem_of_getElem? (i := 6) rfl) (v := .int x_18) hk_17 dX11_write_36 ?_
        refine lv_icmp_lt (tgt := 45) hx hb dX11_write_39 (by decide) (fun hc_19 => ?_) (fun hc_19 => ?_)
        · have hhc_19 := n_lt (rfl : ix.toInt = ix.toInt) (rfl : x_18.toInt = x_18.toInt) hc_19
          have := n_hi ix
          refine lv_aload hx hb dX11_write_45 (lv_at hl 0 rfl) ?_
          have hk_20 := hOc_12.ref 0 rfl
          refine q_get X iX11_write_5 hP (by omega) hgc_12 rfl 0 (by decide) (List.mem_of_getElem? (i := 7) rfl) (v := .ref (ad (107 + 2 * e_8))) hk_20 dX11_write_47 ?_
          refine lv_iload_n hx hb dX11_write_50 rfl (lv_at hl 3 rfl) ?_
          refine lv_aload hx hb dX11_write_51 (lv_at hl 0 rfl) ?_
          refine lv_lload_n hx hb dX11_write_53 rfl (lv_at hl 4 rfl) ?_
          refine s_callj (q := (RX5, TX5, 4)) (As := [.long vv]) (rest := [.int ix, .ref (ad (107 + 2 * e_8))]) X Z (s_X5_cut l D cs ad kS K hKO hj g hW e_8 vv (by omega)) (cwV 1 X.2.2.2.2.1 gg_X11_write_X5_cut rfl rfl rfl (by decide +kernel) ⟨Nat.le_of_ble_eq_true rfl, Nat.le_of_ble_eq_true rfl⟩) (by omega) hgc_12 rfl hP hA hS.2.1 hS rfl hl.1 rfl (Nat.le_of_ble_eq_true rfl) dX11_write_54 ⟨Nat.le_of_ble_eq_true rfl, Nat.le_of_ble_eq_true rfl⟩ (fun r_23 g_22 H locs hw_21 hP hS => ?_)
          rw [hw_21] at hP
          obtain ⟨fc_24, hgc_24, hFc_24⟩ := hW.arj (i := (107 + 2 * e_8)) (by omega) (shJ_1 ad K hj_e_8)
          refine s_last X hP hj hA hS (by omega) hgc_24 (n_in (rfl : ix.toInt = ix.toInt) (by omega) (by omega)) dX11_write_57 hW (shJ_1 ad K hj_e_8) (hFc_24.put trivial) (fun fc_25 gc_25 H locs ec_25 hFc_25 hgc_25 hfc_25 hWc_25 hP hS => ?_)
          have hg_27 := (hfc_25 0 (by omega)).trans hgc_5
          have hg_28 := (hfc_25 105 (by omega)).trans hgc_7
          have hg_29 := (hfc_25 (106 + 2 * e_8) (by omega)).trans hgc_12
          have hfr_26 : ∀ j, j ≠ 107 ∧ j ≠ 109 ∧ j ≠ 111 ∧ j ≠ 113 → gc_25 j = g j := fun j hj => (hfc_25 j (by omega)).trans (hfr j hj)
          refine lv_iconst (v := 0) hx hb dX11_write_58 (by decide) ?_
          have hr0 : (0 : Int32).toInt = 0 := by decide
          exact q_iret X hP hS ⟨hWc_25, hfr_26, ⟨fun q0 => by omega, fun q0 q1 => by omega, fun q0 q1 q2 => by omega, fun q0 q1 q2 => by omega⟩⟩ dX11_write_59
        · have hhc_19 := n_nlt (rfl : ix.toInt = ix.toInt) (rfl : x_18.toInt = x_18.toInt) hc_19
          have := n_hi ix
          exact HJ42 g _ _ ls (by omega) hW hfr hgc_5 hgc_7 hP hS (lv_sub hl [] rfl)
    · have hhc_15 := n_eq (rfl : x_14.toInt = x_14.toInt) (by decide : (0 : Int32).toInt = 0) hc_15
      refine lv_bipush (v := (-6)) hx hb dX11_write_26 (by decide) ?_
      have hr0 : ((-6) : Int32).toInt = -6 := by decide
      exact q_iret X hP hS ⟨hW, hfr, ⟨fun q0 => by omega, fun q0 q1 => by omega, fun q0 q1 q2 => by omega, fun q0 q1 q2 => by omega⟩⟩ dX11_write_28
  · have hhc_4 := n_eq (rfl : r_3.toInt = r_3.toInt) (by decide : (0 : Int32).toInt = 0) hc_4
    refine lv_bipush (v := (-2)) hx hb dX11_write_7 (by decide) ?_
    have hr0 : ((-2) : Int32).toInt = -2 := by decide
    exact q_iret X hP hS ⟨hW, hfr, ⟨fun q0 => by omega, fun q0 q1 => by omega, fun q0 q1 q2 => by omega, fun q0 q1 q2 => by omega⟩⟩ dX11_write_9

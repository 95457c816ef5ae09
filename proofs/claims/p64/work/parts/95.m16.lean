theorem dX12_readLine_0 : decode cX12_readLine 0 = .ok (.aload_n 0, 1) := by decide +kernel
theorem dX12_readLine_1 : decode cX12_readLine 1 = .ok (.getfield 31, 3) := by decide +kernel
theorem dX12_readLine_4 : decode cX12_readLine 4 = .ok (.bipush 8, 2) := by decide +kernel
theorem dX12_readLine_6 : decode cX12_readLine 6 = .ok (.iaload, 1) := by decide +kernel
theorem dX12_readLine_7 : decode cX12_readLine 7 = .ok (.ifCond .ne 57, 3) := by decide +kernel
theorem dX12_readLine_10 : decode cX12_readLine 10 = .ok (.aload_n 0, 1) := by decide +kernel
theorem dX12_readLine_11 : decode cX12_readLine 11 = .ok (.ldc 191, 2) := by decide +kernel
theorem dX12_readLine_13 : decode cX12_readLine 13 = .ok (.invokevirtual 154, 3) := by decide +kernel
theorem dX12_readLine_16 : decode cX12_readLine 16 = .ok (.aload_n 0, 1) := by decide +kernel
theorem dX12_readLine_17 : decode cX12_readLine 17 = .ok (.getfield 31, 3) := by decide +kernel
theorem dX12_readLine_20 : decode cX12_readLine 20 = .ok (.iconst 0, 1) := by decide +kernel
theorem dX12_readLine_21 : decode cX12_readLine 21 = .ok (.aload_n 0, 1) := by decide +kernel
theorem dX12_readLine_22 : decode cX12_readLine 22 = .ok (.ldc 193, 2) := by decide +kernel
theorem dX12_readLine_24 : decode cX12_readLine 24 = .ok (.iconst 0, 1) := by decide +kernel
theorem dX12_readLine_25 : decode cX12_readLine 25 = .ok (.bipush 20, 2) := by decide +kernel
theorem dX12_readLine_27 : decode cX12_readLine 27 = .ok (.invokevirtual 166, 3) := by decide +kernel
theorem dX12_readLine_30 : decode cX12_readLine 30 = .ok (.iastore, 1) := by decide +kernel
theorem dX12_readLine_31 : decode cX12_readLine 31 = .ok (.aload_n 0, 1) := by decide +kernel
theorem dX12_readLine_32 : decode cX12_readLine 32 = .ok (.getfield 31, 3) := by decide +kernel
theorem dX12_readLine_35 : decode cX12_readLine 35 = .ok (.iconst 1, 1) := by decide +kernel
theorem dX12_readLine_36 : decode cX12_readLine 36 = .ok (.aload_n 0, 1) := by decide +kernel
theorem dX12_readLine_37 : decode cX12_readLine 37 = .ok (.ldc 195, 2) := by decide +kernel
theorem dX12_readLine_39 : decode cX12_readLine 39 = .ok (.iconst 0, 1) := by decide +kernel
theorem dX12_readLine_40 : decode cX12_readLine 40 = .ok (.bipush 20, 2) := by decide +kernel
theorem dX12_readLine_42 : decode cX12_readLine 42 = .ok (.invokevirtual 166, 3) := by decide +kernel
theorem dX12_readLine_45 : decode cX12_readLine 45 = .ok (.iastore, 1) := by decide +kernel
theorem dX12_readLine_46 : decode cX12_readLine 46 = .ok (.aload_n 0, 1) := by decide +kernel
theorem dX12_readLine_47 : decode cX12_readLine 47 = .ok (.getfield 31, 3) := by decide +kernel
theorem dX12_readLine_50 : decode cX12_readLine 50 = .ok (.iconst 2, 1) := by decide +kernel
theorem dX12_readLine_51 : decode cX12_readLine 51 = .ok (.aload_n 0, 1) := by decide +kernel
theorem dX12_readLine_52 : decode cX12_readLine 52 = .ok (.ldc 197, 2) := by decide +kernel
theorem dX12_readLine_54 : decode cX12_readLine 54 = .ok (.iconst 0, 1) := by decide +kernel
theorem dX12_readLine_55 : decode cX12_readLine 55 = .ok (.bipush 10, 2) := by decide +kernel
theorem dX12_readLine_57 : decode cX12_readLine 57 = .ok (.invokevirtual 166, 3) := by decide +kernel
theorem dX12_readLine_60 : decode cX12_readLine 60 = .ok (.iastore, 1) := by decide +kernel
theorem dX12_readLine_61 : decode cX12_readLine 61 = .ok (.goto 7, 3) := by decide +kernel
theorem dX12_readLine_64 : decode cX12_readLine 64 = .ok (.aload_n 0, 1) := by decide +kernel
theorem dX12_readLine_65 : decode cX12_readLine 65 = .ok (.invokevirtual 199, 3) := by decide +kernel
theorem dX12_readLine_68 : decode cX12_readLine 68 = .ok (.aload_n 0, 1) := by decide +kernel
theorem dX12_readLine_69 : decode cX12_readLine 69 = .ok (.invokevirtual 126, 3) := by decide +kernel
theorem dX12_readLine_72 : decode cX12_readLine 72 = .ok (.ifCond .eq 16, 3) := by decide +kernel
theorem dX12_readLine_75 : decode cX12_readLine 75 = .ok (.aload_n 0, 1) := by decide +kernel
theorem dX12_readLine_76 : decode cX12_readLine 76 = .ok (.getfield 102, 3) := by decide +kernel
theorem dX12_readLine_79 : decode cX12_readLine 79 = .ok (.iconst 3, 1) := by decide +kernel
theorem dX12_readLine_80 : decode cX12_readLine 80 = .ok (.if_icmp .eq 8, 3) := by decide +kernel
theorem dX12_readLine_83 : decode cX12_readLine 83 = .ok (.aload_n 0, 1) := by decide +kernel
theorem dX12_readLine_84 : decode cX12_readLine 84 = .ok (.iconst 1, 1) := by decide +kernel
theorem dX12_readLine_85 : decode cX12_readLine 85 = .ok (.invokevirtual 150, 3) := by decide +kernel
theorem dX12_readLine_88 : decode cX12_readLine 88 = .ok (.aload_n 0, 1) := by decide +kernel
theorem dX12_readLine_89 : decode cX12_readLine 89 = .ok (.invokevirtual 126, 3) := by decide +kernel
theorem dX12_readLine_92 : decode cX12_readLine 92 = .ok (.ifCond .eq 7, 3) := by decide +kernel
theorem dX12_readLine_95 : decode cX12_readLine 95 = .ok (.aload_n 0, 1) := by decide +kernel
theorem dX12_readLine_96 : decode cX12_readLine 96 = .ok (.invokevirtual 144, 3) := by decide +kernel
theorem dX12_readLine_99 : decode cX12_readLine 99 = .ok (.aload_n 0, 1) := by decide +kernel
theorem dX12_readLine_100 : decode cX12_readLine 100 = .ok (.getfield 31, 3) := by decide +kernel
theorem dX12_readLine_103 : decode cX12_readLine 103 = .ok (.bipush 8, 2) := by decide +kernel
theorem dX12_readLine_105 : decode cX12_readLine 105 = .ok (.dup2, 1) := by decide +kernel
theorem dX12_readLine_106 : decode cX12_readLine 106 = .ok (.iaload, 1) := by decide +kernel
theorem dX12_readLine_107 : decode cX12_readLine 107 = .ok (.iconst 1, 1) := by decide +kernel
theorem dX12_readLine_108 : decode cX12_readLine 108 = .ok (.iadd, 1) := by decide +kernel
theorem dX12_readLine_109 : decode cX12_readLine 109 = .ok (.iastore, 1) := by decide +kernel
theorem dX12_readLine_110 : decode cX12_readLine 110 = .ok (.return_, 1) := by decide +kernel
noncomputable def vX12_readLine : List Cond := .code yX12_readLine cX12_readLine 1 none :: (([.fieldLink RX12 31 "IcicleClockModel" "fresh" "[I", .methodLink RX12 154 yX12_needs, .instanceMethod yX12_needs, .selects RX12 yX12_needs yX12_needs, .initialized RX12, .methodLink RX12 166 yX12_told, .instanceMethod yX12_told, .selects RX12 yX12_told yX12_told, .methodLink RX12 199 yX12_readNext, .instanceMethod yX12_readNext, .selects RX12 yX12_readNext yX12_readNext, .methodLink RX12 126 yX12_good, .instanceMethod yX12_good, .selects RX12 yX12_good yX12_good, .fieldLink RX12 102 "IcicleClockModel" "token" "I", .methodLink RX12 150 yX12_errs, .instanceMethod yX12_errs, .selects RX12 yX12_errs yX12_errs, .methodLink RX12 144 yX12_advance, .instanceMethod yX12_advance, .selects RX12 yX12_advance yX12_advance] : List Cond) ++ (wsX120 ++ (vX12_needs ++ (vX12_told ++ (vX12_readNext ++ (vX12_good ++ (vX12_errs ++ vX12_advance)))))))
theorem iX12_readLine_12 : ∀ w ∈ wsX120, w ∈ vX12_readLine := fun _ h => List.mem_cons_of_mem _ (List.mem_append_right _ (List.mem_append_left _ h))
theorem gs_X12_readLine : Gd vX12_readLine := Gd.cons (by decide +kernel) (Gd.app (Gd.r (by decide +kernel)) (Gd.app gwX_12 (Gd.app gs_X12_needs (Gd.app gs_X12_told (Gd.app gs_X12_readNext (Gd.app gs_X12_good (Gd.app gs_X12_errs gs_X12_advance)))))))
theorem gg_X12_readLine_X12_needs : GoodIn vX12_readLine (wsV RX12 154 RX12 yX12_needs vX12_needs) := goodIn_app (goodIn_r _ [2, 3, 4, 5] (by decide +kernel) (by decide +kernel)) (fun w h => ⟨List.mem_cons_of_mem _ (List.mem_append_right _ (List.mem_append_right _ (List.mem_append_left _ h))), gs_X12_needs w h⟩)
theorem gg_X12_readLine_X12_told : GoodIn vX12_readLine (wsV RX12 166 RX12 yX12_told vX12_told) := goodIn_app (goodIn_r _ [6, 7, 8, 5] (by decide +kernel) (by decide +kernel)) (fun w h => ⟨List.mem_cons_of_mem _ (List.mem_append_right _ (List.mem_append_right _ (List.mem_append_right _ (List.mem_append_left _ h)))), gs_X12_told w h⟩)
theorem gg_X12_readLine_X12_readNext : GoodIn vX12_readLine (wsV RX12 199 RX12 yX12_readNext vX12_readNext) := goodIn_app (goodIn_r _ [9, 10, 11, 5] (by decide +kernel) (by decide +kernel)) (fun w h => ⟨List.mem_cons_of_mem _ (List.mem_append_right _ (List.mem_append_right _ (List.mem_append_right _ (List.mem_append_right _ (List.mem_append_left _ h))))), gs_X12_readNext w h⟩)
theorem gg_X12_readLine_X12_good : GoodIn vX12_readLine (wsV RX12 126 RX12 yX12_good vX12_good) := goodIn_app (goodIn_r _ [12, 13, 14, 5] (by decide +kernel) (by decide +kernel)) (fun w h => ⟨List.mem_cons_of_mem _ (List.mem_append_right _ (List.mem_append_right _ (List.mem_append_right _ (List.mem_append_right _ (List.mem_append_right _ (List.mem_append_left _ h)))))), gs_X12_good w h⟩)
theorem gg_X12_readLine_X12_errs : GoodIn vX12_readLine (wsV RX12 150 RX12 yX12_errs vX12_errs) := goodIn_app (goodIn_r _ [16, 17, 18, 5] (by decide +kernel) (by decide +kernel)) (fun w h => ⟨List.mem_cons_of_mem _ (List.mem_append_right _ (List.mem_append_right _ (List.mem_append_right _ (List.mem_append_right _ (List.mem_append_right _ (List.mem_append_right _ (List.mem_append_left _ h))))))), gs_X12_errs w h⟩)
theorem gg_X12_readLine_X12_advance : GoodIn vX12_readLine (wsV RX12 144 RX12 yX12_advance vX12_advance) := goodIn_app (goodIn_r _ [19, 20, 21, 5] (by decide +kernel) (by decide +kernel)) (fun w h => ⟨List.mem_cons_of_mem _ (List.mem_append_right _ (List.mem_append_right _ (List.mem_append_right _ (List.mem_append_right _ (List.mem_append_right _ (List.mem_append_right _ (List.mem_append_right _ (h)))))))), gs_X12_advance w h⟩)
set_option maxHeartbeats 4000000 in
set_option maxRecDepth 100000 in
theorem s_X12_readLine (l : Launch) (D : va_G) (cs : Nat → ClassId) (ad : Nat → Nat) (kS : kSt) (K : sK) (hKO : KO K) (hj : wJ ad 218) (g : Nat → va_E) (hW : WF (shp ad K) ad cs g) : sV l yX12_readLine vX12_readLine { frames := 10, cells := 0, slots := 0, locals := 217 } D cs ad kS [.ref (ad 197)] g (fun g2 => WF (shp ad K) ad cs g2 ∧ (∀ j, j ≠ 197 ∧ j ≠ 203 → g2 j = g j) ∧ (gI g 197 8 ≤ gI g2 197 8 ∧ (gI g2 197 12 ≠ 0 ∨ gI g2 197 10 = 0 ∨ gI g 197 8 < gI g2 197 8))) := by
  refine Met.startS (cc := cX12_readLine) (maxL := 1) (ret := none) RX12 rfl (by decide) rfl (Nat.le_of_ble_eq_true rfl) ?_
  intro p e s m below meth c ls X Z hP hl
  have hx := X.1
  have hb := X.2.1
  have hS : va_S (wA ad 218) s.heap s.heap [] := va_S.rf
  have hA : ∀ i, i < 218 → wA ad 218 (ad i) := fun i h => ⟨i, h, rfl⟩
  have hfr : ∀ j, j ≠ 197 ∧ j ≠ 203 → g j = g j := fun _ _ => rfl
  have hl : lv_has ls 1 [(0, .ref (ad 197))] := hl
  obtain ⟨fsc_1, hgc_1, hOc_1⟩ := hW.obj (i := 197) (by decide) (sh_197 ad K)
  obtain ⟨x_3, hk_2, hlx_3, hhx_3⟩ := hOc_1.int 10 rfl
  have hgix_3 := gI_of hgc_1 hk_2
  obtain ⟨x_5, hk_4, -⟩ := hOc_1.int 12 rfl
  have hgix_5 := gI_of hgc_1 hk_4
  obtain ⟨x_7, hk_6, hlx_7, hhx_7⟩ := hOc_1.int 8 rfl
  have hgix_7 := gI_of hgc_1 hk_6
  refine lv_aload_n hx hb dX12_readLine_0 rfl (lv_at hl 0 rfl) ?_
  have hk_8 := hOc_1.ref 14 rfl
  refine q_get X iX12_readLine_12 hP (by decide) hgc_1 rfl 14 (by decide) (List.mem_of_getElem? (i := 1) rfl) (v := .ref (ad 203)) hk_8 dX12_readLine_1 ?_
  refine lv_bipush (v := 8) hx hb dX12_readLine_4 (by decide) ?_
  obtain ⟨fc_9, hgc_9, hFc_9⟩ := hW.arr (i := 203) (by decide) (sh_203 ad K)
  refine q_iald X hP (by decide) hgc_9 (by unfold vp_in; decide) dX12_readLine_6 ?_
  refine lv_topi (fun z_10 ez_10 => ?_)
  have hqz_10 : wq (8) z_10.toInt := ez_10 ▸ hFc_9 _
  clear hqz_10
  have HJ68 : ∀ (G68 : Nat → va_E) (H : Heap) (locs : List Loc) (ls : Array Slot), gI g 197 8 ≤ gI G68 197 8 → WF (shp ad K) ad cs G68 → (∀ j, j ≠ 197 ∧ j ≠ 203 → G68 j = g j) → va_P D vwCl (wL ad G68 218) H → va_S (wA ad 218) s.heap H locs → lv_has ls 1 [(0, .ref (ad 197))] → W p l e ({ frames := 10, cells := 0, slots := 0, locals := 217 } : Room) s m ([.ref (ad 197)] : List Value).toArray below meth c H locs 0 0 (MQ below (qV D ad 218 (fun g2 => WF (shp ad K) ad cs g2 ∧ (∀ j, j ≠ 197 ∧ j ≠ 203 → g2 j = g j) ∧ (gI g 197 8 ≤ gI g2 197 8 ∧ (gI g2 197 12 ≠ 0 ∨ gI g2 197 10 = 0 ∨ gI g 197 8 < gI g2 197 8)))) ([.ref (ad 197)] : List Value).toArray s 0 0 (wA ad 218)) (F0 m 68 ls []) := by
    intro G68 H locs ls he68_0 hW68 hfr68 hP hS hl
    obtain ⟨fsc_11, hgc_11, hOc_11⟩ := hW68.obj (i := 197) (by decide) (sh_197 ad K)
    obtain ⟨x_13, hk_12, hlx_13, hhx_13⟩ := hOc_11.int 10 rfl
    have hgix_13 := gI_of hgc_11 hk_12
    obtain ⟨x_16, hk_15, -⟩ := hOc_11.int 12 rfl
    have hgix_16 := gI_of hgc_11 hk_15
    obtain ⟨x_19, hk_18, hlx_19, hhx_19⟩ := hOc_11.int 8 rfl
    have hgix_19 := gI_of hgc_11 hk_18
    refine lv_aload_n hx hb dX12_readLine_68 rfl (lv_at hl 0 rfl) ?_
    have hgi_21 := gI_of hgc_11 hk_12
    have hgi_22 := gI_of hgc_11 hk_15
    have hgi_23 := gI_of hgc_11 hk_18
    refine s_calli (q := (RX12, TX12, 40)) (As := []) (rest := []) X Z (s_X12_good l D cs ad kS K hKO hj G68 hW68) (cwV 0 X.2.2.2.2.1 gg_X12_readLine_X12_good rfl rfl rfl (by decide +kernel) ⟨Nat.le_of_ble_eq_true rfl, Nat.le_of_ble_eq_true rfl⟩) (by decide) hgc_11 rfl hP hA hS.2.1 hS rfl hl.1 rfl (Nat.le_of_ble_eq_true rfl) dX12_readLine_69 ⟨Nat.le_of_ble_eq_true rfl, Nat.le_of_ble_eq_true rfl⟩ (fun r_26 g_25 H locs hw_24 hP hS => ?_)
    obtain ⟨hw_24g, hw_24⟩ := hw_24
    rw [hw_24g] at hP
    have HJ88 : ∀ (G88 : Nat → va_E) (H : Heap) (locs : List Loc) (ls : Array Slot), gI g 197 8 ≤ gI G88 197 8 → WF (shp ad K) ad cs G88 → (∀ j, j ≠ 197 ∧ j ≠ 203 → G88 j = g j) → va_P D vwCl (wL ad G88 218) H → va_S (wA ad 218) s.heap H locs → lv_has ls 1 [(0, .ref (ad 197))] → W p l e ({ frames := 10, cells := 0, slots := 0, locals := 217 } : Room) s m ([.ref (ad 197)] : List Value).toArray below meth c H locs 0 0 (MQ below (qV D ad 218 (fun g2 => WF (shp ad K) ad cs g2 ∧ (∀ j, j ≠ 197 ∧ j ≠ 203 → g2 j = g j) ∧ (gI g 197 8 ≤ gI g2 197 8 ∧ (gI g2 197 12 ≠ 0 ∨ gI g2 197 10 = 0 ∨ gI g 197 8 < gI g2 197 8)))) ([.ref (ad 197)] : List Value).toArray s 0 0 (wA ad 218)) (F0 m 88 ls []) := by
      intro G88 H locs ls he88_0 hW88 hfr88 hP hS hl
      obtain ⟨fsc_27, hgc_27, hOc_27⟩ := hW88.obj (i := 197) (by decide) (sh_197 ad K)
      obtain ⟨x_29, hk_28, hlx_29, hhx_29⟩ := hOc_27.int 10 rfl
      have hgix_29 := gI_of hgc_27 hk_28
      obtain ⟨x_32, hk_31, -⟩ := hOc_27.int 12 rfl
      have hgix_32 := gI_of hgc_27 hk_31
      obtain ⟨x_35, hk_34, hlx_35, hhx_35⟩ := hOc_27.int 8 rfl
      have hgix_35 := gI_of hgc_27 hk_34
      refine lv_aload_n hx hb dX12_readLine_88 rfl (lv_at hl 0 rfl) ?_
      have hgi_37 := gI_of hgc_27 hk_28
      have hgi_38 := gI_of hgc_27 hk_31
      have hgi_39 := gI_of hgc_27 hk_34
      refine s_calli (q := (RX12, TX12, 40)) (As := []) (rest := []) X Z (s_X12_good l D cs ad kS K hKO hj G88 hW88) (cwV 0 X.2.2.2.2.1 gg_X12_readLine_X12_good rfl rfl rfl (by decide +kernel) ⟨Nat.le_of_ble_eq_true rfl, Nat.le_of_ble_eq_true rfl⟩) (by decide) hgc_27 rfl hP hA hS.2.1 hS rfl hl.1 rfl (Nat.le_of_ble_eq_true rfl) dX12_readLine_89 ⟨Nat.le_of_ble_eq_true rfl, Nat.le_of_ble_eq_true rfl⟩ (fun r_42 g_41 H locs hw_40 hP hS => ?_)
      obtain ⟨hw_40g, hw_40⟩ := hw_40
      rw [hw_40g] at hP
      have HJ99 : ∀ (G99 : Nat → va_E) (H : Heap) (locs : List Loc) (ls : Array Slot), gI g 197 8 ≤ gI G99 197 8 → (gI G99 197 12 ≠ 0 ∨ gI G99 197 10 = 0 ∨ gI g 197 8 < gI G99 197 8) → WF (shp ad K) ad cs G99 → (∀ j, j ≠ 197 ∧ j ≠ 203 → G99 j = g j) → va_P D vwCl (wL ad G99 218) H → va_S (wA ad 218) s.heap H locs → lv_has ls 1 [(0, .ref (ad 197))] → W p l e ({ frames := 10, cells := 0, slots := 0, locals := 217 } : Room) s m ([.ref (ad 197)] : List Value).toArray below meth c H locs 0 0 (MQ below (qV D ad 218 (fun g2 => WF (shp ad K) ad cs g2 ∧ (∀ j, j ≠ 197 ∧ j ≠ 203 → g2 j = g j) ∧ (gI g 197 8 ≤ gI g2 197 8 ∧ (gI g2 197 12 ≠ 0 ∨ gI g2 197 10 = 0 ∨ gI g 197 8 < gI g2 197 8)))) ([.ref (ad 197)] : List Value).toArray s 0 0 (wA ad 218)) (F0 m 99 ls []) := by
        intro G99 H locs ls he99_0 he99_1 hW99 hfr99 hP hS hl
        obtain ⟨fsc_43, hgc_43, hOc_43⟩ := hW99.obj (i := 197) (by decide) (sh_197 ad K)
        obtain ⟨x_45, hk_44, hlx_45, hhx_45⟩ := hOc_43.int 10 rfl
        have hgix_45 := gI_of hgc_43 hk_44
        obtain ⟨x_48, hk_47, -⟩ := hOc_43.int 12 rfl
        have hgix_48 := gI_of hgc_43 hk_47
        obtain ⟨x_51, hk_50, hlx_51, hhx_51⟩ := hOc_43.int 8 rfl
        have hgix_51 := gI_of hgc_43 hk_50
        refine lv_aload_n hx hb dX12_readLine_99 rfl (lv_at hl 0 rfl) ?_
        have hk_53 := hOc_43.ref 14 rfl
        refine q_get X iX12_readLine_12 hP (by decide) hgc_43 rfl 14 (by decide) (List.mem_of_getElem? (i := 1) rfl) (v := .ref (ad 203)) hk_53 dX12_readLine_100 ?_
        refine lv_bipush (v := 8) hx hb dX12_readLine_103 (by decide) ?_
        refine lv_dup2_11 hx hb dX12_readLine_105 rfl rfl ?_
        obtain ⟨fc_54, hgc_54, hFc_54⟩ := hW99.arr (i := 203) (by decide) (sh_203 ad K)
        refine q_iald X hP (by decide) hgc_54 (by unfold vp_in; decide) dX12_readLine_106 ?_
        refine lv_topi (fun z_55 ez_55 => ?_)
        have hqz_55 : wq (8) z_55.toInt := ez_55 ▸ hFc_54 _
        clear hqz_55
        refine lv_iconst (v := 1) hx hb dX12_readLine_107 (by decide) ?_
        refine lv_iadd hx hb dX12_readLine_108 ?_
        refine lv_topi (fun z_56 ez_56 => ?_)
        have hu_58 : wq (8) (z_56 : Int32).toInt := by unfold wq; omega
        refine s_iast X hP hj hA hS (by decide) hgc_54 (by unfold vp_in; decide) dX12_readLine_109 hW99 (sh_203 ad K) (hFc_54.put hu_58) (fun fc_57 gc_57 H locs ec_57 hFc_57 hgc_57 hfc_57 hWc_57 hP hS => ?_)
        have hg_60 := (hfc_57 197 (by decide)).trans hgc_43
        have hfr_59 : ∀ j, j ≠ 197 ∧ j ≠ 203 → gc_57 j = g j := fun j hj => (hfc_57 j (by omega)).trans (hfr99 j hj)
        have hgtc_57 := gI_tr (hfc_57 197 (by decide)) 8
        have hgi_61 := gI_of hg_60 hk_44
        have hgi_62 := gI_of hg_60 hk_47
        have hgi_63 := gI_of hg_60 hk_50
        exact q_vret X hP hS ⟨hWc_57, hfr_59, (by omega)⟩ dX12_readLine_110
      refine lv_if_eq (tgt := 99) hx hb dX12_readLine_92 (by decide) (fun hc_64 => ?_) (fun hc_64 => ?_)
      · have hhc_64 := n_eq (rfl : r_42.toInt = r_42.toInt) (by decide : (0 : Int32).toInt = 0) hc_64
        have hgi_65 := gI_of hgc_27 hk_28
        have hgi_66 := gI_of hgc_27 hk_31
        have hgi_67 := gI_of hgc_27 hk_34
        exact HJ99 G88 _ _ ls (by omega) (by omega) hW88 hfr88 hP hS (lv_sub hl [0] rfl)
      · have hhc_64 := n_ne (rfl : r_42.toInt = r_42.toInt) (by decide : (0 : Int32).toInt = 0) hc_64
        refine lv_aload_n hx hb dX12_readLine_95 rfl (lv_at hl 0 rfl) ?_
        have hgi_68 := gI_of hgc_27 hk_28
        have hgi_69 := gI_of hgc_27 hk_31
        have hgi_70 := gI_of hgc_27 hk_34
        refine s_callv (q := (RX12, TX12, 40)) (As := []) (rest := []) X Z (s_X12_advance l D cs ad kS K hKO hj G88 hW88) (cwV 0 X.2.2.2.2.1 gg_X12_readLine_X12_advance rfl rfl rfl (by decide +kernel) ⟨Nat.le_of_ble_eq_true rfl, Nat.le_of_ble_eq_true rfl⟩) (by decide) hgc_27 rfl hP hA hS.2.1 hS rfl hl.1 rfl (Nat.le_of_ble_eq_true rfl) dX12_readLine_96 ⟨Nat.le_of_ble_eq_true rfl, Nat.le_of_ble_eq_true rfl⟩ (fun g_72 H locs hw_71 hP hS => ?_)
        obtain ⟨hw_71W, hw_71f, hw_71⟩ := hw_71
        have hfr_74 : ∀ j, j ≠ 197 ∧ j ≠ 203 → g_72 j = g j := fun j hj => (hw_71f j (by omega)).trans (hfr88 j hj)
        obtain ⟨fsc_75, hgc_75, hOc_75⟩ := hw_71W.obj (i := 197) (by decide) (sh_197 ad K)
        obtain ⟨x_77, hk_76, hlx_77, hhx_77⟩ := hOc_75.int 10 rfl
        have hgix_77 := gI_of hgc_75 hk_76
        obtain ⟨x_80, hk_79, -⟩ := hOc_75.int 12 rfl
        have hgix_80 := gI_of hgc_75 hk_79
        obtain ⟨x_83, hk_82, hlx_83, hhx_83⟩ := hOc_75.int 8 rfl
        have hgix_83 := gI_of hgc_75 hk_82
        exact HJ99 g_72 _ _ ls (by omega) (by omega) hw_71W hfr_74 hP hS (lv_sub hl [0] rfl)
    refine lv_if_eq (tgt := 88) hx hb dX12_readLine_72 (by decide) (fun hc_85 => ?_) (fun hc_85 => ?_)
    · have hhc_85 := n_eq (rfl : r_26.toInt = r_26.toInt) (by decide : (0 : Int32).toInt = 0) hc_85
      have hgi_86 := gI_of hgc_11 hk_12
      have hgi_87 := gI_of hgc_11 hk_15
      have hgi_88 := gI_of hgc_11 hk_18
      exact HJ88 G68 _ _ ls (by omega) hW68 hfr68 hP hS (lv_sub hl [0] rfl)
    · have hhc_85 := n_ne (rfl : r_26.toInt = r_26.toInt) (by decide : (0 : Int32).toInt = 0) hc_85
      refine lv_aload_n hx hb dX12_readLine_75 rfl (lv_at hl 0 rfl) ?_
      refine q_get X iX12_readLine_12 hP (by decide) hgc_11 rfl 10 (by decide) (List.mem_of_getElem? (i := 15) rfl) (v := .int x_13) hk_12 dX12_readLine_76 ?_
      refine lv_iconst (v := 3) hx hb dX12_readLine_79 (by decide) ?_
      refine lv_icmp_eq (tgt := 88) hx hb dX12_readLine_80 (by decide) (fun hc_89 => ?_) (fun hc_89 => ?_)
      · have hhc_89 := n_eq (rfl : x_13.toInt = x_13.toInt) (by decide : (3 : Int32).toInt = 3) hc_89
        have hgi_90 := gI_of hgc_11 hk_12
        have hgi_91 := gI_of hgc_11 hk_15
        have hgi_92 := gI_of hgc_11 hk_18
        exact HJ88 G68 _ _ ls (by omega) hW68 hfr68 hP hS (lv_sub hl [0] rfl)
      · have hhc_89 := n_ne (rfl : x_13.toInt = x_13.toInt) (by decide : (3 : Int32).toInt = 3) hc_89
        refine lv_aload_n hx hb dX12_readLine_83 rfl (lv_at hl 0 rfl) ?_
        refine lv_iconst (v := 1) hx hb dX12_readLine_84 (by decide) ?_
        have hgi_93 := gI_of hgc_11 hk_12
        have hgi_94 := gI_of hgc_11 hk_15
        have hgi_95 := gI_of hgc_11 hk_18
        have hqk_96 : (1 : Int32).toInt = 1 := by decide
        refine s_callv (q := (RX12, TX12, 40)) (As := [.int 1]) (rest := []) X Z (s_X12_errs l D cs ad kS K hKO hj G68 hW68 1 (by omega)) (cwV 1 X.2.2.2.2.1 gg_X12_readLine_X12_errs rfl rfl rfl (by decide +kernel) ⟨Nat.le_of_ble_eq_true rfl, Nat.le_of_ble_eq_true rfl⟩) (by decide) hgc_11 rfl hP hA hS.2.1 hS rfl hl.1 rfl (Nat.le_of_ble_eq_true rfl) dX12_readLine_85 ⟨Nat.le_of_ble_eq_true rfl, Nat.le_of_ble_eq_true rfl⟩ (fun g_98 H locs hw_97 hP hS => ?_)
        obtain ⟨hw_97W, hw_97f, hw_97⟩ := hw_97
        have hfr_100 : ∀ j, j ≠ 197 ∧ j ≠ 203 → g_98 j = g j := fun j hj => (hw_97f j (by omega)).trans (hfr68 j hj)
        obtain ⟨fsc_101, hgc_101, hOc_101⟩ := hw_97W.obj (i := 197) (by decide) (sh_197 ad K)
        obtain ⟨x_103, hk_102, hlx_103, hhx_103⟩ := hOc_101.int 10 rfl
        have hgix_103 := gI_of hgc_101 hk_102
        obtain ⟨x_106, hk_105, -⟩ := hOc_101.int 12 rfl
        have hgix_106 := gI_of hgc_101 hk_105
        obtain ⟨x_109, hk_108, hlx_109, hhx_109⟩ := hOc_101.int 8 rfl
        have hgix_109 := gI_of hgc_101 hk_108
        exact HJ88 g_98 _ _ ls (by omega) hw_97W hfr_100 hP hS (lv_sub hl [0] rfl)
  refine lv_if_ne (tgt := 64) hx hb dX12_readLine_7 (by decide) (fun hc_111 => ?_) (fun hc_111 => ?_)
  · have hhc_111 := n_ne (rfl : z_10.toInt = z_10.toInt) (by decide : (0 : Int32).toInt = 0) hc_111
    refine lv_aload_n hx hb dX12_readLine_64 rfl (lv_at hl 0 rfl) ?_
    have hgi_112 := gI_of hgc_1 hk_2
    have hgi_113 := gI_of hgc_1 hk_4
    have hgi_114 := gI_of hgc_1 hk_6
    refine s_callv (q := (RX12, TX12, 40)) (As := []) (rest := []) X Z (s_X12_readNext l D cs ad kS K hKO hj g hW) (cwV 0 X.2.2.2.2.1 gg_X12_readLine_X12_readNext rfl rfl rfl (by decide +kernel) ⟨Nat.le_of_ble_eq_true rfl, Nat.le_of_ble_eq_true rfl⟩) (by decide) hgc_1 rfl hP hA hS.2.1 hS rfl hl.1 rfl (Nat.le_of_ble_eq_true rfl) dX12_readLine_65 ⟨Nat.le_of_ble_eq_true rfl, Nat.le_of_ble_eq_true rfl⟩ (fun g_116 H locs hw_115 hP hS => ?_)
    obtain ⟨hw_115W, hw_115f, hw_115⟩ := hw_115
    have hfr_118 : ∀ j, j ≠ 197 ∧ j ≠ 203 → g_116 j = g j := fun j hj => (hw_115f j (by omega)).trans (hfr j hj)
    obtain ⟨fsc_119, hgc_119, hOc_119⟩ := hw_115W.obj (i := 197) (by decide) (sh_197 ad K)
    obtain ⟨x_121, hk_120, hlx_121, hhx_121⟩ := hOc_119.int 10 rfl
    have hgix_121 := gI_of hgc_119 hk_120
    obtain ⟨x_124, hk_123, -⟩ := hOc_119.int 12 rfl
    have hgix_124 := gI_of hgc_119 hk_123
    obtain ⟨x_127, hk_126, hlx_127, hhx_127⟩ := hOc_119.int 8 rfl
    have hgix_127 := gI_of hgc_119 hk_126
    exact HJ68 g_116 _ _ ls (by omega) hw_115W hfr_118 hP hS (lv_sub hl [0] rfl)
  · have hhc_111 := n_eq (rfl : z_10.toInt = z_10.toInt) (by decide : (0 : Int32).toInt = 0) hc_111
    refine lv_aload_n hx hb dX12_readLine_10 rfl (lv_at hl 0 rfl) ?_
    refine va_ldcS hx hb X.2.2.2.2.2.1 (sq_12_191 Z) dX12_readLine_11 ?_
    have hgi_129 := gI_of hgc_1 hk_2
    have hgi_130 := gI_of hgc_1 hk_4
    have hgi_131 := gI_of hgc_1 hk_6
    refine s_callv (q := (RX12, TX12, 40)) (As := [.ref (kS.1 0)]) (rest := []) X Z (s_X12_needs l D cs ad kS K hKO hj g hW 0 (by omega)) (cwV 1 X.2.2.2.2.1 gg_X12_readLine_X12_needs rfl rfl rfl (by decide +kernel) ⟨Nat.le_of_ble_eq_true rfl, Nat.le_of_ble_eq_true rfl⟩) (by decide) hgc_1 rfl hP hA hS.2.1 hS rfl hl.1 rfl (Nat.le_of_ble_eq_true rfl) dX12_readLine_13 ⟨Nat.le_of_ble_eq_true rfl, Nat.le_of_ble_eq_true rfl⟩ (fun g_133 H locs hw_132 hP hS => ?_)
    obtain ⟨hw_132W, hw_132f, hw_132⟩ := hw_132
    have hfr_135 : ∀ j, j ≠ 197 ∧ j ≠ 203 → g_133 j = g j := fun j hj => (hw_132f j (by omega)).trans (hfr j hj)
    have hg_136 := (hw_132f 203 (by omega)).trans hgc_9
    refine lv_aload_n hx hb dX12_readLine_16 rfl (lv_at hl 0 rfl) ?_
    obtain ⟨fsc_137, hgc_137, hOc_137⟩ := hw_132W.obj (i := 197) (by decide) (sh_197 ad K)
    have hk_138 := hOc_137.ref 14 rfl
    refine q_get X iX12_readLine_12 hP (by decide) hgc_137 rfl 14 (by decide) (List.mem_of_getElem? (i := 1) rfl) (v := .ref (ad 203)) hk_138 dX12_readLine_17 ?_
    refine lv_iconst (v := 0) hx hb dX12_readLine_20 (by decide) ?_
    refine lv_aload_n hx hb dX12_readLine_21 rfl (lv_at hl 0 rfl) ?_
    refine va_ldcS hx hb X.2.2.2.2.2.1 (sq_12_193 Z) dX12_readLine_22 ?_
    refine lv_iconst (v := 0) hx hb dX12_readLine_24 (by decide) ?_
    refine lv_bipush (v := 20) hx hb dX12_readLine_25 (by decide) ?_
    obtain ⟨x_140, hk_139, hlx_140, hhx_140⟩ := hOc_137.int 10 rfl
    have hgix_140 := gI_of hgc_137 hk_139
    obtain ⟨x_143, hk_142, -⟩ := hOc_137.int 12 rfl
    have hgix_143 := gI_of hgc_137 hk_142
    obtain ⟨x_146, hk_145, hlx_146, hhx_146⟩ := hOc_137.int 8 rfl
    have hgix_146 := gI_of hgc_137 hk_145
    refine s_calli (q := (RX12, TX12, 40)) (As := [.ref (kS.1 1), .int 0, .int 20]) (rest := [.int 0, .ref (ad 203)]) X Z (s_X12_told l D cs ad kS K hKO hj g_133 hw_132W 1 0 20 (by omega)) (cwV 3 X.2.2.2.2.1 gg_X12_readLine_X12_told rfl rfl rfl (by decide +kernel) ⟨Nat.le_of_ble_eq_true rfl, Nat.le_of_ble_eq_true rfl⟩) (by decide) hgc_137 rfl hP hA hS.2.1 hS rfl hl.1 rfl (Nat.le_of_ble_eq_true rfl) dX12_readLine_27 ⟨Nat.le_of_ble_eq_true rfl, Nat.le_of_ble_eq_true rfl⟩ (fun r_150 g_149 H locs hw_148 hP hS => ?_)
    obtain ⟨hw_148W, hw_148f, hw_148⟩ := hw_148
    have hfr_151 : ∀ j, j ≠ 197 ∧ j ≠ 203 → g_149 j = g j := fun j hj => (hw_148f j (by omega)).trans (hfr_135 j hj)
    have hg_152 := (hw_148f 203 (by omega)).trans hg_136
    have hqk_153 : (0 : Int32).toInt = 0 := by decide
    have hqk_154 : (20 : Int32).toInt = 20 := by decide
    have hu_156 : wq (0) (r_150 : Int32).toInt := by unfold wq; omega
    refine s_iast X hP hj hA hS (by decide) hg_152 (by unfold vp_in; decide) dX12_readLine_30 hw_148W (sh_203 ad K) (hFc_9.put hu_156) (fun fc_155 gc_155 H locs ec_155 hFc_155 hgc_155 hfc_155 hWc_155 hP hS => ?_)
    have hfr_157 : ∀ j, j ≠ 197 ∧ j ≠ 203 → gc_155 j = g j := fun j hj => (hfc_155 j (by omega)).trans (hfr_151 j hj)
    have hgtc_155 := gI_tr (hfc_155 197 (by decide)) 8
    refine lv_aload_n hx hb dX12_readLine_31 rfl (lv_at hl 0 rfl) ?_
    obtain ⟨fsc_158, hgc_158, hOc_158⟩ := hWc_155.obj (i := 197) (by decide) (sh_197 ad K)
    have hk_159 := hOc_158.ref 14 rfl
    refine q_get X iX12_readLine_12 hP (by decide) hgc_158 rfl 14 (by decide) (List.mem_of_getElem? (i := 1) rfl) (v := .ref (ad 203)) hk_159 dX12_readLine_32 ?_
    refine lv_iconst (v := 1) hx hb dX12_readLine_35 (by decide) ?_
    refine lv_aload_n hx hb dX12_readLine_36 rfl (lv_at hl 0 rfl) ?_
    refine va_ldcS hx hb X.2.2.2.2.2.1 (sq_12_195 Z) dX12_readLine_37 ?_
    refine lv_iconst (v := 0) hx hb dX12_readLine_39 (by decide) ?_
    refine lv_bipush (v := 20) hx hb dX12_readLine_40 (by decide) ?_
    obtain ⟨x_161, hk_160, hlx_161, hhx_161⟩ := hOc_158.int 10 rfl
    have hgix_161 := gI_of hgc_158 hk_160
    obtain ⟨x_164, hk_163, -⟩ := hOc_158.int 12 rfl
    have hgix_164 := gI_of hgc_158 hk_163
    obtain ⟨x_167, hk_166, hlx_167, hhx_167⟩ := hOc_158.int 8 rfl
    have hgix_167 := gI_of hgc_158 hk_166
    refine s_calli (q := (RX12, TX12, 40)) (As := [.ref (kS.1 2), .int 0, .int 20]) (rest := [.int 1, .ref (ad 203)]) X Z (s_X12_told l D cs ad kS K hKO hj gc_155 hWc_155 2 0 20 (by omega)) (cwV 3 X.2.2.2.2.1 gg_X12_readLine_X12_told rfl rfl rfl (by decide +kernel) ⟨Nat.le_of_ble_eq_true rfl, Nat.le_of_ble_eq_true rfl⟩) (by decide) hgc_158 rfl hP hA hS.2.1 hS rfl hl.1 rfl (Nat.le_of_ble_eq_true rfl) dX12_readLine_42 ⟨Nat.le_of_ble_eq_true rfl, Nat.le_of_ble_eq_true rfl⟩ (fun r_171 g_170 H locs hw_169 hP hS => ?_)
    obtain ⟨hw_169W, hw_169f, hw_169⟩ := hw_169
    have hfr_172 : ∀ j, j ≠ 197 ∧ j ≠ 203 → g_170 j = g j := fun j hj => (hw_169f j (by omega)).trans (hfr_157 j hj)
    have hg_173 := (hw_169f 203 (by omega)).trans hgc_155
    have hqk_174 : (0 : Int32).toInt = 0 := by decide
    have hqk_175 : (20 : Int32).toInt = 20 := by decide
    have hu_177 : wq (1) (r_171 : Int32).toInt := by unfold wq; omega
    refine s_iast X hP hj hA hS (by decide) hg_173 (by unfold vp_in; decide) dX12_readLine_45 hw_169W (sh_203 ad K) (hFc_155.put hu_177) (fun fc_176 gc_176 H locs ec_176 hFc_176 hgc_176 hfc_176 hWc_176 hP hS => ?_)
    have hfr_178 : ∀ j, j ≠ 197 ∧ j ≠ 203 → gc_176 j = g j := fun j hj => (hfc_176 j (by omega)).trans (hfr_172 j hj)
    have hgtc_176 := gI_tr (hfc_176 197 (by decide)) 8
    refine lv_aload_n hx hb dX12_readLine_46 rfl (lv_at hl 0 rfl) ?_
    obtain ⟨fsc_179, hgc_179, hOc_179⟩ := hWc_176.obj (i := 197) (by decide) (sh_197 ad K)
    have hk_180 := hOc_179.ref 14 rfl
    refine q_get X iX12_readLine_12 hP (by decide) hgc_179 rfl 14 (by decide) (List.mem_of_getElem? (i := 1) rfl) (v := .ref (ad 203)) hk_180 dX12_readLine_47 ?_
    refine lv_iconst (v := 2) hx hb dX12_readLine_50 (by decide) ?_
    refine lv_aload_n hx hb dX12_readLine_51 rfl (lv_at hl 0 rfl) ?_
    refine va_ldcS hx hb X.2.2.2.2.2.1 (sq_12_197 Z) dX12_readLine_52 ?_
    refine lv_iconst (v := 0) hx hb dX12_readLine_54 (by decide) ?_
    refine lv_bipush (v := 10) hx hb dX12_readLine_55 (by decide) ?_
    obtain ⟨x_182, hk_181, hlx_182, hhx_182⟩ := hOc_179.int 10 rfl
    have hgix_182 := gI_of hgc_179 hk_181
    obtain ⟨x_185, hk_184, -⟩ := hOc_179.int 12 rfl
    have hgix_185 := gI_of hgc_179 hk_184
    obtain ⟨x_188, hk_187, hlx_188, hhx_188⟩ := hOc_179.int 8 rfl
    have hgix_188 := gI_of hgc_179 hk_187
    refine s_calli (q := (RX12, TX12, 40)) (As := [.ref (kS.1 3), .int 0, .int 10]) (rest := [.int 2, .ref (ad 203)]) X Z (s_X12_told l D cs ad kS K hKO hj gc_176 hWc_176 3 0 10 (by omega)) (cwV 3 X.2.2.2.2.1 gg_X12_readLine_X12_told rfl rfl rfl (by decide +kernel) ⟨Nat.le_of_ble_eq_true rfl, Nat.le_of_ble_eq_true rfl⟩) (by decide) hgc_179 rfl hP hA hS.2.1 hS rfl hl.1 rfl (Nat.le_of_ble_eq_true rfl) dX12_readLine_57 ⟨Nat.le_of_ble_eq_true rfl, Nat.le_of_ble_eq_true rfl⟩ (fun r_192 g_191 H locs hw_190 hP hS => ?_)
    obtain ⟨hw_190W, hw_190f, hw_190⟩ := hw_190
    have hfr_193 : ∀ j, j ≠ 197 ∧ j ≠ 203 → g_191 j = g j := fun j hj => (hw_190f j (by omega)).trans (hfr_178 j hj)
    have hg_194 := (hw_190f 203 (by omega)).trans hgc_176
    have hqk_195 : (0 : Int32).toInt = 0 := by decide
    have hqk_196 : (10 : Int32).toInt = 10 := by decide
    have hu_198 : wq (2) (r_192 : Int32).toInt := by unfold wq; omega
    refine s_iast X hP hj hA hS (by decide) hg_194 (by unfold vp_in; decide) dX12_readLine_60 hw_190W (sh_203 ad K) (hFc_176.put hu_198) (fun fc_197 gc_197 H locs ec_197 hFc_197 hgc_197 hfc_197 hWc_197 hP hS => ?_)
    have hfr_199 : ∀ j, j ≠ 197 ∧ j ≠ 203 → gc_197 j = g j := fun j hj => (hfc_197 j (by omega)).trans (hfr_193 j hj)
    have hgtc_197 := gI_tr (hfc_197 197 (by decide)) 8
    refine lv_goto (tgt := 68) hx hb dX12_readLine_61 (by decide) ?_
    obtain ⟨fsc_200, hgc_200, hOc_200⟩ := hWc_197.obj (i := 197) (by decide) (sh_197 ad K)
    obtain ⟨x_202, hk_201, hlx_202, hhx_202⟩ := hOc_200.int 10 rfl
    have hgix_202 := gI_of hgc_200 hk_201
    obtain ⟨x_205, hk_204, -⟩ := hOc_200.int 12 rfl
    have hgix_205 := gI_of hgc_200 hk_204
    obtain ⟨x_208, hk_207, hlx_208, hhx_208⟩ := hOc_200.int 8 rfl
    have hgix_208 := gI_of hgc_200 hk_207
    exact HJ68 gc_197 _ _ ls (by omega) hWc_197 hfr_199 hP hS (lv_sub hl [0] rfl)

theorem dX12_street_0 : decode cX12_street 0 = .ok (.aload_n 0, 1) := by decide +kernel
theorem dX12_street_1 : decode cX12_street 1 = .ok (.aload_n 0, 1) := by decide +kernel
theorem dX12_street_2 : decode cX12_street 2 = .ok (.getfield 86, 3) := by decide +kernel
theorem dX12_street_5 : decode cX12_street 5 = .ok (.putfield 89, 3) := by decide +kernel
theorem dX12_street_8 : decode cX12_street 8 = .ok (.aload_n 0, 1) := by decide +kernel
theorem dX12_street_9 : decode cX12_street 9 = .ok (.iconst 0, 1) := by decide +kernel
theorem dX12_street_10 : decode cX12_street 10 = .ok (.putfield 86, 3) := by decide +kernel
theorem dX12_street_13 : decode cX12_street 13 = .ok (.aload_n 0, 1) := by decide +kernel
theorem dX12_street_14 : decode cX12_street 14 = .ok (.iconst 0, 1) := by decide +kernel
theorem dX12_street_15 : decode cX12_street 15 = .ok (.putfield 92, 3) := by decide +kernel
theorem dX12_street_18 : decode cX12_street 18 = .ok (.aload_n 0, 1) := by decide +kernel
theorem dX12_street_19 : decode cX12_street 19 = .ok (.iconst 0, 1) := by decide +kernel
theorem dX12_street_20 : decode cX12_street 20 = .ok (.putfield 123, 3) := by decide +kernel
theorem dX12_street_23 : decode cX12_street 23 = .ok (.aload_n 0, 1) := by decide +kernel
theorem dX12_street_24 : decode cX12_street 24 = .ok (.iconst (-1), 1) := by decide +kernel
theorem dX12_street_25 : decode cX12_street 25 = .ok (.putfield 27, 3) := by decide +kernel
theorem dX12_street_28 : decode cX12_street 28 = .ok (.iconst 0, 1) := by decide +kernel
theorem dX12_street_29 : decode cX12_street 29 = .ok (.istore_n 1, 1) := by decide +kernel
theorem dX12_street_30 : decode cX12_street 30 = .ok (.iload_n 1, 1) := by decide +kernel
theorem dX12_street_31 : decode cX12_street 31 = .ok (.bipush 118, 2) := by decide +kernel
theorem dX12_street_33 : decode cX12_street 33 = .ok (.if_icmp .ge 16, 3) := by decide +kernel
theorem dX12_street_36 : decode cX12_street 36 = .ok (.aload_n 0, 1) := by decide +kernel
theorem dX12_street_37 : decode cX12_street 37 = .ok (.getfield 31, 3) := by decide +kernel
theorem dX12_street_40 : decode cX12_street 40 = .ok (.iload_n 1, 1) := by decide +kernel
theorem dX12_street_41 : decode cX12_street 41 = .ok (.iconst 0, 1) := by decide +kernel
theorem dX12_street_42 : decode cX12_street 42 = .ok (.iastore, 1) := by decide +kernel
theorem dX12_street_43 : decode cX12_street 43 = .ok (.iinc 1 1, 3) := by decide +kernel
theorem dX12_street_46 : decode cX12_street 46 = .ok (.goto (-16), 3) := by decide +kernel
theorem dX12_street_49 : decode cX12_street 49 = .ok (.aload_n 0, 1) := by decide +kernel
theorem dX12_street_50 : decode cX12_street 50 = .ok (.invokevirtual 144, 3) := by decide +kernel
theorem dX12_street_53 : decode cX12_street 53 = .ok (.aload_n 0, 1) := by decide +kernel
theorem dX12_street_54 : decode cX12_street 54 = .ok (.invokevirtual 126, 3) := by decide +kernel
theorem dX12_street_57 : decode cX12_street 57 = .ok (.ifCond .eq 17, 3) := by decide +kernel
theorem dX12_street_60 : decode cX12_street 60 = .ok (.aload_n 0, 1) := by decide +kernel
theorem dX12_street_61 : decode cX12_street 61 = .ok (.getfield 102, 3) := by decide +kernel
theorem dX12_street_64 : decode cX12_street 64 = .ok (.ifCond .eq 10, 3) := by decide +kernel
theorem dX12_street_67 : decode cX12_street 67 = .ok (.aload_n 0, 1) := by decide +kernel
theorem dX12_street_68 : decode cX12_street 68 = .ok (.invokevirtual 202, 3) := by decide +kernel
theorem dX12_street_71 : decode cX12_street 71 = .ok (.goto (-18), 3) := by decide +kernel
theorem dX12_street_74 : decode cX12_street 74 = .ok (.aload_n 0, 1) := by decide +kernel
theorem dX12_street_75 : decode cX12_street 75 = .ok (.invokevirtual 126, 3) := by decide +kernel
theorem dX12_street_78 : decode cX12_street 78 = .ok (.ifCond .ne 6, 3) := by decide +kernel
theorem dX12_street_81 : decode cX12_street 81 = .ok (.bipush (-4), 2) := by decide +kernel
theorem dX12_street_83 : decode cX12_street 83 = .ok (.ireturn, 1) := by decide +kernel
theorem dX12_street_84 : decode cX12_street 84 = .ok (.iconst 0, 1) := by decide +kernel
theorem dX12_street_85 : decode cX12_street 85 = .ok (.istore_n 1, 1) := by decide +kernel
theorem dX12_street_86 : decode cX12_street 86 = .ok (.iload_n 1, 1) := by decide +kernel
theorem dX12_street_87 : decode cX12_street 87 = .ok (.bipush 118, 2) := by decide +kernel
theorem dX12_street_89 : decode cX12_street 89 = .ok (.if_icmp .ge 21, 3) := by decide +kernel
theorem dX12_street_92 : decode cX12_street 92 = .ok (.aload_n 0, 1) := by decide +kernel
theorem dX12_street_93 : decode cX12_street 93 = .ok (.getfield 9, 3) := by decide +kernel
theorem dX12_street_96 : decode cX12_street 96 = .ok (.iload_n 1, 1) := by decide +kernel
theorem dX12_street_97 : decode cX12_street 97 = .ok (.aload_n 0, 1) := by decide +kernel
theorem dX12_street_98 : decode cX12_street 98 = .ok (.getfield 31, 3) := by decide +kernel
theorem dX12_street_101 : decode cX12_street 101 = .ok (.iload_n 1, 1) := by decide +kernel
theorem dX12_street_102 : decode cX12_street 102 = .ok (.iaload, 1) := by decide +kernel
theorem dX12_street_103 : decode cX12_street 103 = .ok (.iastore, 1) := by decide +kernel
theorem dX12_street_104 : decode cX12_street 104 = .ok (.iinc 1 1, 3) := by decide +kernel
theorem dX12_street_107 : decode cX12_street 107 = .ok (.goto (-21), 3) := by decide +kernel
theorem dX12_street_110 : decode cX12_street 110 = .ok (.aload_n 0, 1) := by decide +kernel
theorem dX12_street_111 : decode cX12_street 111 = .ok (.getfield 9, 3) := by decide +kernel
theorem dX12_street_114 : decode cX12_street 114 = .ok (.bipush 8, 2) := by decide +kernel
theorem dX12_street_116 : decode cX12_street 116 = .ok (.iaload, 1) := by decide +kernel
theorem dX12_street_117 : decode cX12_street 117 = .ok (.ireturn, 1) := by decide +kernel
noncomputable def vX12_street : List Cond := .code yX12_street cX12_street 2 (some .int) :: (([.fieldLink RX12 86 "IcicleClockModel" "taped" "I", .fieldLink RX12 89 "IcicleClockModel" "size" "I", .fieldLink RX12 92 "IcicleClockModel" "at" "I", .fieldLink RX12 123 "IcicleClockModel" "faultKind" "I", .fieldLink RX12 27 "IcicleClockModel" "faultPlace" "I", .fieldLink RX12 31 "IcicleClockModel" "fresh" "[I", .methodLink RX12 144 yX12_advance, .instanceMethod yX12_advance, .selects RX12 yX12_advance yX12_advance, .initialized RX12, .methodLink RX12 126 yX12_good, .instanceMethod yX12_good, .selects RX12 yX12_good yX12_good, .fieldLink RX12 102 "IcicleClockModel" "token" "I", .methodLink RX12 202 yX12_readLine, .instanceMethod yX12_readLine, .selects RX12 yX12_readLine yX12_readLine, .fieldLink RX12 9 "IcicleClockModel" "world" "[I"] : List Cond) ++ (wsX120 ++ (vX12_advance ++ (vX12_good ++ vX12_readLine))))
theorem iX12_street_12 : ∀ w ∈ wsX120, w ∈ vX12_street := fun _ h => List.mem_cons_of_mem _ (List.mem_append_right _ (List.mem_append_left _ h))
theorem gs_X12_street : Gd vX12_street := Gd.cons (by decide +kernel) (Gd.app (Gd.r (by decide +kernel)) (Gd.app gwX_12 (Gd.app gs_X12_advance (Gd.app gs_X12_good gs_X12_readLine))))
theorem gg_X12_street_X12_advance : GoodIn vX12_street (wsV RX12 144 RX12 yX12_advance vX12_advance) := goodIn_app (goodIn_r _ [7, 8, 9, 10] (by decide +kernel) (by decide +kernel)) (fun w h => ⟨List.mem_cons_of_mem _ (List.mem_append_right _ (List.mem_append_right _ (List.mem_append_left _ h))), gs_X12_advance w h⟩)
theorem gg_X12_street_X12_good : GoodIn vX12_street (wsV RX12 126 RX12 yX12_good vX12_good) := goodIn_app (goodIn_r _ [11, 12, 13, 10] (by decide +kernel) (by decide +kernel)) (fun w h => ⟨List.mem_cons_of_mem _ (List.mem_append_right _ (List.mem_append_right _ (List.mem_append_right _ (List.mem_append_left _ h)))), gs_X12_good w h⟩)
theorem gg_X12_street_X12_readLine : GoodIn vX12_street (wsV RX12 202 RX12 yX12_readLine vX12_readLine) := goodIn_app (goodIn_r _ [15, 16, 17, 10] (by decide +kernel) (by decide +kernel)) (fun w h => ⟨List.mem_cons_of_mem _ (List.mem_append_right _ (List.mem_append_right _ (List.mem_append_right _ (List.mem_append_right _ (h))))), gs_X12_readLine w h⟩)
set_option maxHeartbeats 4000000 in
set_option maxRecDepth 100000 in
theorem s_X12_street (l : Launch) (D : va_G) (cs : Nat → ClassId) (ad : Nat → Nat) (kS : kSt) (K : sK) (hKO : KO K) (hj : wJ ad 218) (g : Nat → va_E) (hW : WF (shp ad K) ad cs g) : sI l yX12_street vX12_street { frames := 11, cells := 0, slots := 0, locals := 237 } D cs ad kS [.ref (ad 197)] g (fun r g2 => WF (shp ad K) ad cs g2 ∧ (∀ j, j ≠ 197 ∧ j ≠ 198 ∧ j ≠ 203 → g2 j = g j)) := by
  refine Met.startS (cc := cX12_street) (maxL := 2) (ret := (some .int)) RX12 rfl (by decide) rfl (Nat.le_of_ble_eq_true rfl) ?_
  intro p e s m below meth c ls X Z hP hl
  have hx := X.1
  have hb := X.2.1
  have hS : va_S (wA ad 218) s.heap s.heap [] := va_S.rf
  have hA : ∀ i, i < 218 → wA ad 218 (ad i) := fun i h => ⟨i, h, rfl⟩
  have hfr : ∀ j, j ≠ 197 ∧ j ≠ 198 ∧ j ≠ 203 → g j = g j := fun _ _ => rfl
  have hl : lv_has ls 2 [(0, .ref (ad 197))] := hl
  obtain ⟨fsc_1, hgc_1, hOc_1⟩ := hW.obj (i := 197) (by decide) (sh_197 ad K)
  obtain ⟨x_3, hk_2, hlx_3, hhx_3⟩ := hOc_1.int 10 rfl
  have hgix_3 := gI_of hgc_1 hk_2
  obtain ⟨x_5, hk_4, -⟩ := hOc_1.int 12 rfl
  have hgix_5 := gI_of hgc_1 hk_4
  obtain ⟨x_7, hk_6, hlx_7, hhx_7⟩ := hOc_1.int 8 rfl
  have hgix_7 := gI_of hgc_1 hk_6
  refine lv_aload_n hx hb dX12_street_0 rfl (lv_at hl 0 rfl) ?_
  refine lv_aload_n hx hb dX12_street_1 rfl (lv_at hl 0 rfl) ?_
  obtain ⟨x_9, hk_8, hlx_9, hhx_9⟩ := hOc_1.int 5 rfl
  refine q_get X iX12_street_12 hP (by decide) hgc_1 rfl 5 (by decide) (List.mem_of_getElem? (i := 1) rfl) (v := .int x_9) hk_8 dX12_street_2 ?_
  refine s_put X iX12_street_12 tyX12 tyX12_ok nmX12 hP hj hA hS (by decide) hgc_1 rfl 7 (by decide) (List.mem_of_getElem? (i := 2) rfl) rfl (ty := .int) (v := .int x_9) (by decide +kernel) rfl rfl dX12_street_5 hW (sh_197 ad K) hOc_1 rfl ⟨x_9, rfl, by omega, by omega⟩ (fun fsc_10 gc_10 H locs hOc_10 hkc_10 hnc_10 hgc_10 hfc_10 hWc_10 hP hS => ?_)
  have hk_11 := (hnc_10 10 (by decide)).trans hk_2
  have hk_12 := (hnc_10 12 (by decide)).trans hk_4
  have hk_13 := (hnc_10 8 (by decide)).trans hk_6
  have hk_14 := (hnc_10 5 (by decide)).trans hk_8
  have hfr_15 : ∀ j, j ≠ 197 ∧ j ≠ 198 ∧ j ≠ 203 → gc_10 j = g j := fun j hj => (hfc_10 j (by omega)).trans (hfr j hj)
  have hgi_16 := gI_of hgc_10 hk_11
  have hgi_17 := gI_of hgc_10 hk_12
  have hgi_18 := gI_of hgc_10 hk_13
  refine lv_aload_n hx hb dX12_street_8 rfl (lv_at hl 0 rfl) ?_
  refine lv_iconst (v := 0) hx hb dX12_street_9 (by decide) ?_
  refine s_put X iX12_street_12 tyX12 tyX12_ok nmX12 hP hj hA hS (by decide) hgc_10 rfl 5 (by decide) (List.mem_of_getElem? (i := 1) rfl) rfl (ty := .int) (v := .int 0) (by decide +kernel) rfl rfl dX12_street_10 hWc_10 (sh_197 ad K) hOc_10 rfl ⟨0, rfl, by decide, by decide⟩ (fun fsc_19 gc_19 H locs hOc_19 hkc_19 hnc_19 hgc_19 hfc_19 hWc_19 hP hS => ?_)
  have hk_20 := (hnc_19 7 (by decide)).trans hkc_10
  have hk_21 := (hnc_19 10 (by decide)).trans hk_11
  have hk_22 := (hnc_19 12 (by decide)).trans hk_12
  have hk_23 := (hnc_19 8 (by decide)).trans hk_13
  have hfr_24 : ∀ j, j ≠ 197 ∧ j ≠ 198 ∧ j ≠ 203 → gc_19 j = g j := fun j hj => (hfc_19 j (by omega)).trans (hfr_15 j hj)
  have hgi_25 := gI_of hgc_19 hk_21
  have hgi_26 := gI_of hgc_19 hk_22
  have hgi_27 := gI_of hgc_19 hk_23
  refine lv_aload_n hx hb dX12_street_13 rfl (lv_at hl 0 rfl) ?_
  refine lv_iconst (v := 0) hx hb dX12_street_14 (by decide) ?_
  refine s_put X iX12_street_12 tyX12 tyX12_ok nmX12 hP hj hA hS (by decide) hgc_19 rfl 8 (by decide) (List.mem_of_getElem? (i := 3) rfl) rfl (ty := .int) (v := .int 0) (by decide +kernel) rfl rfl dX12_street_15 hWc_19 (sh_197 ad K) hOc_19 rfl ⟨0, rfl, by decide, by decide⟩ (fun fsc_28 gc_28 H locs hOc_28 hkc_28 hnc_28 hgc_28 hfc_28 hWc_28 hP hS => ?_)
  have hk_29 := (hnc_28 5 (by decide)).trans hkc_19
  have hk_30 := (hnc_28 7 (by decide)).trans hk_20
  have hk_31 := (hnc_28 10 (by decide)).trans hk_21
  have hk_32 := (hnc_28 12 (by decide)).trans hk_22
  have hfr_33 : ∀ j, j ≠ 197 ∧ j ≠ 198 ∧ j ≠ 203 → gc_28 j = g j := fun j hj => (hfc_28 j (by omega)).trans (hfr_24 j hj)
  have hgi_34 := gI_of hgc_28 hkc_28
  rw [(by decide : (0 : Int32).toInt = 0)] at hgi_34
  have hgi_35 := gI_of hgc_28 hk_31
  have hgi_36 := gI_of hgc_28 hk_32
  refine lv_aload_n hx hb dX12_street_18 rfl (lv_at hl 0 rfl) ?_
  refine lv_iconst (v := 0) hx hb dX12_street_19 (by decide) ?_
  refine s_put X iX12_street_12 tyX12 tyX12_ok nmX12 hP hj hA hS (by decide) hgc_28 rfl 12 (by decide) (List.mem_of_getElem? (i := 4) rfl) rfl (ty := .int) (v := .int 0) (by decide +kernel) rfl rfl dX12_street_20 hWc_28 (sh_197 ad K) hOc_28 rfl ⟨0, rfl, n_lo _, n_hi _⟩ (fun fsc_37 gc_37 H locs hOc_37 hkc_37 hnc_37 hgc_37 hfc_37 hWc_37 hP hS => ?_)
  have hk_38 := (hnc_37 8 (by decide)).trans hkc_28
  have hk_39 := (hnc_37 5 (by decide)).trans hk_29
  have hk_40 := (hnc_37 7 (by decide)).trans hk_30
  have hk_41 := (hnc_37 10 (by decide)).trans hk_31
  have hfr_42 : ∀ j, j ≠ 197 ∧ j ≠ 198 ∧ j ≠ 203 → gc_37 j = g j := fun j hj => (hfc_37 j (by omega)).trans (hfr_33 j hj)
  have hgi_43 := gI_of hgc_37 hkc_37
  rw [(by decide : (0 : Int32).toInt = 0)] at hgi_43
  have hgi_44 := gI_of hgc_37 hk_38
  rw [(by decide : (0 : Int32).toInt = 0)] at hgi_44
  have hgi_45 := gI_of hgc_37 hk_41
  refine lv_aload_n hx hb dX12_street_23 rfl (lv_at hl 0 rfl) ?_
  refine lv_iconst (v := (-1)) hx hb dX12_street_24 (by decide) ?_
  refine s_put X iX12_street_12 tyX12 tyX12_ok nmX12 hP hj hA hS (by decide) hgc_37 rfl 13 (by decide) (List.mem_of_getElem? (i := 5) rfl) rfl (ty := .int) (v := .int (-1)) (by decide +kernel) rfl rfl dX12_street_25 hWc_37 (sh_197 ad K) hOc_37 rfl ⟨(-1), rfl, n_lo _, n_hi _⟩ (fun fsc_46 gc_46 H locs hOc_46 hkc_46 hnc_46 hgc_46 hfc_46 hWc_46 hP hS => ?_)
  have hk_47 := (hnc_46 12 (by decide)).trans hkc_37
  have hk_48 := (hnc_46 8 (by decide)).trans hk_38
  have hk_49 := (hnc_46 5 (by decide)).trans hk_39
  have hk_50 := (hnc_46 7 (by decide)).trans hk_40
  have hk_51 := (hnc_46 10 (by decide)).trans hk_41
  have hfr_52 : ∀ j, j ≠ 197 ∧ j ≠ 198 ∧ j ≠ 203 → gc_46 j = g j := fun j hj => (hfc_46 j (by omega)).trans (hfr_42 j hj)
  have hgi_53 := gI_of hgc_46 hk_47
  rw [(by decide : (0 : Int32).toInt = 0)] at hgi_53
  have hgi_54 := gI_of hgc_46 hk_48
  rw [(by decide : (0 : Int32).toInt = 0)] at hgi_54
  have hgi_55 := gI_of hgc_46 hk_51
  refine lv_iconst (v := 0) hx hb dX12_street_28 (by decide) ?_
  refine lv_istore_n (lv' := [(1, .int 0), (0, .ref (ad 197))]) hx hb dX12_street_29 rfl hl (by decide) rfl (fun ls hl => ?_)
  have HL30 : ∀ (n30 : Nat) (v30_1 : Int32) (G30 : Nat → va_E) (H : Heap) (locs : List Loc) (ls : Array Slot), (118 - v30_1.toInt).toNat < n30 → (0 ≤ v30_1.toInt ∧ v30_1.toInt ≤ 118) → WF (shp ad K) ad cs G30 → (∀ j, j ≠ 197 ∧ j ≠ 198 ∧ j ≠ 203 → G30 j = g j) → va_P D vwCl (wL ad G30 218) H → va_S (wA ad 218) s.heap H locs → lv_has ls 2 [(1, .int v30_1), (0, .ref (ad 197))] → W p l e ({ frames := 11, cells := 0, slots := 0, locals := 237 } : Room) s m ([.ref (ad 197)] : List Value).toArray below meth c H locs 0 0 (MQ below (qI D ad 218 (fun r g2 => WF (shp ad K) ad cs g2 ∧ (∀ j, j ≠ 197 ∧ j ≠ 198 ∧ j ≠ 203 → g2 j = g j))) ([.ref (ad 197)] : List Value).toArray s 0 0 (wA ad 218)) (F0 m 30 ls []) := by
    intro n30
    induction n30 with
    | zero =>
      intro v30_1 G30 H locs ls hm30 hv30_0 hW30 hfr30 hP hS hl
      exact absurd hm30 (Nat.not_lt_zero _)
    | succ n30 ih30 =>
      intro v30_1 G30 H locs ls hm30 hv30_0 hW30 hfr30 hP hS hl
      obtain ⟨fsc_56, hgc_56, hOc_56⟩ := hW30.obj (i := 197) (by decide) (sh_197 ad K)
      obtain ⟨x_58, hk_57, hlx_58, hhx_58⟩ := hOc_56.int 10 rfl
      have hgix_58 := gI_of hgc_56 hk_57
      obtain ⟨x_61, hk_60, -⟩ := hOc_56.int 12 rfl
      have hgix_61 := gI_of hgc_56 hk_60
      obtain ⟨x_64, hk_63, hlx_64, hhx_64⟩ := hOc_56.int 8 rfl
      have hgix_64 := gI_of hgc_56 hk_63
      refine lv_iload_n hx hb dX12_street_30 rfl (lv_at hl 0 rfl) ?_
      refine lv_bipush (v := 118) hx hb dX12_street_31 (by decide) ?_
      refine lv_icmp_ge (tgt := 49) hx hb dX12_street_33 (by decide) (fun hc_66 => ?_) (fun hc_66 => ?_)
      · have hhc_66 := n_le (by decide : (118 : Int32).toInt = 118) (rfl : v30_1.toInt = v30_1.toInt) hc_66
        refine lv_aload_n hx hb dX12_street_49 rfl (lv_at hl 1 rfl) ?_
        have hgi_67 := gI_of hgc_56 hk_57
        have hgi_68 := gI_of hgc_56 hk_60
        have hgi_69 := gI_of hgc_56 hk_63
        refine s_callv (q := (RX12, TX12, 40)) (As := []) (rest := []) X Z (s_X12_advance l D cs ad kS K hKO hj G30 hW30) (cwV 0 X.2.2.2.2.1 gg_X12_street_X12_advance rfl rfl rfl (by decide +kernel) ⟨Nat.le_of_ble_eq_true rfl, Nat.le_of_ble_eq_true rfl⟩) (by decide) hgc_56 rfl hP hA hS.2.1 hS rfl hl.1 rfl (Nat.le_of_ble_eq_true rfl) dX12_street_50 ⟨Nat.le_of_ble_eq_true rfl, Nat.le_of_ble_eq_true rfl⟩ (fun g_71 H locs hw_70 hP hS => ?_)
        obtain ⟨hw_70W, hw_70f, hw_70⟩ := hw_70
        have hfr_73 : ∀ j, j ≠ 197 ∧ j ≠ 198 ∧ j ≠ 203 → g_71 j = g j := fun j hj => (hw_70f j (by omega)).trans (hfr30 j hj)
        have HL53 : ∀ (n53 : Nat) (G53 : Nat → va_E) (H : Heap) (locs : List Loc) (ls : Array Slot), (2 * (1000 - gI G53 197 8) + goF G53).toNat < n53 → WF (shp ad K) ad cs G53 → (∀ j, j ≠ 197 ∧ j ≠ 198 ∧ j ≠ 203 → G53 j = g j) → va_P D vwCl (wL ad G53 218) H → va_S (wA ad 218) s.heap H locs → lv_has ls 2 [(0, .ref (ad 197))] → W p l e ({ frames := 11, cells := 0, slots := 0, locals := 237 } : Room) s m ([.ref (ad 197)] : List Value).toArray below meth c H locs 0 0 (MQ below (qI D ad 218 (fun r g2 => WF (shp ad K) ad cs g2 ∧ (∀ j, j ≠ 197 ∧ j ≠ 198 ∧ j ≠ 203 → g2 j = g j))) ([.ref (ad 197)] : List Value).toArray s 0 0 (wA ad 218)) (F0 m 53 ls []) := by
          intro n53
          induction n53 with
          | zero =>
            intro G53 H locs ls hm53 hW53 hfr53 hP hS hl
            exact absurd hm53 (Nat.not_lt_zero _)
          | succ n53 ih53 =>
            intro G53 H locs ls hm53 hW53 hfr53 hP hS hl
            obtain ⟨fsc_74, hgc_74, hOc_74⟩ := hW53.obj (i := 197) (by decide) (sh_197 ad K)
            obtain ⟨x_76, hk_75, hlx_76, hhx_76⟩ := hOc_74.int 10 rfl
            have hgix_76 := gI_of hgc_74 hk_75
            obtain ⟨x_79, hk_78, -⟩ := hOc_74.int 12 rfl
            have hgix_79 := gI_of hgc_74 hk_78
            obtain ⟨x_82, hk_81, hlx_82, hhx_82⟩ := hOc_74.int 8 rfl
            have hgix_82 := gI_of hgc_74 hk_81
            refine lv_aload_n hx hb dX12_street_53 rfl (lv_at hl 0 rfl) ?_
            have hgi_84 := gI_of hgc_74 hk_75
            have hgi_85 := gI_of hgc_74 hk_78
            have hgi_86 := gI_of hgc_74 hk_81
            refine s_calli (q := (RX12, TX12, 40)) (As := []) (rest := []) X Z (s_X12_good l D cs ad kS K hKO hj G53 hW53) (cwV 0 X.2.2.2.2.1 gg_X12_street_X12_good rfl rfl rfl (by decide +kernel) ⟨Nat.le_of_ble_eq_true rfl, Nat.le_of_ble_eq_true rfl⟩) (by decide) hgc_74 rfl hP hA hS.2.1 hS rfl hl.1 rfl (Nat.le_of_ble_eq_true rfl) dX12_street_54 ⟨Nat.le_of_ble_eq_true rfl, Nat.le_of_ble_eq_true rfl⟩ (fun r_89 g_88 H locs hw_87 hP hS => ?_)
            obtain ⟨hw_87g, hw_87⟩ := hw_87
            rw [hw_87g] at hP
            have HJ74 : ∀ (G74 : Nat → va_E) (H : Heap) (locs : List Loc) (ls : Array Slot), WF (shp ad K) ad cs G74 → (∀ j, j ≠ 197 ∧ j ≠ 198 ∧ j ≠ 203 → G74 j = g j) → G74 197 = .inr (12, fsc_74) → va_P D vwCl (wL ad G74 218) H → va_S (wA ad 218) s.heap H locs → lv_has ls 2 [(0, .ref (ad 197))] → W p l e ({ frames := 11, cells := 0, slots := 0, locals := 237 } : Room) s m ([.ref (ad 197)] : List Value).toArray below meth c H locs 0 0 (MQ below (qI D ad 218 (fun r g2 => WF (shp ad K) ad cs g2 ∧ (∀ j, j ≠ 197 ∧ j ≠ 198 ∧ j ≠ 203 → g2 j = g j))) ([.ref (ad 197)] : List Value).toArray s 0 0 (wA ad 218)) (F0 m 74 ls []) := by
              intro G74 H locs ls hW74 hfr74 hg74_0 hP hS hl
              have hgi_90 := gI_of hg74_0 hk_75
              have hgi_91 := gI_of hg74_0 hk_78
              have hgi_92 := gI_of hg74_0 hk_81
              refine lv_aload_n hx hb dX12_street_74 rfl (lv_at hl 0 rfl) ?_
              have hgi_93 := gI_of hg74_0 hk_75
              have hgi_94 := gI_of hg74_0 hk_78
              have hgi_95 := gI_of hg74_0 hk_81
              refine s_calli (q := (RX12, TX12, 40)) (As := []) (rest := []) X Z (s_X12_good l D cs ad kS K hKO hj G74 hW74) (cwV 0 X.2.2.2.2.1 gg_X12_street_X12_good rfl rfl rfl (by decide +kernel) ⟨Nat.le_of_ble_eq_true rfl, Nat.le_of_ble_eq_true rfl⟩) (by decide) hg74_0 rfl hP hA hS.2.1 hS rfl hl.1 rfl (Nat.le_of_ble_eq_true rfl) dX12_street_75 ⟨Nat.le_of_ble_eq_true rfl, Nat.le_of_ble_eq_true rfl⟩ (fun r_98 g_97 H locs hw_96 hP hS => ?_)
              obtain ⟨hw_96g, hw_96⟩ := hw_96
              rw [hw_96g] at hP
              refine lv_if_ne (tgt := 84) hx hb dX12_street_78 (by decide) (fun hc_99 => ?_) (fun hc_99 => ?_)
              · have hhc_99 := n_ne (rfl : r_98.toInt = r_98.toInt) (by decide : (0 : Int32).toInt = 0) hc_99
                refine lv_iconst (v := 0) hx hb dX12_street_84 (by decide) ?_
                refine lv_istore_n (lv' := [(1, .int 0), (0, .ref (ad 197))]) hx hb dX12_street_85 rfl hl (by decide) rfl (fun ls hl => ?_)
                have HL86 : ∀ (n86 : Nat) (v86_1 : Int32) (G86 : Nat → va_E) (H : Heap) (locs : List Loc) (ls : Array Slot), (118 - v86_1.toInt).toNat < n86 → (0 ≤ v86_1.toInt ∧ v86_1.toInt ≤ 118) → WF (shp ad K) ad cs G86 → (∀ j, j ≠ 197 ∧ j ≠ 198 ∧ j ≠ 203 → G86 j = g j) → va_P D vwCl (wL ad G86 218) H → va_S (wA ad 218) s.heap H locs → lv_has ls 2 [(1, .int v86_1), (0, .ref (ad 197))] → W p l e ({ frames := 11, cells := 0, slots := 0, locals := 237 } : Room) s m ([.ref (ad 197)] : List Value).toArray below meth c H locs 0 0 (MQ below (qI D ad 218 (fun r g2 => WF (shp ad K) ad cs g2 ∧ (∀ j, j ≠ 197 ∧ j ≠ 198 ∧ j ≠ 203 → g2 j = g j))) ([.ref (ad 197)] : List Value).toArray s 0 0 (wA ad 218)) (F0 m 86 ls []) := by
                  intro n86
                  induction n86 with
                  | zero =>
                    intro v86_1 G86 H locs ls hm86 hv86_0 hW86 hfr86 hP hS hl
                    exact absurd hm86 (Nat.not_lt_zero _)
                  | succ n86 ih86 =>
                    intro v86_1 G86 H locs ls hm86 hv86_0 hW86 hfr86 hP hS hl
                    obtain ⟨fsc_100, hgc_100, hOc_100⟩ := hW86.obj (i := 197) (by decide) (sh_197 ad K)
                    obtain ⟨x_102, hk_101, hlx_102, hhx_102⟩ := hOc_100.int 10 rfl
                    have hgix_102 := gI_of hgc_100 hk_101
                    obtain ⟨x_105, hk_104, -⟩ := hOc_100.int 12 rfl
                    have hgix_105 := gI_of hgc_100 hk_104
                    obtain ⟨x_108, hk_107, hlx_108, hhx_108⟩ := hOc_100.int 8 rfl
                    have hgix_108 := gI_of hgc_100 hk_107
                    refine lv_iload_n hx hb dX12_street_86 rfl (lv_at hl 0 rfl) ?_
                    refine lv_bipush (v := 118) hx hb dX12_street_87 (by decide) ?_
                    refine lv_icmp_ge (tgt := 110) hx hb dX12_street_89 (by decide) (fun hc_110 => ?_) (fun hc_110 => ?_)
                    · have hhc_110 := n_le (by decide : (118 : Int32).toInt = 118) (rfl : v86_1.toInt = v86_1.toInt) hc_110
                      refine lv_aload_n hx hb dX12_street_110 rfl (lv_at hl 1 rfl) ?_
                      have hk_111 := hOc_100.ref 1 rfl
                      refine q_get X iX12_street_12 hP (by decide) hgc_100 rfl 1 (by decide) (List.mem_of_getElem? (i := 18) rfl) (v := .ref (ad 198)) hk_111 dX12_street_111 ?_
                      refine lv_bipush (v := 8) hx hb dX12_street_114 (by decide) ?_
                      obtain ⟨fc_112, hgc_112, hFc_112⟩ := hW86.arr (i := 198) (by decide) (sh_198 ad K)
                      refine q_iald X hP (by decide) hgc_112 (by unfold vp_in; decide) dX12_street_116 ?_
                      refine lv_topi (fun z_113 ez_113 => ?_)
                      have hqz_113 : wq (8) z_113.toInt := ez_113 ▸ hFc_112 _
                      clear hqz_113
                      exact q_iret X hP hS ⟨hW86, hfr86⟩ dX12_street_117
                    · have hhc_110 := n_nle (by decide : (118 : Int32).toInt = 118) (rfl : v86_1.toInt = v86_1.toInt) hc_110
                      refine lv_aload_n hx hb dX12_street_92 rfl (lv_at hl 1 rfl) ?_
                      have hk_114 := hOc_100.ref 1 rfl
                      refine q_get X iX12_street_12 hP (by decide) hgc_100 rfl 1 (by decide) (List.mem_of_getElem? (i := 18) rfl) (v := .ref (ad 198)) hk_114 dX12_street_93 ?_
                      refine lv_iload_n hx hb dX12_street_96 rfl (lv_at hl 0 rfl) ?_
                      refine lv_aload_n hx hb dX12_street_97 rfl (lv_at hl 1 rfl) ?_
                      have hk_115 := hOc_100.ref 14 rfl
                      refine q_get X iX12_street_12 hP (by decide) hgc_100 rfl 14 (by decide) (List.mem_of_getElem? (i := 6) rfl) (v := .ref (ad 203)) hk_115 dX12_street_98 ?_
                      refine lv_iload_n hx hb dX12_street_101 rfl (lv_at hl 0 rfl) ?_
                      obtain ⟨fc_116, hgc_116, hFc_116⟩ := hW86.arr (i := 203) (by decide) (sh_203 ad K)
                      refine q_iald X hP (by decide) hgc_116 (n_in (rfl : v86_1.toInt = v86_1.toInt) (by omega) (by omega)) dX12_street_102 ?_
                      refine lv_topi (fun z_117 ez_117 => ?_)
                      have hqz_117 : wq (v86_1.toNatClampNeg) z_117.toInt := ez_117 ▸ hFc_116 _
                      have hcz_117 := n_cl (rfl : v86_1.toInt = v86_1.toInt) (by omega)
                      obtain ⟨fc_118, hgc_118, hFc_118⟩ := hW86.arr (i := 198) (by decide) (sh_198 ad K)
                      have hc_103 := n_cl (rfl : v86_1.toInt = v86_1.toInt) (by omega)
                      have hu_120 : wq (v86_1.toNatClampNeg) (z_117 : Int32).toInt := hqz_117
                      refine s_iast X hP hj hA hS (by decide) hgc_118 (n_in (rfl : v86_1.toInt = v86_1.toInt) (by omega) (by omega)) dX12_street_103 hW86 (sh_198 ad K) (hFc_118.put hu_120) (fun fc_119 gc_119 H locs ec_119 hFc_119 hgc_119 hfc_119 hWc_119 hP hS => ?_)
                      have hg_122 := (hfc_119 197 (by decide)).trans hgc_100
                      have hg_123 := (hfc_119 203 (by decide)).trans hgc_116
                      have hfr_121 : ∀ j, j ≠ 197 ∧ j ≠ 198 ∧ j ≠ 203 → gc_119 j = g j := fun j hj => (hfc_119 j (by omega)).trans (hfr86 j hj)
                      obtain ⟨x_124, ex_124⟩ : ∃ y : Int32, y = v86_1 + 1 := ⟨_, rfl⟩
                      have hx_124 : x_124.toInt = v86_1.toInt + 1 := n_add rfl (by decide : (1 : Int32).toInt = 1) ex_124 (by omega) (by omega)
                      refine lv_iinc (v := x_124) (lv' := [(1, .int x_124), (0, .ref (ad 197))]) hx hb dX12_street_104 hl (k := 0) rfl (by rw [ex_124]; rfl) (by decide) rfl (fun ls hl => ?_)
                      refine lv_goto (tgt := 86) hx hb dX12_street_107 (by decide) ?_
                      have hgi_125 := gI_of hg_122 hk_101
                      have hgi_126 := gI_of hg_122 hk_104
                      have hgi_127 := gI_of hg_122 hk_107
                      exact ih86 x_124 gc_119 _ _ ls (by omega) (by omega) hWc_119 hfr_121 hP hS (lv_sub hl [0, 1] rfl)
                have hgi_128 := gI_of hg74_0 hk_75
                have hgi_129 := gI_of hg74_0 hk_78
                have hgi_130 := gI_of hg74_0 hk_81
                have hiv86_1 : (0 : Int32).toInt = 0 := by decide
                exact HL86 _ 0 G74 _ _ ls (Nat.lt_succ_self _) (by omega) hW74 hfr74 hP hS (lv_sub hl [0, 1] rfl)
              · have hhc_99 := n_eq (rfl : r_98.toInt = r_98.toInt) (by decide : (0 : Int32).toInt = 0) hc_99
                refine lv_bipush (v := (-4)) hx hb dX12_street_81 (by decide) ?_
                exact q_iret X hP hS ⟨hW74, hfr74⟩ dX12_street_83
            refine lv_if_eq (tgt := 74) hx hb dX12_street_57 (by decide) (fun hc_131 => ?_) (fun hc_131 => ?_)
            · have hhc_131 := n_eq (rfl : r_89.toInt = r_89.toInt) (by decide : (0 : Int32).toInt = 0) hc_131
              have hgi_132 := gI_of hgc_74 hk_75
              have hgi_133 := gI_of hgc_74 hk_78
              have hgi_134 := gI_of hgc_74 hk_81
              exact HJ74 G53 _ _ ls hW53 hfr53 hgc_74 hP hS (lv_sub hl [0] rfl)
            · have hhc_131 := n_ne (rfl : r_89.toInt = r_89.toInt) (by decide : (0 : Int32).toInt = 0) hc_131
              refine lv_aload_n hx hb dX12_street_60 rfl (lv_at hl 0 rfl) ?_
              refine q_get X iX12_street_12 hP (by decide) hgc_74 rfl 10 (by decide) (List.mem_of_getElem? (i := 14) rfl) (v := .int x_76) hk_75 dX12_street_61 ?_
              refine lv_if_eq (tgt := 74) hx hb dX12_street_64 (by decide) (fun hc_135 => ?_) (fun hc_135 => ?_)
              · have hhc_135 := n_eq (rfl : x_76.toInt = x_76.toInt) (by decide : (0 : Int32).toInt = 0) hc_135
                have hgi_136 := gI_of hgc_74 hk_75
                have hgi_137 := gI_of hgc_74 hk_78
                have hgi_138 := gI_of hgc_74 hk_81
                exact HJ74 G53 _ _ ls hW53 hfr53 hgc_74 hP hS (lv_sub hl [0] rfl)
              · have hhc_135 := n_ne (rfl : x_76.toInt = x_76.toInt) (by decide : (0 : Int32).toInt = 0) hc_135
                have hgo1 := goF_1 (g := G53) (by omega) (by omega)
                refine lv_aload_n hx hb dX12_street_67 rfl (lv_at hl 0 rfl) ?_
                have hgi_139 := gI_of hgc_74 hk_75
                have hgi_140 := gI_of hgc_74 hk_78
                have hgi_141 := gI_of hgc_74 hk_81
                refine s_callv (q := (RX12, TX12, 40)) (As := []) (rest := []) X Z (s_X12_readLine l D cs ad kS K hKO hj G53 hW53) (cwV 0 X.2.2.2.2.1 gg_X12_street_X12_readLine rfl rfl rfl (by decide +kernel) ⟨Nat.le_of_ble_eq_true rfl, Nat.le_of_ble_eq_true rfl⟩) (by decide) hgc_74 rfl hP hA hS.2.1 hS rfl hl.1 rfl (Nat.le_of_ble_eq_true rfl) dX12_street_68 ⟨Nat.le_of_ble_eq_true rfl, Nat.le_of_ble_eq_true rfl⟩ (fun g_143 H locs hw_142 hP hS => ?_)
                obtain ⟨hw_142W, hw_142f, hw_142⟩ := hw_142
                have hfr_145 : ∀ j, j ≠ 197 ∧ j ≠ 198 ∧ j ≠ 203 → g_143 j = g j := fun j hj => (hw_142f j (by omega)).trans (hfr53 j hj)
                refine lv_goto (tgt := 53) hx hb dX12_street_71 (by decide) ?_
                obtain ⟨fsc_146, hgc_146, hOc_146⟩ := hw_142W.obj (i := 197) (by decide) (sh_197 ad K)
                obtain ⟨x_148, hk_147, hlx_148, hhx_148⟩ := hOc_146.int 10 rfl
                have hgix_148 := gI_of hgc_146 hk_147
                obtain ⟨x_151, hk_150, -⟩ := hOc_146.int 12 rfl
                have hgix_151 := gI_of hgc_146 hk_150
                obtain ⟨x_154, hk_153, hlx_154, hhx_154⟩ := hOc_146.int 8 rfl
                have hgix_154 := gI_of hgc_146 hk_153
                have hgo2 := goF_01 g_143
                have hgo3 := goF_0 (g := g_143)
                exact ih53 g_143 _ _ ls (by omega) hw_142W hfr_145 hP hS (lv_sub hl [0] rfl)
        obtain ⟨fsc_156, hgc_156, hOc_156⟩ := hw_70W.obj (i := 197) (by decide) (sh_197 ad K)
        obtain ⟨x_158, hk_157, hlx_158, hhx_158⟩ := hOc_156.int 10 rfl
        have hgix_158 := gI_of hgc_156 hk_157
        obtain ⟨x_161, hk_160, -⟩ := hOc_156.int 12 rfl
        have hgix_161 := gI_of hgc_156 hk_160
        obtain ⟨x_164, hk_163, hlx_164, hhx_164⟩ := hOc_156.int 8 rfl
        have hgix_164 := gI_of hgc_156 hk_163
        have hgo2 := goF_01 g_71
        have hgo3 := goF_0 (g := g_71)
        exact HL53 _ g_71 _ _ ls (Nat.lt_succ_self _) hw_70W hfr_73 hP hS (lv_sub hl [1] rfl)
      · have hhc_66 := n_nle (by decide : (118 : Int32).toInt = 118) (rfl : v30_1.toInt = v30_1.toInt) hc_66
        refine lv_aload_n hx hb dX12_street_36 rfl (lv_at hl 1 rfl) ?_
        have hk_166 := hOc_56.ref 14 rfl
        refine q_get X iX12_street_12 hP (by decide) hgc_56 rfl 14 (by decide) (List.mem_of_getElem? (i := 6) rfl) (v := .ref (ad 203)) hk_166 dX12_street_37 ?_
        refine lv_iload_n hx hb dX12_street_40 rfl (lv_at hl 0 rfl) ?_
        refine lv_iconst (v := 0) hx hb dX12_street_41 (by decide) ?_
        obtain ⟨fc_167, hgc_167, hFc_167⟩ := hW30.arr (i := 203) (by decide) (sh_203 ad K)
        have hc_42 := n_cl (rfl : v30_1.toInt = v30_1.toInt) (by omega)
        have hu_169 : wq (v30_1.toNatClampNeg) (0 : Int32).toInt := by rw [(by decide : (0 : Int32).toInt = 0)]; unfold wq; omega
        refine s_iast X hP hj hA hS (by decide) hgc_167 (n_in (rfl : v30_1.toInt = v30_1.toInt) (by omega) (by omega)) dX12_street_42 hW30 (sh_203 ad K) (hFc_167.put hu_169) (fun fc_168 gc_168 H locs ec_168 hFc_168 hgc_168 hfc_168 hWc_168 hP hS => ?_)
        have hg_171 := (hfc_168 197 (by decide)).trans hgc_56
        have hfr_170 : ∀ j, j ≠ 197 ∧ j ≠ 198 ∧ j ≠ 203 → gc_168 j = g j := fun j hj => (hfc_168 j (by omega)).trans (hfr30 j hj)
        obtain ⟨x_172, ex_172⟩ : ∃ y : Int32, y = v30_1 + 1 := ⟨_, rfl⟩
        have hx_172 : x_172.toInt = v30_1.toInt + 1 := n_add rfl (by decide : (1 : Int32).toInt = 1) ex_172 (by omega) (by omega)
        refine lv_iinc (v := x_172) (lv' := [(1, .int x_172), (0, .ref (ad 197))]) hx hb dX12_street_43 hl (k := 0) rfl (by rw [ex_172]; rfl) (by decide) rfl (fun ls hl => ?_)
        refine lv_goto (tgt := 30) hx hb dX12_street_46 (by decide) ?_
        have hgi_173 := gI_of hg_171 hk_57
        have hgi_174 := gI_of hg_171 hk_60
        have hgi_175 := gI_of hg_171 hk_63
        exact ih30 x_172 gc_168 _ _ ls (by omega) (by omega) hWc_168 hfr_170 hP hS (lv_sub hl [0, 1] rfl)
  have hgi_176 := gI_of hgc_46 hk_51
  have hgi_177 := gI_of hgc_46 hk_47
  rw [(by decide : (0 : Int32).toInt = 0)] at hgi_177
  have hgi_178 := gI_of hgc_46 hk_48
  rw [(by decide : (0 : Int32).toInt = 0)] at hgi_178
  have hiv30_1 : (0 : Int32).toInt = 0 := by decide
  exact HL30 _ 0 gc_46 _ _ ls (Nat.lt_succ_self _) (by omega) hWc_46 hfr_52 hP hS (lv_sub hl [0, 1] rfl)

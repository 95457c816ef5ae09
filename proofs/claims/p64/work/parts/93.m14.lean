theorem dX12_readDay_0 : decode cX12_readDay 0 = .ok (.bipush 9, 2) := by decide +kernel
theorem dX12_readDay_2 : decode cX12_readDay 2 = .ok (.iconst 2, 1) := by decide +kernel
theorem dX12_readDay_3 : decode cX12_readDay 3 = .ok (.aload_n 0, 1) := by decide +kernel
theorem dX12_readDay_4 : decode cX12_readDay 4 = .ok (.getfield 31, 3) := by decide +kernel
theorem dX12_readDay_7 : decode cX12_readDay 7 = .ok (.iconst 3, 1) := by decide +kernel
theorem dX12_readDay_8 : decode cX12_readDay 8 = .ok (.iaload, 1) := by decide +kernel
theorem dX12_readDay_9 : decode cX12_readDay 9 = .ok (.imul, 1) := by decide +kernel
theorem dX12_readDay_10 : decode cX12_readDay 10 = .ok (.iadd, 1) := by decide +kernel
theorem dX12_readDay_11 : decode cX12_readDay 11 = .ok (.istore_n 1, 1) := by decide +kernel
theorem dX12_readDay_12 : decode cX12_readDay 12 = .ok (.aload_n 0, 1) := by decide +kernel
theorem dX12_readDay_13 : decode cX12_readDay 13 = .ok (.ldc 161, 2) := by decide +kernel
theorem dX12_readDay_15 : decode cX12_readDay 15 = .ok (.invokevirtual 147, 3) := by decide +kernel
theorem dX12_readDay_18 : decode cX12_readDay 18 = .ok (.istore_n 2, 1) := by decide +kernel
theorem dX12_readDay_19 : decode cX12_readDay 19 = .ok (.iload_n 2, 1) := by decide +kernel
theorem dX12_readDay_20 : decode cX12_readDay 20 = .ok (.ifCond .ne 9, 3) := by decide +kernel
theorem dX12_readDay_23 : decode cX12_readDay 23 = .ok (.aload_n 0, 1) := by decide +kernel
theorem dX12_readDay_24 : decode cX12_readDay 24 = .ok (.ldc 163, 2) := by decide +kernel
theorem dX12_readDay_26 : decode cX12_readDay 26 = .ok (.invokevirtual 154, 3) := by decide +kernel
theorem dX12_readDay_29 : decode cX12_readDay 29 = .ok (.aload_n 0, 1) := by decide +kernel
theorem dX12_readDay_30 : decode cX12_readDay 30 = .ok (.iconst 0, 1) := by decide +kernel
theorem dX12_readDay_31 : decode cX12_readDay 31 = .ok (.bipush 9, 2) := by decide +kernel
theorem dX12_readDay_33 : decode cX12_readDay 33 = .ok (.invokevirtual 158, 3) := by decide +kernel
theorem dX12_readDay_36 : decode cX12_readDay 36 = .ok (.istore_n 3, 1) := by decide +kernel
theorem dX12_readDay_37 : decode cX12_readDay 37 = .ok (.aload_n 0, 1) := by decide +kernel
theorem dX12_readDay_38 : decode cX12_readDay 38 = .ok (.getfield 31, 3) := by decide +kernel
theorem dX12_readDay_41 : decode cX12_readDay 41 = .ok (.iload_n 1, 1) := by decide +kernel
theorem dX12_readDay_42 : decode cX12_readDay 42 = .ok (.iload_n 2, 1) := by decide +kernel
theorem dX12_readDay_43 : decode cX12_readDay 43 = .ok (.ifCond .eq 7, 3) := by decide +kernel
theorem dX12_readDay_46 : decode cX12_readDay 46 = .ok (.iload_n 3, 1) := by decide +kernel
theorem dX12_readDay_47 : decode cX12_readDay 47 = .ok (.goto 5, 3) := by decide +kernel
theorem dX12_readDay_50 : decode cX12_readDay 50 = .ok (.iload_n 3, 1) := by decide +kernel
theorem dX12_readDay_51 : decode cX12_readDay 51 = .ok (.ineg, 1) := by decide +kernel
theorem dX12_readDay_52 : decode cX12_readDay 52 = .ok (.iastore, 1) := by decide +kernel
theorem dX12_readDay_53 : decode cX12_readDay 53 = .ok (.aload_n 0, 1) := by decide +kernel
theorem dX12_readDay_54 : decode cX12_readDay 54 = .ok (.getfield 31, 3) := by decide +kernel
theorem dX12_readDay_57 : decode cX12_readDay 57 = .ok (.iload_n 1, 1) := by decide +kernel
theorem dX12_readDay_58 : decode cX12_readDay 58 = .ok (.iconst 1, 1) := by decide +kernel
theorem dX12_readDay_59 : decode cX12_readDay 59 = .ok (.iadd, 1) := by decide +kernel
theorem dX12_readDay_60 : decode cX12_readDay 60 = .ok (.iload_n 2, 1) := by decide +kernel
theorem dX12_readDay_61 : decode cX12_readDay 61 = .ok (.ifCond .eq 7, 3) := by decide +kernel
theorem dX12_readDay_64 : decode cX12_readDay 64 = .ok (.iconst 1, 1) := by decide +kernel
theorem dX12_readDay_65 : decode cX12_readDay 65 = .ok (.goto 4, 3) := by decide +kernel
theorem dX12_readDay_68 : decode cX12_readDay 68 = .ok (.iconst 0, 1) := by decide +kernel
theorem dX12_readDay_69 : decode cX12_readDay 69 = .ok (.iastore, 1) := by decide +kernel
theorem dX12_readDay_70 : decode cX12_readDay 70 = .ok (.aload_n 0, 1) := by decide +kernel
theorem dX12_readDay_71 : decode cX12_readDay 71 = .ok (.getfield 31, 3) := by decide +kernel
theorem dX12_readDay_74 : decode cX12_readDay 74 = .ok (.iconst 3, 1) := by decide +kernel
theorem dX12_readDay_75 : decode cX12_readDay 75 = .ok (.dup2, 1) := by decide +kernel
theorem dX12_readDay_76 : decode cX12_readDay 76 = .ok (.iaload, 1) := by decide +kernel
theorem dX12_readDay_77 : decode cX12_readDay 77 = .ok (.iconst 1, 1) := by decide +kernel
theorem dX12_readDay_78 : decode cX12_readDay 78 = .ok (.iadd, 1) := by decide +kernel
theorem dX12_readDay_79 : decode cX12_readDay 79 = .ok (.iastore, 1) := by decide +kernel
theorem dX12_readDay_80 : decode cX12_readDay 80 = .ok (.return_, 1) := by decide +kernel
noncomputable def vX12_readDay : List Cond := .code yX12_readDay cX12_readDay 4 none :: (([.fieldLink RX12 31 "IcicleClockModel" "fresh" "[I", .methodLink RX12 147 yX12_takes, .instanceMethod yX12_takes, .selects RX12 yX12_takes yX12_takes, .initialized RX12, .methodLink RX12 154 yX12_needs, .instanceMethod yX12_needs, .selects RX12 yX12_needs yX12_needs, .methodLink RX12 158 yX12_number, .instanceMethod yX12_number, .selects RX12 yX12_number yX12_number] : List Cond) ++ (wsX120 ++ (vX12_takes ++ (vX12_needs ++ vX12_number))))
theorem iX12_readDay_12 : ∀ w ∈ wsX120, w ∈ vX12_readDay := fun _ h => List.mem_cons_of_mem _ (List.mem_append_right _ (List.mem_append_left _ h))
theorem gs_X12_readDay : Gd vX12_readDay := Gd.cons (by decide +kernel) (Gd.app (Gd.r (by decide +kernel)) (Gd.app gwX_12 (Gd.app gs_X12_takes (Gd.app gs_X12_needs gs_X12_number))))
theorem gg_X12_readDay_X12_takes : GoodIn vX12_readDay (wsV RX12 147 RX12 yX12_takes vX12_takes) := goodIn_app (goodIn_r _ [2, 3, 4, 5] (by decide +kernel) (by decide +kernel)) (fun w h => ⟨List.mem_cons_of_mem _ (List.mem_append_right _ (List.mem_append_right _ (List.mem_append_left _ h))), gs_X12_takes w h⟩)
theorem gg_X12_readDay_X12_needs : GoodIn vX12_readDay (wsV RX12 154 RX12 yX12_needs vX12_needs) := goodIn_app (goodIn_r _ [6, 7, 8, 5] (by decide +kernel) (by decide +kernel)) (fun w h => ⟨List.mem_cons_of_mem _ (List.mem_append_right _ (List.mem_append_right _ (List.mem_append_right _ (List.mem_append_left _ h)))), gs_X12_needs w h⟩)
theorem gg_X12_readDay_X12_number : GoodIn vX12_readDay (wsV RX12 158 RX12 yX12_number vX12_number) := goodIn_app (goodIn_r _ [9, 10, 11, 5] (by decide +kernel) (by decide +kernel)) (fun w h => ⟨List.mem_cons_of_mem _ (List.mem_append_right _ (List.mem_append_right _ (List.mem_append_right _ (List.mem_append_right _ (h))))), gs_X12_number w h⟩)
set_option maxHeartbeats 4000000 in
set_option maxRecDepth 100000 in
theorem s_X12_readDay (l : Launch) (D : va_G) (cs : Nat → ClassId) (ad : Nat → Nat) (kS : kSt) (K : sK) (hKO : KO K) (hj : wJ ad 218) (g : Nat → va_E) (hW : WF (shp ad K) ad cs g) (hp0 : gA g 203 3 ≤ 13) : sV l yX12_readDay vX12_readDay { frames := 7, cells := 0, slots := 0, locals := 151 } D cs ad kS [.ref (ad 197)] g (fun g2 => WF (shp ad K) ad cs g2 ∧ (∀ j, j ≠ 197 ∧ j ≠ 203 → g2 j = g j) ∧ (gI g 197 8 ≤ gI g2 197 8)) := by
  refine Met.startS (cc := cX12_readDay) (maxL := 4) (ret := none) RX12 rfl (by decide) rfl (Nat.le_of_ble_eq_true rfl) ?_
  intro p e s m below meth c ls X Z hP hl
  have hx := X.1
  have hb := X.2.1
  have hS : va_S (wA ad 218) s.heap s.heap [] := va_S.rf
  have hA : ∀ i, i < 218 → wA ad 218 (ad i) := fun i h => ⟨i, h, rfl⟩
  have hfr : ∀ j, j ≠ 197 ∧ j ≠ 203 → g j = g j := fun _ _ => rfl
  have hl : lv_has ls 4 [(0, .ref (ad 197))] := hl
  obtain ⟨fsc_1, hgc_1, hOc_1⟩ := hW.obj (i := 197) (by decide) (sh_197 ad K)
  obtain ⟨x_3, hk_2, hlx_3, hhx_3⟩ := hOc_1.int 8 rfl
  have hgix_3 := gI_of hgc_1 hk_2
  refine lv_bipush (v := 9) hx hb dX12_readDay_0 (by decide) ?_
  refine lv_iconst (v := 2) hx hb dX12_readDay_2 (by decide) ?_
  refine lv_aload_n hx hb dX12_readDay_3 rfl (lv_at hl 0 rfl) ?_
  have hk_4 := hOc_1.ref 14 rfl
  refine q_get X iX12_readDay_12 hP (by decide) hgc_1 rfl 14 (by decide) (List.mem_of_getElem? (i := 1) rfl) (v := .ref (ad 203)) hk_4 dX12_readDay_4 ?_
  refine lv_iconst (v := 3) hx hb dX12_readDay_7 (by decide) ?_
  obtain ⟨fc_5, hgc_5, hFc_5⟩ := hW.arr (i := 203) (by decide) (sh_203 ad K)
  refine q_iald X hP (by decide) hgc_5 (by unfold vp_in; decide) dX12_readDay_8 ?_
  refine lv_topi (fun z_6 ez_6 => ?_)
  have hqz_6 : wq (3) z_6.toInt := ez_6 ▸ hFc_5 _
  have hz_6 : 0 ≤ z_6.toInt ∧ z_6.toInt ≤ 14 := by unfold wq at hqz_6; omega
  clear hqz_6
  have hgaz_6 : gA g 203 ((3 : Int32).toNatClampNeg) = z_6.toInt := by rw [ez_6]; exact gA_of hgc_5 _
  rw [(by decide : (3 : Int32).toNatClampNeg = 3)] at hgaz_6
  refine lv_imul hx hb dX12_readDay_9 ?_
  refine lv_topi (fun z_7 ez_7 => ?_)
  have hz_7 : z_7.toInt = 2 * z_6.toInt := n_mul (by decide : (2 : Int32).toInt = 2) (rfl : z_6.toInt = z_6.toInt) ez_7 (by omega) (by omega)
  refine lv_iadd hx hb dX12_readDay_10 ?_
  refine lv_topi (fun z_8 ez_8 => ?_)
  have hz_8 : z_8.toInt = 9 + z_7.toInt := n_add (by decide : (9 : Int32).toInt = 9) (rfl : z_7.toInt = z_7.toInt) ez_8 (by omega) (by omega)
  refine lv_istore_n (lv' := [(1, .int z_8), (0, .ref (ad 197))]) hx hb dX12_readDay_11 rfl hl (by decide) rfl (fun ls hl => ?_)
  refine lv_aload_n hx hb dX12_readDay_12 rfl (lv_at hl 1 rfl) ?_
  refine va_ldcS hx hb X.2.2.2.2.2.1 (sq_12_161 Z) dX12_readDay_13 ?_
  have hgi_9 := gI_of hgc_1 hk_2
  refine s_calli (q := (RX12, TX12, 40)) (As := [.ref (kS.1 6)]) (rest := []) X Z (s_X12_takes l D cs ad kS K hKO hj g hW 6 (by omega)) (cwV 1 X.2.2.2.2.1 gg_X12_readDay_X12_takes rfl rfl rfl (by decide +kernel) ⟨Nat.le_of_ble_eq_true rfl, Nat.le_of_ble_eq_true rfl⟩) (by decide) hgc_1 rfl hP hA hS.2.1 hS rfl hl.1 rfl (Nat.le_of_ble_eq_true rfl) dX12_readDay_15 ⟨Nat.le_of_ble_eq_true rfl, Nat.le_of_ble_eq_true rfl⟩ (fun r_12 g_11 H locs hw_10 hP hS => ?_)
  obtain ⟨hw_10W, hw_10f, hw_10⟩ := hw_10
  have hfr_13 : ∀ j, j ≠ 197 ∧ j ≠ 203 → g_11 j = g j := fun j hj => (hw_10f j (by omega)).trans (hfr j hj)
  have hg_14 := (hw_10f 203 (by omega)).trans hgc_5
  refine lv_istore_n (lv' := [(2, .int r_12), (1, .int z_8), (0, .ref (ad 197))]) hx hb dX12_readDay_18 rfl hl (by decide) rfl (fun ls hl => ?_)
  refine lv_iload_n hx hb dX12_readDay_19 rfl (lv_at hl 0 rfl) ?_
  have HJ29 : ∀ (G29 : Nat → va_E) (H : Heap) (locs : List Loc) (ls : Array Slot), gI g 197 8 ≤ gI G29 197 8 → WF (shp ad K) ad cs G29 → (∀ j, j ≠ 197 ∧ j ≠ 203 → G29 j = g j) → G29 203 = .inl (cs 1, 118, .inl fc_5) → va_P D vwCl (wL ad G29 218) H → va_S (wA ad 218) s.heap H locs → lv_has ls 4 [(2, .int r_12), (1, .int z_8), (0, .ref (ad 197))] → W p l e ({ frames := 7, cells := 0, slots := 0, locals := 151 } : Room) s m ([.ref (ad 197)] : List Value).toArray below meth c H locs 0 0 (MQ below (qV D ad 218 (fun g2 => WF (shp ad K) ad cs g2 ∧ (∀ j, j ≠ 197 ∧ j ≠ 203 → g2 j = g j) ∧ (gI g 197 8 ≤ gI g2 197 8))) ([.ref (ad 197)] : List Value).toArray s 0 0 (wA ad 218)) (F0 m 29 ls []) := by
    intro G29 H locs ls he29_0 hW29 hfr29 hg29_0 hP hS hl
    obtain ⟨fsc_15, hgc_15, hOc_15⟩ := hW29.obj (i := 197) (by decide) (sh_197 ad K)
    obtain ⟨x_17, hk_16, hlx_17, hhx_17⟩ := hOc_15.int 8 rfl
    have hgix_17 := gI_of hgc_15 hk_16
    refine lv_aload_n hx hb dX12_readDay_29 rfl (lv_at hl 2 rfl) ?_
    refine lv_iconst (v := 0) hx hb dX12_readDay_30 (by decide) ?_
    refine lv_bipush (v := 9) hx hb dX12_readDay_31 (by decide) ?_
    have hgi_19 := gI_of hgc_15 hk_16
    refine s_calli (q := (RX12, TX12, 40)) (As := [.int 0, .int 9]) (rest := []) X Z (s_X12_number l D cs ad kS K hKO hj G29 hW29 0 9) (cwV 2 X.2.2.2.2.1 gg_X12_readDay_X12_number rfl rfl rfl (by decide +kernel) ⟨Nat.le_of_ble_eq_true rfl, Nat.le_of_ble_eq_true rfl⟩) (by decide) hgc_15 rfl hP hA hS.2.1 hS rfl hl.1 rfl (Nat.le_of_ble_eq_true rfl) dX12_readDay_33 ⟨Nat.le_of_ble_eq_true rfl, Nat.le_of_ble_eq_true rfl⟩ (fun r_22 g_21 H locs hw_20 hP hS => ?_)
    obtain ⟨hw_20W, hw_20f, hw_20⟩ := hw_20
    have hfr_23 : ∀ j, j ≠ 197 ∧ j ≠ 203 → g_21 j = g j := fun j hj => (hw_20f j (by omega)).trans (hfr29 j hj)
    have hg_24 := (hw_20f 203 (by omega)).trans hg29_0
    have hqk_25 : (0 : Int32).toInt = 0 := by decide
    have hqk_26 : (9 : Int32).toInt = 9 := by decide
    refine lv_istore_n (lv' := [(3, .int r_22), (2, .int r_12), (1, .int z_8), (0, .ref (ad 197))]) hx hb dX12_readDay_36 rfl hl (by decide) rfl (fun ls hl => ?_)
    refine lv_aload_n hx hb dX12_readDay_37 rfl (lv_at hl 3 rfl) ?_
    obtain ⟨fsc_27, hgc_27, hOc_27⟩ := hw_20W.obj (i := 197) (by decide) (sh_197 ad K)
    have hk_28 := hOc_27.ref 14 rfl
    refine q_get X iX12_readDay_12 hP (by decide) hgc_27 rfl 14 (by decide) (List.mem_of_getElem? (i := 1) rfl) (v := .ref (ad 203)) hk_28 dX12_readDay_38 ?_
    refine lv_iload_n hx hb dX12_readDay_41 rfl (lv_at hl 2 rfl) ?_
    refine lv_iload_n hx hb dX12_readDay_42 rfl (lv_at hl 1 rfl) ?_
    refine lv_if_eq (tgt := 50) hx hb dX12_readDay_43 (by decide) (fun hc_29 => ?_) (fun hc_29 => ?_)
    · have hhc_29 := n_eq (rfl : r_12.toInt = r_12.toInt) (by decide : (0 : Int32).toInt = 0) hc_29
      refine lv_iload_n hx hb dX12_readDay_50 rfl (lv_at hl 0 rfl) ?_
      refine lv_ineg hx hb dX12_readDay_51 ?_
      refine lv_topi (fun z_30 ez_30 => ?_)
      have hc_52 := n_cl (rfl : z_8.toInt = z_8.toInt) (by omega)
      have hu_32 : wq (z_8.toNatClampNeg) (z_30 : Int32).toInt := by unfold wq; omega
      refine s_iast X hP hj hA hS (by decide) hg_24 (n_in (rfl : z_8.toInt = z_8.toInt) (by omega) (by omega)) dX12_readDay_52 hw_20W (sh_203 ad K) (hFc_5.put hu_32) (fun fc_31 gc_31 H locs ec_31 hFc_31 hgc_31 hfc_31 hWc_31 hP hS => ?_)
      have hg_34 := (hfc_31 197 (by decide)).trans hgc_27
      have hfr_33 : ∀ j, j ≠ 197 ∧ j ≠ 203 → gc_31 j = g j := fun j hj => (hfc_31 j (by omega)).trans (hfr_23 j hj)
      have hcl_35 := n_cl (rfl : z_8.toInt = z_8.toInt) (by omega)
      have hgtc_31 := gI_tr (hfc_31 197 (by decide)) 8
      refine lv_aload_n hx hb dX12_readDay_53 rfl (lv_at hl 3 rfl) ?_
      refine q_get X iX12_readDay_12 hP (by decide) hg_34 rfl 14 (by decide) (List.mem_of_getElem? (i := 1) rfl) (v := .ref (ad 203)) hk_28 dX12_readDay_54 ?_
      refine lv_iload_n hx hb dX12_readDay_57 rfl (lv_at hl 2 rfl) ?_
      refine lv_iconst (v := 1) hx hb dX12_readDay_58 (by decide) ?_
      refine lv_iadd hx hb dX12_readDay_59 ?_
      refine lv_topi (fun z_36 ez_36 => ?_)
      have hz_36 : z_36.toInt = z_8.toInt + 1 := n_add (rfl : z_8.toInt = z_8.toInt) (by decide : (1 : Int32).toInt = 1) ez_36 (by omega) (by omega)
      refine lv_iload_n hx hb dX12_readDay_60 rfl (lv_at hl 1 rfl) ?_
      refine lv_if_eq (tgt := 68) hx hb dX12_readDay_61 (by decide) (fun hc_37 => ?_) (fun hc_37 => by exfalso; have hhc_37 := n_ne (rfl : r_12.toInt = r_12.toInt) (by decide : (0 : Int32).toInt = 0) hc_37; omega)
      have hhc_37 := n_eq (rfl : r_12.toInt = r_12.toInt) (by decide : (0 : Int32).toInt = 0) hc_37
      refine lv_iconst (v := 0) hx hb dX12_readDay_68 (by decide) ?_
      have hc_69 := n_cl (rfl : z_36.toInt = z_36.toInt) (by omega)
      have hu_39 : wq (z_36.toNatClampNeg) (0 : Int32).toInt := by rw [(by decide : (0 : Int32).toInt = 0)]; unfold wq; omega
      refine s_iast X hP hj hA hS (by decide) hgc_31 (n_in (rfl : z_36.toInt = z_36.toInt) (by omega) (by omega)) dX12_readDay_69 hWc_31 (sh_203 ad K) (hFc_31.put hu_39) (fun fc_38 gc_38 H locs ec_38 hFc_38 hgc_38 hfc_38 hWc_38 hP hS => ?_)
      have hg_41 := (hfc_38 197 (by decide)).trans hg_34
      have hfr_40 : ∀ j, j ≠ 197 ∧ j ≠ 203 → gc_38 j = g j := fun j hj => (hfc_38 j (by omega)).trans (hfr_33 j hj)
      have hcl_42 := n_cl (rfl : z_36.toInt = z_36.toInt) (by omega)
      have hgtc_38 := gI_tr (hfc_38 197 (by decide)) 8
      refine lv_aload_n hx hb dX12_readDay_70 rfl (lv_at hl 3 rfl) ?_
      refine q_get X iX12_readDay_12 hP (by decide) hg_41 rfl 14 (by decide) (List.mem_of_getElem? (i := 1) rfl) (v := .ref (ad 203)) hk_28 dX12_readDay_71 ?_
      refine lv_iconst (v := 3) hx hb dX12_readDay_74 (by decide) ?_
      refine lv_dup2_11 hx hb dX12_readDay_75 rfl rfl ?_
      refine q_iald X hP (by decide) hgc_38 (by unfold vp_in; decide) dX12_readDay_76 ?_
      refine lv_topi (fun z_43 ez_43 => ?_)
      have hqz_43 : wq (3) z_43.toInt := ez_43 ▸ hFc_38 _
      have hz_43 : 0 ≤ z_43.toInt ∧ z_43.toInt ≤ 14 := by unfold wq at hqz_43; omega
      clear hqz_43
      have hl3 : (3 : Int32).toNatClampNeg = 3 := by decide
      have hsmz_43 : z_43.toInt = z_6.toInt := by rw [ez_43, ec_38, ec_31]; unfold upd; rw [if_neg (by omega), if_neg (by omega), ← ez_6]
      refine lv_iconst (v := 1) hx hb dX12_readDay_77 (by decide) ?_
      refine lv_iadd hx hb dX12_readDay_78 ?_
      refine lv_topi (fun z_44 ez_44 => ?_)
      have hz_44 : z_44.toInt = z_43.toInt + 1 := n_add (rfl : z_43.toInt = z_43.toInt) (by decide : (1 : Int32).toInt = 1) ez_44 (by omega) (by omega)
      have hu_46 : wq (3) (z_44 : Int32).toInt := by unfold wq; omega
      refine s_iast X hP hj hA hS (by decide) hgc_38 (by unfold vp_in; decide) dX12_readDay_79 hWc_38 (sh_203 ad K) (hFc_38.put hu_46) (fun fc_45 gc_45 H locs ec_45 hFc_45 hgc_45 hfc_45 hWc_45 hP hS => ?_)
      have hg_48 := (hfc_45 197 (by decide)).trans hg_41
      have hfr_47 : ∀ j, j ≠ 197 ∧ j ≠ 203 → gc_45 j = g j := fun j hj => (hfc_45 j (by omega)).trans (hfr_40 j hj)
      have hgtc_45 := gI_tr (hfc_45 197 (by decide)) 8
      obtain ⟨x_50, hk_49, hlx_50, hhx_50⟩ := hOc_27.int 8 rfl
      have hgix_50 := gI_of hg_48 hk_49
      exact q_vret X hP hS ⟨hWc_45, hfr_47, (by omega)⟩ dX12_readDay_80
    · have hhc_29 := n_ne (rfl : r_12.toInt = r_12.toInt) (by decide : (0 : Int32).toInt = 0) hc_29
      refine lv_iload_n hx hb dX12_readDay_46 rfl (lv_at hl 0 rfl) ?_
      refine lv_goto (tgt := 52) hx hb dX12_readDay_47 (by decide) ?_
      have hc_52 := n_cl (rfl : z_8.toInt = z_8.toInt) (by omega)
      have hu_53 : wq (z_8.toNatClampNeg) (r_22 : Int32).toInt := by unfold wq; omega
      refine s_iast X hP hj hA hS (by decide) hg_24 (n_in (rfl : z_8.toInt = z_8.toInt) (by omega) (by omega)) dX12_readDay_52 hw_20W (sh_203 ad K) (hFc_5.put hu_53) (fun fc_52 gc_52 H locs ec_52 hFc_52 hgc_52 hfc_52 hWc_52 hP hS => ?_)
      have hg_55 := (hfc_52 197 (by decide)).trans hgc_27
      have hfr_54 : ∀ j, j ≠ 197 ∧ j ≠ 203 → gc_52 j = g j := fun j hj => (hfc_52 j (by omega)).trans (hfr_23 j hj)
      have hcl_56 := n_cl (rfl : z_8.toInt = z_8.toInt) (by omega)
      have hgtc_52 := gI_tr (hfc_52 197 (by decide)) 8
      refine lv_aload_n hx hb dX12_readDay_53 rfl (lv_at hl 3 rfl) ?_
      refine q_get X iX12_readDay_12 hP (by decide) hg_55 rfl 14 (by decide) (List.mem_of_getElem? (i := 1) rfl) (v := .ref (ad 203)) hk_28 dX12_readDay_54 ?_
      refine lv_iload_n hx hb dX12_readDay_57 rfl (lv_at hl 2 rfl) ?_
      refine lv_iconst (v := 1) hx hb dX12_readDay_58 (by decide) ?_
      refine lv_iadd hx hb dX12_readDay_59 ?_
      refine lv_topi (fun z_57 ez_57 => ?_)
      have hz_57 : z_57.toInt = z_8.toInt + 1 := n_add (rfl : z_8.toInt = z_8.toInt) (by decide : (1 : Int32).toInt = 1) ez_57 (by omega) (by omega)
      refine lv_iload_n hx hb dX12_readDay_60 rfl (lv_at hl 1 rfl) ?_
      refine lv_if_eq (tgt := 68) hx hb dX12_readDay_61 (by decide) (fun hc_58 => by exfalso; have hhc_58 := n_eq (rfl : r_12.toInt = r_12.toInt) (by decide : (0 : Int32).toInt = 0) hc_58; omega) (fun hc_58 => ?_)
      have hhc_58 := n_ne (rfl : r_12.toInt = r_12.toInt) (by decide : (0 : Int32).toInt = 0) hc_58
      refine lv_iconst (v := 1) hx hb dX12_readDay_64 (by decide) ?_
      refine lv_goto (tgt := 69) hx hb dX12_readDay_65 (by decide) ?_
      have hc_69 := n_cl (rfl : z_57.toInt = z_57.toInt) (by omega)
      have hu_60 : wq (z_57.toNatClampNeg) (1 : Int32).toInt := by rw [(by decide : (1 : Int32).toInt = 1)]; unfold wq; omega
      refine s_iast X hP hj hA hS (by decide) hgc_52 (n_in (rfl : z_57.toInt = z_57.toInt) (by omega) (by omega)) dX12_readDay_69 hWc_52 (sh_203 ad K) (hFc_52.put hu_60) (fun fc_59 gc_59 H locs ec_59 hFc_59 hgc_59 hfc_59 hWc_59 hP hS => ?_)
      have hg_62 := (hfc_59 197 (by decide)).trans hg_55
      have hfr_61 : ∀ j, j ≠ 197 ∧ j ≠ 203 → gc_59 j = g j := fun j hj => (hfc_59 j (by omega)).trans (hfr_54 j hj)
      have hcl_63 := n_cl (rfl : z_57.toInt = z_57.toInt) (by omega)
      have hgtc_59 := gI_tr (hfc_59 197 (by decide)) 8
      refine lv_aload_n hx hb dX12_readDay_70 rfl (lv_at hl 3 rfl) ?_
      refine q_get X iX12_readDay_12 hP (by decide) hg_62 rfl 14 (by decide) (List.mem_of_getElem? (i := 1) rfl) (v := .ref (ad 203)) hk_28 dX12_readDay_71 ?_
      refine lv_iconst (v := 3) hx hb dX12_readDay_74 (by decide) ?_
      refine lv_dup2_11 hx hb dX12_readDay_75 rfl rfl ?_
      refine q_iald X hP (by decide) hgc_59 (by unfold vp_in; decide) dX12_readDay_76 ?_
      refine lv_topi (fun z_64 ez_64 => ?_)
      have hqz_64 : wq (3) z_64.toInt := ez_64 ▸ hFc_59 _
      have hz_64 : 0 ≤ z_64.toInt ∧ z_64.toInt ≤ 14 := by unfold wq at hqz_64; omega
      clear hqz_64
      have hl3 : (3 : Int32).toNatClampNeg = 3 := by decide
      have hsmz_64 : z_64.toInt = z_6.toInt := by rw [ez_64, ec_59, ec_52]; unfold upd; rw [if_neg (by omega), if_neg (by omega), ← ez_6]
      refine lv_iconst (v := 1) hx hb dX12_readDay_77 (by decide) ?_
      refine lv_iadd hx hb dX12_readDay_78 ?_
      refine lv_topi (fun z_65 ez_65 => ?_)
      have hz_65 : z_65.toInt = z_64.toInt + 1 := n_add (rfl : z_64.toInt = z_64.toInt) (by decide : (1 : Int32).toInt = 1) ez_65 (by omega) (by omega)
      have hu_67 : wq (3) (z_65 : Int32).toInt := by unfold wq; omega
      refine s_iast X hP hj hA hS (by decide) hgc_59 (by unfold vp_in; decide) dX12_readDay_79 hWc_59 (sh_203 ad K) (hFc_59.put hu_67) (fun fc_66 gc_66 H locs ec_66 hFc_66 hgc_66 hfc_66 hWc_66 hP hS => ?_)
      have hg_69 := (hfc_66 197 (by decide)).trans hg_62
      have hfr_68 : ∀ j, j ≠ 197 ∧ j ≠ 203 → gc_66 j = g j := fun j hj => (hfc_66 j (by omega)).trans (hfr_61 j hj)
      have hgtc_66 := gI_tr (hfc_66 197 (by decide)) 8
      obtain ⟨x_71, hk_70, hlx_71, hhx_71⟩ := hOc_27.int 8 rfl
      have hgix_71 := gI_of hg_69 hk_70
      exact q_vret X hP hS ⟨hWc_66, hfr_68, (by omega)⟩ dX12_readDay_80
  refine lv_if_ne (tgt := 29) hx hb dX12_readDay_20 (by decide) (fun hc_73 => ?_) (fun hc_73 => ?_)
  · have hhc_73 := n_ne (rfl : r_12.toInt = r_12.toInt) (by decide : (0 : Int32).toInt = 0) hc_73
    obtain ⟨fsc_74, hgc_74, hOc_74⟩ := hw_10W.obj (i := 197) (by decide) (sh_197 ad K)
    obtain ⟨x_76, hk_75, hlx_76, hhx_76⟩ := hOc_74.int 8 rfl
    have hgix_76 := gI_of hgc_74 hk_75
    exact HJ29 g_11 _ _ ls (by omega) hw_10W hfr_13 hg_14 hP hS (lv_sub hl [0, 1, 2] rfl)
  · have hhc_73 := n_eq (rfl : r_12.toInt = r_12.toInt) (by decide : (0 : Int32).toInt = 0) hc_73
    refine lv_aload_n hx hb dX12_readDay_23 rfl (lv_at hl 2 rfl) ?_
    refine va_ldcS hx hb X.2.2.2.2.2.1 (sq_12_163 Z) dX12_readDay_24 ?_
    obtain ⟨fsc_78, hgc_78, hOc_78⟩ := hw_10W.obj (i := 197) (by decide) (sh_197 ad K)
    obtain ⟨x_80, hk_79, hlx_80, hhx_80⟩ := hOc_78.int 8 rfl
    have hgix_80 := gI_of hgc_78 hk_79
    refine s_callv (q := (RX12, TX12, 40)) (As := [.ref (kS.1 5)]) (rest := []) X Z (s_X12_needs l D cs ad kS K hKO hj g_11 hw_10W 5 (by omega)) (cwV 1 X.2.2.2.2.1 gg_X12_readDay_X12_needs rfl rfl rfl (by decide +kernel) ⟨Nat.le_of_ble_eq_true rfl, Nat.le_of_ble_eq_true rfl⟩) (by decide) hgc_78 rfl hP hA hS.2.1 hS rfl hl.1 rfl (Nat.le_of_ble_eq_true rfl) dX12_readDay_26 ⟨Nat.le_of_ble_eq_true rfl, Nat.le_of_ble_eq_true rfl⟩ (fun g_83 H locs hw_82 hP hS => ?_)
    obtain ⟨hw_82W, hw_82f, hw_82⟩ := hw_82
    have hfr_85 : ∀ j, j ≠ 197 ∧ j ≠ 203 → g_83 j = g j := fun j hj => (hw_82f j (by omega)).trans (hfr_13 j hj)
    have hg_86 := (hw_82f 203 (by omega)).trans hg_14
    obtain ⟨fsc_87, hgc_87, hOc_87⟩ := hw_82W.obj (i := 197) (by decide) (sh_197 ad K)
    obtain ⟨x_89, hk_88, hlx_89, hhx_89⟩ := hOc_87.int 8 rfl
    have hgix_89 := gI_of hgc_87 hk_88
    exact HJ29 g_83 _ _ ls (by omega) hw_82W hfr_85 hg_86 hP hS (lv_sub hl [0, 1, 2] rfl)

theorem dX12_readIcicle_0 : decode cX12_readIcicle 0 = .ok (.bipush 42, 2) := by decide +kernel
theorem dX12_readIcicle_2 : decode cX12_readIcicle 2 = .ok (.iconst 3, 1) := by decide +kernel
theorem dX12_readIcicle_3 : decode cX12_readIcicle 3 = .ok (.aload_n 0, 1) := by decide +kernel
theorem dX12_readIcicle_4 : decode cX12_readIcicle 4 = .ok (.getfield 31, 3) := by decide +kernel
theorem dX12_readIcicle_7 : decode cX12_readIcicle 7 = .ok (.iconst 5, 1) := by decide +kernel
theorem dX12_readIcicle_8 : decode cX12_readIcicle 8 = .ok (.iaload, 1) := by decide +kernel
theorem dX12_readIcicle_9 : decode cX12_readIcicle 9 = .ok (.imul, 1) := by decide +kernel
theorem dX12_readIcicle_10 : decode cX12_readIcicle 10 = .ok (.iadd, 1) := by decide +kernel
theorem dX12_readIcicle_11 : decode cX12_readIcicle 11 = .ok (.istore_n 1, 1) := by decide +kernel
theorem dX12_readIcicle_12 : decode cX12_readIcicle 12 = .ok (.aload_n 0, 1) := by decide +kernel
theorem dX12_readIcicle_13 : decode cX12_readIcicle 13 = .ok (.getfield 31, 3) := by decide +kernel
theorem dX12_readIcicle_16 : decode cX12_readIcicle 16 = .ok (.iload_n 1, 1) := by decide +kernel
theorem dX12_readIcicle_17 : decode cX12_readIcicle 17 = .ok (.iconst 0, 1) := by decide +kernel
theorem dX12_readIcicle_18 : decode cX12_readIcicle 18 = .ok (.iadd, 1) := by decide +kernel
theorem dX12_readIcicle_19 : decode cX12_readIcicle 19 = .ok (.aload_n 0, 1) := by decide +kernel
theorem dX12_readIcicle_20 : decode cX12_readIcicle 20 = .ok (.ldc 165, 2) := by decide +kernel
theorem dX12_readIcicle_22 : decode cX12_readIcicle 22 = .ok (.iconst 0, 1) := by decide +kernel
theorem dX12_readIcicle_23 : decode cX12_readIcicle 23 = .ok (.aload_n 0, 1) := by decide +kernel
theorem dX12_readIcicle_24 : decode cX12_readIcicle 24 = .ok (.getfield 31, 3) := by decide +kernel
theorem dX12_readIcicle_27 : decode cX12_readIcicle 27 = .ok (.iconst 4, 1) := by decide +kernel
theorem dX12_readIcicle_28 : decode cX12_readIcicle 28 = .ok (.iaload, 1) := by decide +kernel
theorem dX12_readIcicle_29 : decode cX12_readIcicle 29 = .ok (.iconst 1, 1) := by decide +kernel
theorem dX12_readIcicle_30 : decode cX12_readIcicle 30 = .ok (.isub, 1) := by decide +kernel
theorem dX12_readIcicle_31 : decode cX12_readIcicle 31 = .ok (.invokevirtual 166, 3) := by decide +kernel
theorem dX12_readIcicle_34 : decode cX12_readIcicle 34 = .ok (.iastore, 1) := by decide +kernel
theorem dX12_readIcicle_35 : decode cX12_readIcicle 35 = .ok (.aload_n 0, 1) := by decide +kernel
theorem dX12_readIcicle_36 : decode cX12_readIcicle 36 = .ok (.getfield 31, 3) := by decide +kernel
theorem dX12_readIcicle_39 : decode cX12_readIcicle 39 = .ok (.iload_n 1, 1) := by decide +kernel
theorem dX12_readIcicle_40 : decode cX12_readIcicle 40 = .ok (.iconst 1, 1) := by decide +kernel
theorem dX12_readIcicle_41 : decode cX12_readIcicle 41 = .ok (.iadd, 1) := by decide +kernel
theorem dX12_readIcicle_42 : decode cX12_readIcicle 42 = .ok (.aload_n 0, 1) := by decide +kernel
theorem dX12_readIcicle_43 : decode cX12_readIcicle 43 = .ok (.ldc 170, 2) := by decide +kernel
theorem dX12_readIcicle_45 : decode cX12_readIcicle 45 = .ok (.iconst 1, 1) := by decide +kernel
theorem dX12_readIcicle_46 : decode cX12_readIcicle 46 = .ok (.bipush 99, 2) := by decide +kernel
theorem dX12_readIcicle_48 : decode cX12_readIcicle 48 = .ok (.invokevirtual 166, 3) := by decide +kernel
theorem dX12_readIcicle_51 : decode cX12_readIcicle 51 = .ok (.iastore, 1) := by decide +kernel
theorem dX12_readIcicle_52 : decode cX12_readIcicle 52 = .ok (.aload_n 0, 1) := by decide +kernel
theorem dX12_readIcicle_53 : decode cX12_readIcicle 53 = .ok (.getfield 31, 3) := by decide +kernel
theorem dX12_readIcicle_56 : decode cX12_readIcicle 56 = .ok (.iload_n 1, 1) := by decide +kernel
theorem dX12_readIcicle_57 : decode cX12_readIcicle 57 = .ok (.iconst 2, 1) := by decide +kernel
theorem dX12_readIcicle_58 : decode cX12_readIcicle 58 = .ok (.iadd, 1) := by decide +kernel
theorem dX12_readIcicle_59 : decode cX12_readIcicle 59 = .ok (.aload_n 0, 1) := by decide +kernel
theorem dX12_readIcicle_60 : decode cX12_readIcicle 60 = .ok (.ldc 171, 2) := by decide +kernel
theorem dX12_readIcicle_62 : decode cX12_readIcicle 62 = .ok (.iconst 0, 1) := by decide +kernel
theorem dX12_readIcicle_63 : decode cX12_readIcicle 63 = .ok (.bipush 23, 2) := by decide +kernel
theorem dX12_readIcicle_65 : decode cX12_readIcicle 65 = .ok (.invokevirtual 166, 3) := by decide +kernel
theorem dX12_readIcicle_68 : decode cX12_readIcicle 68 = .ok (.iastore, 1) := by decide +kernel
theorem dX12_readIcicle_69 : decode cX12_readIcicle 69 = .ok (.aload_n 0, 1) := by decide +kernel
theorem dX12_readIcicle_70 : decode cX12_readIcicle 70 = .ok (.getfield 31, 3) := by decide +kernel
theorem dX12_readIcicle_73 : decode cX12_readIcicle 73 = .ok (.iconst 5, 1) := by decide +kernel
theorem dX12_readIcicle_74 : decode cX12_readIcicle 74 = .ok (.dup2, 1) := by decide +kernel
theorem dX12_readIcicle_75 : decode cX12_readIcicle 75 = .ok (.iaload, 1) := by decide +kernel
theorem dX12_readIcicle_76 : decode cX12_readIcicle 76 = .ok (.iconst 1, 1) := by decide +kernel
theorem dX12_readIcicle_77 : decode cX12_readIcicle 77 = .ok (.iadd, 1) := by decide +kernel
theorem dX12_readIcicle_78 : decode cX12_readIcicle 78 = .ok (.iastore, 1) := by decide +kernel
theorem dX12_readIcicle_79 : decode cX12_readIcicle 79 = .ok (.return_, 1) := by decide +kernel
noncomputable def vX12_readIcicle : List Cond := .code yX12_readIcicle cX12_readIcicle 2 none :: (([.fieldLink RX12 31 "IcicleClockModel" "fresh" "[I", .methodLink RX12 166 yX12_told, .instanceMethod yX12_told, .selects RX12 yX12_told yX12_told, .initialized RX12] : List Cond) ++ (wsX120 ++ vX12_told))
theorem iX12_readIcicle_12 : ∀ w ∈ wsX120, w ∈ vX12_readIcicle := fun _ h => List.mem_cons_of_mem _ (List.mem_append_right _ (List.mem_append_left _ h))
theorem gs_X12_readIcicle : Gd vX12_readIcicle := Gd.cons (by decide +kernel) (Gd.app (Gd.r (by decide +kernel)) (Gd.app gwX_12 gs_X12_told))
theorem gg_X12_readIcicle_X12_told : GoodIn vX12_readIcicle (wsV RX12 166 RX12 yX12_told vX12_told) := goodIn_app (goodIn_r _ [2, 3, 4, 5] (by decide +kernel) (by decide +kernel)) (fun w h => ⟨List.mem_cons_of_mem _ (List.mem_append_right _ (List.mem_append_right _ (h))), gs_X12_told w h⟩)
set_option maxHeartbeats 4000000 in
set_option maxRecDepth 100000 in
theorem s_X12_readIcicle (l : Launch) (D : va_G) (cs : Nat → ClassId) (ad : Nat → Nat) (kS : kSt) (K : sK) (hKO : KO K) (hj : wJ ad 218) (g : Nat → va_E) (hW : WF (shp ad K) ad cs g) (hp0 : gA g 203 5 ≤ 7) : sV l yX12_readIcicle vX12_readIcicle { frames := 8, cells := 0, slots := 0, locals := 174 } D cs ad kS [.ref (ad 197)] g (fun g2 => WF (shp ad K) ad cs g2 ∧ (∀ j, j ≠ 197 ∧ j ≠ 203 → g2 j = g j) ∧ (gI g 197 8 ≤ gI g2 197 8)) := by
  refine Met.startS (cc := cX12_readIcicle) (maxL := 2) (ret := none) RX12 rfl (by decide) rfl (Nat.le_of_ble_eq_true rfl) ?_
  intro p e s m below meth c ls X Z hP hl
  have hx := X.1
  have hb := X.2.1
  have hS : va_S (wA ad 218) s.heap s.heap [] := va_S.rf
  have hA : ∀ i, i < 218 → wA ad 218 (ad i) := fun i h => ⟨i, h, rfl⟩
  have hfr : ∀ j, j ≠ 197 ∧ j ≠ 203 → g j = g j := fun _ _ => rfl
  have hl : lv_has ls 2 [(0, .ref (ad 197))] := hl
  obtain ⟨fsc_1, hgc_1, hOc_1⟩ := hW.obj (i := 197) (by decide) (sh_197 ad K)
  obtain ⟨x_3, hk_2, hlx_3, hhx_3⟩ := hOc_1.int 8 rfl
  have hgix_3 := gI_of hgc_1 hk_2
  refine lv_bipush (v := 42) hx hb dX12_readIcicle_0 (by decide) ?_
  refine lv_iconst (v := 3) hx hb dX12_readIcicle_2 (by decide) ?_
  refine lv_aload_n hx hb dX12_readIcicle_3 rfl (lv_at hl 0 rfl) ?_
  have hk_4 := hOc_1.ref 14 rfl
  refine q_get X iX12_readIcicle_12 hP (by decide) hgc_1 rfl 14 (by decide) (List.mem_of_getElem? (i := 1) rfl) (v := .ref (ad 203)) hk_4 dX12_readIcicle_4 ?_
  refine lv_iconst (v := 5) hx hb dX12_readIcicle_7 (by decide) ?_
  obtain ⟨fc_5, hgc_5, hFc_5⟩ := hW.arr (i := 203) (by decide) (sh_203 ad K)
  refine q_iald X hP (by decide) hgc_5 (by unfold vp_in; decide) dX12_readIcicle_8 ?_
  refine lv_topi (fun z_6 ez_6 => ?_)
  have hqz_6 : wq (5) z_6.toInt := ez_6 ▸ hFc_5 _
  have hz_6 : 0 ≤ z_6.toInt ∧ z_6.toInt ≤ 8 := by unfold wq at hqz_6; omega
  clear hqz_6
  have hgaz_6 : gA g 203 ((5 : Int32).toNatClampNeg) = z_6.toInt := by rw [ez_6]; exact gA_of hgc_5 _
  rw [(by decide : (5 : Int32).toNatClampNeg = 5)] at hgaz_6
  refine lv_imul hx hb dX12_readIcicle_9 ?_
  refine lv_topi (fun z_7 ez_7 => ?_)
  have hz_7 : z_7.toInt = 3 * z_6.toInt := n_mul (by decide : (3 : Int32).toInt = 3) (rfl : z_6.toInt = z_6.toInt) ez_7 (by omega) (by omega)
  refine lv_iadd hx hb dX12_readIcicle_10 ?_
  refine lv_topi (fun z_8 ez_8 => ?_)
  have hz_8 : z_8.toInt = 42 + z_7.toInt := n_add (by decide : (42 : Int32).toInt = 42) (rfl : z_7.toInt = z_7.toInt) ez_8 (by omega) (by omega)
  refine lv_istore_n (lv' := [(1, .int z_8), (0, .ref (ad 197))]) hx hb dX12_readIcicle_11 rfl hl (by decide) rfl (fun ls hl => ?_)
  refine lv_aload_n hx hb dX12_readIcicle_12 rfl (lv_at hl 1 rfl) ?_
  refine q_get X iX12_readIcicle_12 hP (by decide) hgc_1 rfl 14 (by decide) (List.mem_of_getElem? (i := 1) rfl) (v := .ref (ad 203)) hk_4 dX12_readIcicle_13 ?_
  refine lv_iload_n hx hb dX12_readIcicle_16 rfl (lv_at hl 0 rfl) ?_
  refine lv_iconst (v := 0) hx hb dX12_readIcicle_17 (by decide) ?_
  refine lv_iadd hx hb dX12_readIcicle_18 ?_
  refine lv_topi (fun z_9 ez_9 => ?_)
  have hz_9 : z_9.toInt = z_8.toInt + 0 := n_add (rfl : z_8.toInt = z_8.toInt) (by decide : (0 : Int32).toInt = 0) ez_9 (by omega) (by omega)
  refine lv_aload_n hx hb dX12_readIcicle_19 rfl (lv_at hl 1 rfl) ?_
  refine va_ldcS hx hb X.2.2.2.2.2.1 (sq_12_165 Z) dX12_readIcicle_20 ?_
  refine lv_iconst (v := 0) hx hb dX12_readIcicle_22 (by decide) ?_
  refine lv_aload_n hx hb dX12_readIcicle_23 rfl (lv_at hl 1 rfl) ?_
  refine q_get X iX12_readIcicle_12 hP (by decide) hgc_1 rfl 14 (by decide) (List.mem_of_getElem? (i := 1) rfl) (v := .ref (ad 203)) hk_4 dX12_readIcicle_24 ?_
  refine lv_iconst (v := 4) hx hb dX12_readIcicle_27 (by decide) ?_
  refine q_iald X hP (by decide) hgc_5 (by unfold vp_in; decide) dX12_readIcicle_28 ?_
  refine lv_topi (fun z_10 ez_10 => ?_)
  have hqz_10 : wq (4) z_10.toInt := ez_10 ▸ hFc_5 _
  have hz_10 : 0 ≤ z_10.toInt ∧ z_10.toInt ≤ 5 := by unfold wq at hqz_10; omega
  clear hqz_10
  refine lv_iconst (v := 1) hx hb dX12_readIcicle_29 (by decide) ?_
  refine lv_isub hx hb dX12_readIcicle_30 ?_
  refine lv_topi (fun z_11 ez_11 => ?_)
  have hz_11 : z_11.toInt = z_10.toInt - 1 := n_sub (rfl : z_10.toInt = z_10.toInt) (by decide : (1 : Int32).toInt = 1) ez_11 (by omega) (by omega)
  have hgi_12 := gI_of hgc_1 hk_2
  refine s_calli (q := (RX12, TX12, 40)) (As := [.ref (kS.1 10), .int 0, .int z_11]) (rest := [.int z_9, .ref (ad 203)]) X Z (s_X12_told l D cs ad kS K hKO hj g hW 10 0 z_11 (by omega)) (cwV 3 X.2.2.2.2.1 gg_X12_readIcicle_X12_told rfl rfl rfl (by decide +kernel) ⟨Nat.le_of_ble_eq_true rfl, Nat.le_of_ble_eq_true rfl⟩) (by decide) hgc_1 rfl hP hA hS.2.1 hS rfl hl.1 rfl (Nat.le_of_ble_eq_true rfl) dX12_readIcicle_31 ⟨Nat.le_of_ble_eq_true rfl, Nat.le_of_ble_eq_true rfl⟩ (fun r_15 g_14 H locs hw_13 hP hS => ?_)
  obtain ⟨hw_13W, hw_13f, hw_13⟩ := hw_13
  have hfr_16 : ∀ j, j ≠ 197 ∧ j ≠ 203 → g_14 j = g j := fun j hj => (hw_13f j (by omega)).trans (hfr j hj)
  have hg_17 := (hw_13f 203 (by omega)).trans hgc_5
  have hqk_18 : (0 : Int32).toInt = 0 := by decide
  have hc_34 := n_cl (rfl : z_9.toInt = z_9.toInt) (by omega)
  have hu_20 : wq (z_9.toNatClampNeg) (r_15 : Int32).toInt := by unfold wq; omega
  refine s_iast X hP hj hA hS (by decide) hg_17 (n_in (rfl : z_9.toInt = z_9.toInt) (by omega) (by omega)) dX12_readIcicle_34 hw_13W (sh_203 ad K) (hFc_5.put hu_20) (fun fc_19 gc_19 H locs ec_19 hFc_19 hgc_19 hfc_19 hWc_19 hP hS => ?_)
  have hfr_21 : ∀ j, j ≠ 197 ∧ j ≠ 203 → gc_19 j = g j := fun j hj => (hfc_19 j (by omega)).trans (hfr_16 j hj)
  have hcl_22 := n_cl (rfl : z_9.toInt = z_9.toInt) (by omega)
  have hgtc_19 := gI_tr (hfc_19 197 (by decide)) 8
  refine lv_aload_n hx hb dX12_readIcicle_35 rfl (lv_at hl 1 rfl) ?_
  obtain ⟨fsc_23, hgc_23, hOc_23⟩ := hWc_19.obj (i := 197) (by decide) (sh_197 ad K)
  have hk_24 := hOc_23.ref 14 rfl
  refine q_get X iX12_readIcicle_12 hP (by decide) hgc_23 rfl 14 (by decide) (List.mem_of_getElem? (i := 1) rfl) (v := .ref (ad 203)) hk_24 dX12_readIcicle_36 ?_
  refine lv_iload_n hx hb dX12_readIcicle_39 rfl (lv_at hl 0 rfl) ?_
  refine lv_iconst (v := 1) hx hb dX12_readIcicle_40 (by decide) ?_
  refine lv_iadd hx hb dX12_readIcicle_41 ?_
  refine lv_topi (fun z_25 ez_25 => ?_)
  have hz_25 : z_25.toInt = z_8.toInt + 1 := n_add (rfl : z_8.toInt = z_8.toInt) (by decide : (1 : Int32).toInt = 1) ez_25 (by omega) (by omega)
  refine lv_aload_n hx hb dX12_readIcicle_42 rfl (lv_at hl 1 rfl) ?_
  refine va_ldcS hx hb X.2.2.2.2.2.1 (sq_12_170 Z) dX12_readIcicle_43 ?_
  refine lv_iconst (v := 1) hx hb dX12_readIcicle_45 (by decide) ?_
  refine lv_bipush (v := 99) hx hb dX12_readIcicle_46 (by decide) ?_
  obtain ⟨x_27, hk_26, hlx_27, hhx_27⟩ := hOc_23.int 8 rfl
  have hgix_27 := gI_of hgc_23 hk_26
  refine s_calli (q := (RX12, TX12, 40)) (As := [.ref (kS.1 11), .int 1, .int 99]) (rest := [.int z_25, .ref (ad 203)]) X Z (s_X12_told l D cs ad kS K hKO hj gc_19 hWc_19 11 1 99 (by omega)) (cwV 3 X.2.2.2.2.1 gg_X12_readIcicle_X12_told rfl rfl rfl (by decide +kernel) ⟨Nat.le_of_ble_eq_true rfl, Nat.le_of_ble_eq_true rfl⟩) (by decide) hgc_23 rfl hP hA hS.2.1 hS rfl hl.1 rfl (Nat.le_of_ble_eq_true rfl) dX12_readIcicle_48 ⟨Nat.le_of_ble_eq_true rfl, Nat.le_of_ble_eq_true rfl⟩ (fun r_31 g_30 H locs hw_29 hP hS => ?_)
  obtain ⟨hw_29W, hw_29f, hw_29⟩ := hw_29
  have hfr_32 : ∀ j, j ≠ 197 ∧ j ≠ 203 → g_30 j = g j := fun j hj => (hw_29f j (by omega)).trans (hfr_21 j hj)
  have hg_33 := (hw_29f 203 (by omega)).trans hgc_19
  have hqk_34 : (1 : Int32).toInt = 1 := by decide
  have hqk_35 : (99 : Int32).toInt = 99 := by decide
  have hc_51 := n_cl (rfl : z_25.toInt = z_25.toInt) (by omega)
  have hu_37 : wq (z_25.toNatClampNeg) (r_31 : Int32).toInt := by unfold wq; omega
  refine s_iast X hP hj hA hS (by decide) hg_33 (n_in (rfl : z_25.toInt = z_25.toInt) (by omega) (by omega)) dX12_readIcicle_51 hw_29W (sh_203 ad K) (hFc_19.put hu_37) (fun fc_36 gc_36 H locs ec_36 hFc_36 hgc_36 hfc_36 hWc_36 hP hS => ?_)
  have hfr_38 : ∀ j, j ≠ 197 ∧ j ≠ 203 → gc_36 j = g j := fun j hj => (hfc_36 j (by omega)).trans (hfr_32 j hj)
  have hcl_39 := n_cl (rfl : z_25.toInt = z_25.toInt) (by omega)
  have hgtc_36 := gI_tr (hfc_36 197 (by decide)) 8
  refine lv_aload_n hx hb dX12_readIcicle_52 rfl (lv_at hl 1 rfl) ?_
  obtain ⟨fsc_40, hgc_40, hOc_40⟩ := hWc_36.obj (i := 197) (by decide) (sh_197 ad K)
  have hk_41 := hOc_40.ref 14 rfl
  refine q_get X iX12_readIcicle_12 hP (by decide) hgc_40 rfl 14 (by decide) (List.mem_of_getElem? (i := 1) rfl) (v := .ref (ad 203)) hk_41 dX12_readIcicle_53 ?_
  refine lv_iload_n hx hb dX12_readIcicle_56 rfl (lv_at hl 0 rfl) ?_
  refine lv_iconst (v := 2) hx hb dX12_readIcicle_57 (by decide) ?_
  refine lv_iadd hx hb dX12_readIcicle_58 ?_
  refine lv_topi (fun z_42 ez_42 => ?_)
  have hz_42 : z_42.toInt = z_8.toInt + 2 := n_add (rfl : z_8.toInt = z_8.toInt) (by decide : (2 : Int32).toInt = 2) ez_42 (by omega) (by omega)
  refine lv_aload_n hx hb dX12_readIcicle_59 rfl (lv_at hl 1 rfl) ?_
  refine va_ldcS hx hb X.2.2.2.2.2.1 (sq_12_171 Z) dX12_readIcicle_60 ?_
  refine lv_iconst (v := 0) hx hb dX12_readIcicle_62 (by decide) ?_
  refine lv_bipush (v := 23) hx hb dX12_readIcicle_63 (by decide) ?_
  obtain ⟨x_44, hk_43, hlx_44, hhx_44⟩ := hOc_40.int 8 rfl
  have hgix_44 := gI_of hgc_40 hk_43
  refine s_calli (q := (RX12, TX12, 40)) (As := [.ref (kS.1 12), .int 0, .int 23]) (rest := [.int z_42, .ref (ad 203)]) X Z (s_X12_told l D cs ad kS K hKO hj gc_36 hWc_36 12 0 23 (by omega)) (cwV 3 X.2.2.2.2.1 gg_X12_readIcicle_X12_told rfl rfl rfl (by decide +kernel) ⟨Nat.le_of_ble_eq_true rfl, Nat.le_of_ble_eq_true rfl⟩) (by decide) hgc_40 rfl hP hA hS.2.1 hS rfl hl.1 rfl (Nat.le_of_ble_eq_true rfl) dX12_readIcicle_65 ⟨Nat.le_of_ble_eq_true rfl, Nat.le_of_ble_eq_true rfl⟩ (fun r_48 g_47 H locs hw_46 hP hS => ?_)
  obtain ⟨hw_46W, hw_46f, hw_46⟩ := hw_46
  have hfr_49 : ∀ j, j ≠ 197 ∧ j ≠ 203 → g_47 j = g j := fun j hj => (hw_46f j (by omega)).trans (hfr_38 j hj)
  have hg_50 := (hw_46f 203 (by omega)).trans hgc_36
  have hqk_51 : (0 : Int32).toInt = 0 := by decide
  have hqk_52 : (23 : Int32).toInt = 23 := by decide
  have hc_68 := n_cl (rfl : z_42.toInt = z_42.toInt) (by omega)
  have hu_54 : wq (z_42.toNatClampNeg) (r_48 : Int32).toInt := by unfold wq; omega
  refine s_iast X hP hj hA hS (by decide) hg_50 (n_in (rfl : z_42.toInt = z_42.toInt) (by omega) (by omega)) dX12_readIcicle_68 hw_46W (sh_203 ad K) (hFc_36.put hu_54) (fun fc_53 gc_53 H locs ec_53 hFc_53 hgc_53 hfc_53 hWc_53 hP hS => ?_)
  have hfr_55 : ∀ j, j ≠ 197 ∧ j ≠ 203 → gc_53 j = g j := fun j hj => (hfc_53 j (by omega)).trans (hfr_49 j hj)
  have hcl_56 := n_cl (rfl : z_42.toInt = z_42.toInt) (by omega)
  have hgtc_53 := gI_tr (hfc_53 197 (by decide)) 8
  refine lv_aload_n hx hb dX12_readIcicle_69 rfl (lv_at hl 1 rfl) ?_
  obtain ⟨fsc_57, hgc_57, hOc_57⟩ := hWc_53.obj (i := 197) (by decide) (sh_197 ad K)
  have hk_58 := hOc_57.ref 14 rfl
  refine q_get X iX12_readIcicle_12 hP (by decide) hgc_57 rfl 14 (by decide) (List.mem_of_getElem? (i := 1) rfl) (v := .ref (ad 203)) hk_58 dX12_readIcicle_70 ?_
  refine lv_iconst (v := 5) hx hb dX12_readIcicle_73 (by decide) ?_
  refine lv_dup2_11 hx hb dX12_readIcicle_74 rfl rfl ?_
  refine q_iald X hP (by decide) hgc_53 (by unfold vp_in; decide) dX12_readIcicle_75 ?_
  refine lv_topi (fun z_59 ez_59 => ?_)
  have hqz_59 : wq (5) z_59.toInt := ez_59 ▸ hFc_53 _
  have hz_59 : 0 ≤ z_59.toInt ∧ z_59.toInt ≤ 8 := by unfold wq at hqz_59; omega
  clear hqz_59
  have hl3 : (5 : Int32).toNatClampNeg = 5 := by decide
  have hsmz_59 : z_59.toInt = z_6.toInt := by rw [ez_59, ec_53, ec_36, ec_19]; unfold upd; rw [if_neg (by omega), if_neg (by omega), if_neg (by omega), ← ez_6]
  refine lv_iconst (v := 1) hx hb dX12_readIcicle_76 (by decide) ?_
  refine lv_iadd hx hb dX12_readIcicle_77 ?_
  refine lv_topi (fun z_60 ez_60 => ?_)
  have hz_60 : z_60.toInt = z_59.toInt + 1 := n_add (rfl : z_59.toInt = z_59.toInt) (by decide : (1 : Int32).toInt = 1) ez_60 (by omega) (by omega)
  have hu_62 : wq (5) (z_60 : Int32).toInt := by unfold wq; omega
  refine s_iast X hP hj hA hS (by decide) hgc_53 (by unfold vp_in; decide) dX12_readIcicle_78 hWc_53 (sh_203 ad K) (hFc_53.put hu_62) (fun fc_61 gc_61 H locs ec_61 hFc_61 hgc_61 hfc_61 hWc_61 hP hS => ?_)
  have hg_64 := (hfc_61 197 (by decide)).trans hgc_57
  have hfr_63 : ∀ j, j ≠ 197 ∧ j ≠ 203 → gc_61 j = g j := fun j hj => (hfc_61 j (by omega)).trans (hfr_55 j hj)
  have hgtc_61 := gI_tr (hfc_61 197 (by decide)) 8
  obtain ⟨x_66, hk_65, hlx_66, hhx_66⟩ := hOc_57.int 8 rfl
  have hgix_66 := gI_of hg_64 hk_65
  exact q_vret X hP hS ⟨hWc_61, hfr_63, (by omega)⟩ dX12_readIcicle_79
